set_option maxHeartbeats 4000000 in
set_option maxRecDepth 100000 in
theorem c_X8_spread_10 (l : Launch) (V : GV) (y : Nat → Nat) (h0 : Nat) (h1 : Nat) (h2 : Nat) (h3 : Nat) (h4 : Nat) (h5 : Nat) (h6 : Nat) (h7 : Nat) (h8 : Nat) (h9 : Nat) : Ct l V yX8_spread (.code yX8_spread cX8_spread 4 none) 4 [.ref h0, .int 5, .int 10] [(h2, aI V 1 (fun _ => 0)), (h3, aI V 1 (fun _ => 0)), (h6, aI V 4 (fun _ => 0)), (h0, .inr (8, [.int 0, .int 1, .ref h7, .ref h8, .ref h2, .int 1, .int 1, .ref (y 19), .ref h9, .ref h4, .ref h6, .ref h1, .ref h5, .ref h3, .int 0, .int 0, .int 1])), (h8, aI V 1 (fun _ => 0))] 0 0 (QV V (fun (w : va_W) => (w = [(h2, aI V 1 (upd (fun _ => 0) 0 10000)), (h3, aI V 1 (upd (fun _ => 0) 0 100000)), (h6, aI V 4 (fun _ => 0)), (h0, .inr (8, [.int 0, .int 1, .ref h7, .ref h8, .ref h3, .int 1, .int 1, .ref (y 19), .ref h9, .ref h4, .ref h6, .ref h1, .ref h5, .ref h2, .int 0, .int 0, .int 1])), (h8, aI V 1 (fun _ => 0))]))) := by
  refine Ct.of (by decide) (Nat.le_of_ble_eq_true rfl) (fun p e s m below meth c A ls hx hb hr hml hown hlk hnm hg hP hK hD hE hA hS hl => ?_)
  have hl : lv_has ls 4 [(0, .ref h0), (1, .int 5), (2, .int 10)] := hl
  refine lv_aload_n hx hb dX8_spread_0 rfl (lv_at hl 0 rfl) ?_
  refine jnV (wr := [(h3, aI V 1 (fun _ => 0)), (h6, aI V 4 (fun _ => 0)), (h8, aI V 1 (fun _ => 0))]) (rnV (rest := []) ⟨hx, hb, hml, hown, hg⟩ (c_X8_beginSpread_3 l V y h0 h2 h3 h6 h7 h8 h9 h4 h1 h5) mt_X8_beginSpread q_4_168 ⟨Nat.le_of_ble_eq_true rfl, Nat.le_of_ble_eq_true rfl⟩ hK hP hD hS hA hE [0, 3] rfl rfl 3 rfl rfl rfl rfl hl.1 rfl (Nat.le_of_ble_eq_true rfl) dX8_spread_1 ⟨Nat.le_of_ble_eq_true rfl, Nat.le_of_ble_eq_true rfl⟩) hP hD hS hA [0, 3] [1, 2, 4] rfl rfl rfl (by decide) (fun  w H locs hw hP hD hS => ?_)
  subst hw
  have hP : va_P V.1 vwCl [(h3, aI V 1 (fun _ => 0)), (h6, aI V 4 (fun _ => 0)), (h8, aI V 1 (fun _ => 0)), (h2, aI V 1 (upd (fun _ => 0) 0 1)), (h0, .inr (8, [.int 0, .int 1, .ref h7, .ref h8, .ref h2, .int 1, .int 1, .ref (y 19), .ref h9, .ref h4, .ref h6, .ref h1, .ref h5, .ref h3, .int 0, .int 0, .int 1]))] H := hP
  have hD : va_D A [(h3, aI V 1 (fun _ => 0)), (h6, aI V 4 (fun _ => 0)), (h8, aI V 1 (fun _ => 0)), (h2, aI V 1 (upd (fun _ => 0) 0 1)), (h0, .inr (8, [.int 0, .int 1, .ref h7, .ref h8, .ref h2, .int 1, .int 1, .ref (y 19), .ref h9, .ref h4, .ref h6, .ref h1, .ref h5, .ref h3, .int 0, .int 0, .int 1]))] := hD
  refine lv_iconst (v := 0) hx hb dX8_spread_4 (by decide) ?_
  refine lv_istore_n (lv' := [(3, .int 0), (0, .ref h0), (1, .int 5), (2, .int 10)]) hx hb dX8_spread_5 rfl hl (by decide) rfl (fun ls hl => ?_)
  refine lv_iload_n hx hb dX8_spread_6 rfl (lv_at hl 0 rfl) ?_
  refine lv_iload_n hx hb dX8_spread_7 rfl (lv_at hl 2 rfl) ?_
  refine lv_icmp_ge (tgt := 23) hx hb dX8_spread_8 (by decide) (fun c_1 => absurd c_1 (by decide)) (fun _ => ?_)
  refine lv_aload_n hx hb dX8_spread_11 rfl (lv_at hl 1 rfl) ?_
  refine lv_iload_n hx hb dX8_spread_12 rfl (lv_at hl 0 rfl) ?_
  refine lv_iload_n hx hb dX8_spread_13 rfl (lv_at hl 3 rfl) ?_
  refine jnV (wr := []) (rnV (rest := []) ⟨hx, hb, hml, hown, hg⟩ (c_X8_spreadOneNight_1 l V y h0 h3 h6 h8 h2 h7 h9 h4 h1 h5) mt_X8_spreadOneNight q_4_178 ⟨Nat.le_of_ble_eq_true rfl, Nat.le_of_ble_eq_true rfl⟩ hK hP hD hS hA hE [0, 1, 2, 3, 4] rfl rfl 4 rfl rfl rfl rfl hl.1 rfl (Nat.le_of_ble_eq_true rfl) dX8_spread_14 ⟨Nat.le_of_ble_eq_true rfl, Nat.le_of_ble_eq_true rfl⟩) hP hD hS hA [0, 1, 2, 3, 4] [] rfl rfl rfl (by decide) (fun  w H locs hw hP hD hS => ?_)
  subst hw
  have hP : va_P V.1 vwCl [(h3, aI V 1 (upd (fun _ => 0) 0 10)), (h6, aI V 4 (fun _ => 0)), (h8, aI V 1 (fun _ => 0)), (h2, aI V 1 (upd (fun _ => 0) 0 1)), (h0, .inr (8, [.int 0, .int 1, .ref h7, .ref h8, .ref h3, .int 1, .int 1, .ref (y 19), .ref h9, .ref h4, .ref h6, .ref h1, .ref h5, .ref h2, .int 0, .int 0, .int 1]))] H := hP
  have hD : va_D A [(h3, aI V 1 (upd (fun _ => 0) 0 10)), (h6, aI V 4 (fun _ => 0)), (h8, aI V 1 (fun _ => 0)), (h2, aI V 1 (upd (fun _ => 0) 0 1)), (h0, .inr (8, [.int 0, .int 1, .ref h7, .ref h8, .ref h3, .int 1, .int 1, .ref (y 19), .ref h9, .ref h4, .ref h6, .ref h1, .ref h5, .ref h2, .int 0, .int 0, .int 1]))] := hD
  refine lv_iinc (v := 1) (lv' := [(3, .int 1), (0, .ref h0), (1, .int 5), (2, .int 10)]) hx hb dX8_spread_17 hl (k := 0) rfl (by decide +kernel) (by decide) rfl (fun ls hl => ?_)
  refine lv_goto (tgt := 6) hx hb dX8_spread_20 (by decide) ?_
  refine lv_iload_n hx hb dX8_spread_6 rfl (lv_at hl 0 rfl) ?_
  refine lv_iload_n hx hb dX8_spread_7 rfl (lv_at hl 2 rfl) ?_
  refine lv_icmp_ge (tgt := 23) hx hb dX8_spread_8 (by decide) (fun c_2 => absurd c_2 (by decide)) (fun _ => ?_)
  refine lv_aload_n hx hb dX8_spread_11 rfl (lv_at hl 1 rfl) ?_
  refine lv_iload_n hx hb dX8_spread_12 rfl (lv_at hl 0 rfl) ?_
  refine lv_iload_n hx hb dX8_spread_13 rfl (lv_at hl 3 rfl) ?_
  refine jnV (wr := []) (rnV (rest := []) ⟨hx, hb, hml, hown, hg⟩ (c_X8_spreadOneNight_3 l V y h0 h3 h6 h8 h2 h7 h9 h4 h1 h5) mt_X8_spreadOneNight q_4_178 ⟨Nat.le_of_ble_eq_true rfl, Nat.le_of_ble_eq_true rfl⟩ hK hP hD hS hA hE [0, 1, 2, 3, 4] rfl rfl 4 rfl rfl rfl rfl hl.1 rfl (Nat.le_of_ble_eq_true rfl) dX8_spread_14 ⟨Nat.le_of_ble_eq_true rfl, Nat.le_of_ble_eq_true rfl⟩) hP hD hS hA [0, 1, 2, 3, 4] [] rfl rfl rfl (by decide) (fun  w H locs hw hP hD hS => ?_)
  subst hw
  have hP : va_P V.1 vwCl [(h3, aI V 1 (upd (fun _ => 0) 0 10)), (h6, aI V 4 (fun _ => 0)), (h8, aI V 1 (fun _ => 0)), (h2, aI V 1 (upd (fun _ => 0) 0 100)), (h0, .inr (8, [.int 0, .int 1, .ref h7, .ref h8, .ref h2, .int 1, .int 1, .ref (y 19), .ref h9, .ref h4, .ref h6, .ref h1, .ref h5, .ref h3, .int 0, .int 0, .int 1]))] H := hP
  have hD : va_D A [(h3, aI V 1 (upd (fun _ => 0) 0 10)), (h6, aI V 4 (fun _ => 0)), (h8, aI V 1 (fun _ => 0)), (h2, aI V 1 (upd (fun _ => 0) 0 100)), (h0, .inr (8, [.int 0, .int 1, .ref h7, .ref h8, .ref h2, .int 1, .int 1, .ref (y 19), .ref h9, .ref h4, .ref h6, .ref h1, .ref h5, .ref h3, .int 0, .int 0, .int 1]))] := hD
  refine lv_iinc (v := 2) (lv' := [(3, .int 2), (0, .ref h0), (1, .int 5), (2, .int 10)]) hx hb dX8_spread_17 hl (k := 0) rfl (by decide +kernel) (by decide) rfl (fun ls hl => ?_)
  refine lv_goto (tgt := 6) hx hb dX8_spread_20 (by decide) ?_
  refine lv_iload_n hx hb dX8_spread_6 rfl (lv_at hl 0 rfl) ?_
  refine lv_iload_n hx hb dX8_spread_7 rfl (lv_at hl 2 rfl) ?_
  refine lv_icmp_ge (tgt := 23) hx hb dX8_spread_8 (by decide) (fun c_3 => absurd c_3 (by decide)) (fun _ => ?_)
  refine lv_aload_n hx hb dX8_spread_11 rfl (lv_at hl 1 rfl) ?_
  refine lv_iload_n hx hb dX8_spread_12 rfl (lv_at hl 0 rfl) ?_
  refine lv_iload_n hx hb dX8_spread_13 rfl (lv_at hl 3 rfl) ?_
  refine jnV (wr := []) (rnV (rest := []) ⟨hx, hb, hml, hown, hg⟩ (c_X8_spreadOneNight_5 l V y h0 h3 h6 h8 h2 h7 h9 h4 h1 h5) mt_X8_spreadOneNight q_4_178 ⟨Nat.le_of_ble_eq_true rfl, Nat.le_of_ble_eq_true rfl⟩ hK hP hD hS hA hE [0, 1, 2, 3, 4] rfl rfl 4 rfl rfl rfl rfl hl.1 rfl (Nat.le_of_ble_eq_true rfl) dX8_spread_14 ⟨Nat.le_of_ble_eq_true rfl, Nat.le_of_ble_eq_true rfl⟩) hP hD hS hA [0, 1, 2, 3, 4] [] rfl rfl rfl (by decide) (fun  w H locs hw hP hD hS => ?_)
  subst hw
  have hP : va_P V.1 vwCl [(h3, aI V 1 (upd (fun _ => 0) 0 1000)), (h6, aI V 4 (fun _ => 0)), (h8, aI V 1 (fun _ => 0)), (h2, aI V 1 (upd (fun _ => 0) 0 100)), (h0, .inr (8, [.int 0, .int 1, .ref h7, .ref h8, .ref h3, .int 1, .int 1, .ref (y 19), .ref h9, .ref h4, .ref h6, .ref h1, .ref h5, .ref h2, .int 0, .int 0, .int 1]))] H := hP
  have hD : va_D A [(h3, aI V 1 (upd (fun _ => 0) 0 1000)), (h6, aI V 4 (fun _ => 0)), (h8, aI V 1 (fun _ => 0)), (h2, aI V 1 (upd (fun _ => 0) 0 100)), (h0, .inr (8, [.int 0, .int 1, .ref h7, .ref h8, .ref h3, .int 1, .int 1, .ref (y 19), .ref h9, .ref h4, .ref h6, .ref h1, .ref h5, .ref h2, .int 0, .int 0, .int 1]))] := hD
  refine lv_iinc (v := 3) (lv' := [(3, .int 3), (0, .ref h0), (1, .int 5), (2, .int 10)]) hx hb dX8_spread_17 hl (k := 0) rfl (by decide +kernel) (by decide) rfl (fun ls hl => ?_)
  refine lv_goto (tgt := 6) hx hb dX8_spread_20 (by decide) ?_
  refine lv_iload_n hx hb dX8_spread_6 rfl (lv_at hl 0 rfl) ?_
  refine lv_iload_n hx hb dX8_spread_7 rfl (lv_at hl 2 rfl) ?_
  refine lv_icmp_ge (tgt := 23) hx hb dX8_spread_8 (by decide) (fun c_4 => absurd c_4 (by decide)) (fun _ => ?_)
  refine lv_aload_n hx hb dX8_spread_11 rfl (lv_at hl 1 rfl) ?_
  refine lv_iload_n hx hb dX8_spread_12 rfl (lv_at hl 0 rfl) ?_
  refine lv_iload_n hx hb dX8_spread_13 rfl (lv_at hl 3 rfl) ?_
  refine jnV (wr := []) (rnV (rest := []) ⟨hx, hb, hml, hown, hg⟩ (c_X8_spreadOneNight_7 l V y h0 h3 h6 h8 h2 h7 h9 h4 h1 h5) mt_X8_spreadOneNight q_4_178 ⟨Nat.le_of_ble_eq_true rfl, Nat.le_of_ble_eq_true rfl⟩ hK hP hD hS hA hE [0, 1, 2, 3, 4] rfl rfl 4 rfl rfl rfl rfl hl.1 rfl (Nat.le_of_ble_eq_true rfl) dX8_spread_14 ⟨Nat.le_of_ble_eq_true rfl, Nat.le_of_ble_eq_true rfl⟩) hP hD hS hA [0, 1, 2, 3, 4] [] rfl rfl rfl (by decide) (fun  w H locs hw hP hD hS => ?_)
  subst hw
  have hP : va_P V.1 vwCl [(h3, aI V 1 (upd (fun _ => 0) 0 1000)), (h6, aI V 4 (fun _ => 0)), (h8, aI V 1 (fun _ => 0)), (h2, aI V 1 (upd (fun _ => 0) 0 10000)), (h0, .inr (8, [.int 0, .int 1, .ref h7, .ref h8, .ref h2, .int 1, .int 1, .ref (y 19), .ref h9, .ref h4, .ref h6, .ref h1, .ref h5, .ref h3, .int 0, .int 0, .int 1]))] H := hP
  have hD : va_D A [(h3, aI V 1 (upd (fun _ => 0) 0 1000)), (h6, aI V 4 (fun _ => 0)), (h8, aI V 1 (fun _ => 0)), (h2, aI V 1 (upd (fun _ => 0) 0 10000)), (h0, .inr (8, [.int 0, .int 1, .ref h7, .ref h8, .ref h2, .int 1, .int 1, .ref (y 19), .ref h9, .ref h4, .ref h6, .ref h1, .ref h5, .ref h3, .int 0, .int 0, .int 1]))] := hD
  refine lv_iinc (v := 4) (lv' := [(3, .int 4), (0, .ref h0), (1, .int 5), (2, .int 10)]) hx hb dX8_spread_17 hl (k := 0) rfl (by decide +kernel) (by decide) rfl (fun ls hl => ?_)
  refine lv_goto (tgt := 6) hx hb dX8_spread_20 (by decide) ?_
  refine lv_iload_n hx hb dX8_spread_6 rfl (lv_at hl 0 rfl) ?_
  refine lv_iload_n hx hb dX8_spread_7 rfl (lv_at hl 2 rfl) ?_
  refine lv_icmp_ge (tgt := 23) hx hb dX8_spread_8 (by decide) (fun c_5 => absurd c_5 (by decide)) (fun _ => ?_)
  refine lv_aload_n hx hb dX8_spread_11 rfl (lv_at hl 1 rfl) ?_
  refine lv_iload_n hx hb dX8_spread_12 rfl (lv_at hl 0 rfl) ?_
  refine lv_iload_n hx hb dX8_spread_13 rfl (lv_at hl 3 rfl) ?_
  refine jnV (wr := []) (rnV (rest := []) ⟨hx, hb, hml, hown, hg⟩ (c_X8_spreadOneNight_9 l V y h0 h3 h6 h8 h2 h7 h9 h4 h1 h5) mt_X8_spreadOneNight q_4_178 ⟨Nat.le_of_ble_eq_true rfl, Nat.le_of_ble_eq_true rfl⟩ hK hP hD hS hA hE [0, 1, 2, 3, 4] rfl rfl 4 rfl rfl rfl rfl hl.1 rfl (Nat.le_of_ble_eq_true rfl) dX8_spread_14 ⟨Nat.le_of_ble_eq_true rfl, Nat.le_of_ble_eq_true rfl⟩) hP hD hS hA [0, 1, 2, 3, 4] [] rfl rfl rfl (by decide) (fun  w H locs hw hP hD hS => ?_)
  subst hw
  have hP : va_P V.1 vwCl [(h3, aI V 1 (upd (fun _ => 0) 0 100000)), (h6, aI V 4 (fun _ => 0)), (h8, aI V 1 (fun _ => 0)), (h2, aI V 1 (upd (fun _ => 0) 0 10000)), (h0, .inr (8, [.int 0, .int 1, .ref h7, .ref h8, .ref h3, .int 1, .int 1, .ref (y 19), .ref h9, .ref h4, .ref h6, .ref h1, .ref h5, .ref h2, .int 0, .int 0, .int 1]))] H := hP
  have hD : va_D A [(h3, aI V 1 (upd (fun _ => 0) 0 100000)), (h6, aI V 4 (fun _ => 0)), (h8, aI V 1 (fun _ => 0)), (h2, aI V 1 (upd (fun _ => 0) 0 10000)), (h0, .inr (8, [.int 0, .int 1, .ref h7, .ref h8, .ref h3, .int 1, .int 1, .ref (y 19), .ref h9, .ref h4, .ref h6, .ref h1, .ref h5, .ref h2, .int 0, .int 0, .int 1]))] := hD
  refine lv_iinc (v := 5) (lv' := [(3, .int 5), (0, .ref h0), (1, .int 5), (2, .int 10)]) hx hb dX8_spread_17 hl (k := 0) rfl (by decide +kernel) (by decide) rfl (fun ls hl => ?_)
  refine lv_goto (tgt := 6) hx hb dX8_spread_20 (by decide) ?_
  refine lv_iload_n hx hb dX8_spread_6 rfl (lv_at hl 0 rfl) ?_
  refine lv_iload_n hx hb dX8_spread_7 rfl (lv_at hl 2 rfl) ?_
  refine lv_icmp_ge (tgt := 23) hx hb dX8_spread_8 (by decide) (fun _ => ?_) (fun c_6 => absurd c_6 (by decide))
  have hP := subP (ws' := [(h2, aI V 1 (upd (fun _ => 0) 0 10000)), (h3, aI V 1 (upd (fun _ => 0) 0 100000)), (h6, aI V 4 (fun _ => 0)), (h0, .inr (8, [.int 0, .int 1, .ref h7, .ref h8, .ref h3, .int 1, .int 1, .ref (y 19), .ref h9, .ref h4, .ref h6, .ref h1, .ref h5, .ref h2, .int 0, .int 0, .int 1])), (h8, aI V 1 (fun _ => 0))]) hP [3, 0, 1, 4, 2] rfl
  have hD := hD.sub (ws' := [(h2, aI V 1 (upd (fun _ => 0) 0 10000)), (h3, aI V 1 (upd (fun _ => 0) 0 100000)), (h6, aI V 4 (fun _ => 0)), (h0, .inr (8, [.int 0, .int 1, .ref h7, .ref h8, .ref h3, .int 1, .int 1, .ref (y 19), .ref h9, .ref h4, .ref h6, .ref h1, .ref h5, .ref h2, .int 0, .int 0, .int 1])), (h8, aI V 1 (fun _ => 0))]) [3, 0, 1, 4, 2] rfl rfl
  exact fiV hx hb hr hlk hK hP hD hS dX8_spread_23 (Nat.le_of_ble_eq_true rfl) (Nat.le_of_ble_eq_true rfl) (rfl)
set_option maxHeartbeats 4000000 in
set_option maxRecDepth 100000 in
theorem c_X8_spread_11 (l : Launch) (V : GV) (y : Nat → Nat) (h0 : Nat) (h1 : Nat) (h2 : Nat) (h3 : Nat) (h4 : Nat) (h5 : Nat) (h6 : Nat) (h7 : Nat) (h8 : Nat) (h9 : Nat) : Ct l V yX8_spread (.code yX8_spread cX8_spread 4 none) 4 [.ref h0, .int 5, .int 10] [(h1, aI V 1 (fun _ => 0)), (h2, aI V 1 (fun _ => 0)), (h3, aI V 4 (fun _ => 0)), (h0, .inr (8, [.int 0, .int 1, .ref h4, .ref h5, .ref h1, .int 1, .int 1, .ref (y 19), .ref h6, .ref h7, .ref h3, .ref h8, .ref h9, .ref h2, .int 0, .int 0, .int 1])), (h5, aI V 1 (fun _ => 0))] 0 0 (QV V (fun (w : va_W) => (w = [(h1, aI V 1 (upd (fun _ => 0) 0 10000)), (h2, aI V 1 (upd (fun _ => 0) 0 100000)), (h3, aI V 4 (fun _ => 0)), (h0, .inr (8, [.int 0, .int 1, .ref h4, .ref h5, .ref h2, .int 1, .int 1, .ref (y 19), .ref h6, .ref h7, .ref h3, .ref h8, .ref h9, .ref h1, .int 0, .int 0, .int 1])), (h5, aI V 1 (fun _ => 0))]))) := by
  refine Ct.of (by decide) (Nat.le_of_ble_eq_true rfl) (fun p e s m below meth c A ls hx hb hr hml hown hlk hnm hg hP hK hD hE hA hS hl => ?_)
  have hl : lv_has ls 4 [(0, .ref h0), (1, .int 5), (2, .int 10)] := hl
  refine lv_aload_n hx hb dX8_spread_0 rfl (lv_at hl 0 rfl) ?_
  refine jnV (wr := [(h2, aI V 1 (fun _ => 0)), (h3, aI V 4 (fun _ => 0)), (h5, aI V 1 (fun _ => 0))]) (rnV (rest := []) ⟨hx, hb, hml, hown, hg⟩ (c_X8_beginSpread_3 l V y h0 h1 h2 h3 h4 h5 h6 h7 h8 h9) mt_X8_beginSpread q_4_168 ⟨Nat.le_of_ble_eq_true rfl, Nat.le_of_ble_eq_true rfl⟩ hK hP hD hS hA hE [0, 3] rfl rfl 3 rfl rfl rfl rfl hl.1 rfl (Nat.le_of_ble_eq_true rfl) dX8_spread_1 ⟨Nat.le_of_ble_eq_true rfl, Nat.le_of_ble_eq_true rfl⟩) hP hD hS hA [0, 3] [1, 2, 4] rfl rfl rfl (by decide) (fun  w H locs hw hP hD hS => ?_)
  subst hw
  have hP : va_P V.1 vwCl [(h2, aI V 1 (fun _ => 0)), (h3, aI V 4 (fun _ => 0)), (h5, aI V 1 (fun _ => 0)), (h1, aI V 1 (upd (fun _ => 0) 0 1)), (h0, .inr (8, [.int 0, .int 1, .ref h4, .ref h5, .ref h1, .int 1, .int 1, .ref (y 19), .ref h6, .ref h7, .ref h3, .ref h8, .ref h9, .ref h2, .int 0, .int 0, .int 1]))] H := hP
  have hD : va_D A [(h2, aI V 1 (fun _ => 0)), (h3, aI V 4 (fun _ => 0)), (h5, aI V 1 (fun _ => 0)), (h1, aI V 1 (upd (fun _ => 0) 0 1)), (h0, .inr (8, [.int 0, .int 1, .ref h4, .ref h5, .ref h1, .int 1, .int 1, .ref (y 19), .ref h6, .ref h7, .ref h3, .ref h8, .ref h9, .ref h2, .int 0, .int 0, .int 1]))] := hD
  refine lv_iconst (v := 0) hx hb dX8_spread_4 (by decide) ?_
  refine lv_istore_n (lv' := [(3, .int 0), (0, .ref h0), (1, .int 5), (2, .int 10)]) hx hb dX8_spread_5 rfl hl (by decide) rfl (fun ls hl => ?_)
  refine lv_iload_n hx hb dX8_spread_6 rfl (lv_at hl 0 rfl) ?_
  refine lv_iload_n hx hb dX8_spread_7 rfl (lv_at hl 2 rfl) ?_
  refine lv_icmp_ge (tgt := 23) hx hb dX8_spread_8 (by decide) (fun c_1 => absurd c_1 (by decide)) (fun _ => ?_)
  refine lv_aload_n hx hb dX8_spread_11 rfl (lv_at hl 1 rfl) ?_
  refine lv_iload_n hx hb dX8_spread_12 rfl (lv_at hl 0 rfl) ?_
  refine lv_iload_n hx hb dX8_spread_13 rfl (lv_at hl 3 rfl) ?_
  refine jnV (wr := []) (rnV (rest := []) ⟨hx, hb, hml, hown, hg⟩ (c_X8_spreadOneNight_1 l V y h0 h2 h3 h5 h1 h4 h6 h7 h8 h9) mt_X8_spreadOneNight q_4_178 ⟨Nat.le_of_ble_eq_true rfl, Nat.le_of_ble_eq_true rfl⟩ hK hP hD hS hA hE [0, 1, 2, 3, 4] rfl rfl 4 rfl rfl rfl rfl hl.1 rfl (Nat.le_of_ble_eq_true rfl) dX8_spread_14 ⟨Nat.le_of_ble_eq_true rfl, Nat.le_of_ble_eq_true rfl⟩) hP hD hS hA [0, 1, 2, 3, 4] [] rfl rfl rfl (by decide) (fun  w H locs hw hP hD hS => ?_)
  subst hw
  have hP : va_P V.1 vwCl [(h2, aI V 1 (upd (fun _ => 0) 0 10)), (h3, aI V 4 (fun _ => 0)), (h5, aI V 1 (fun _ => 0)), (h1, aI V 1 (upd (fun _ => 0) 0 1)), (h0, .inr (8, [.int 0, .int 1, .ref h4, .ref h5, .ref h2, .int 1, .int 1, .ref (y 19), .ref h6, .ref h7, .ref h3, .ref h8, .ref h9, .ref h1, .int 0, .int 0, .int 1]))] H := hP
  have hD : va_D A [(h2, aI V 1 (upd (fun _ => 0) 0 10)), (h3, aI V 4 (fun _ => 0)), (h5, aI V 1 (fun _ => 0)), (h1, aI V 1 (upd (fun _ => 0) 0 1)), (h0, .inr (8, [.int 0, .int 1, .ref h4, .ref h5, .ref h2, .int 1, .int 1, .ref (y 19), .ref h6, .ref h7, .ref h3, .ref h8, .ref h9, .ref h1, .int 0, .int 0, .int 1]))] := hD
  refine lv_iinc (v := 1) (lv' := [(3, .int 1), (0, .ref h0), (1, .int 5), (2, .int 10)]) hx hb dX8_spread_17 hl (k := 0) rfl (by decide +kernel) (by decide) rfl (fun ls hl => ?_)
  refine lv_goto (tgt := 6) hx hb dX8_spread_20 (by decide) ?_
  refine lv_iload_n hx hb dX8_spread_6 rfl (lv_at hl 0 rfl) ?_
  refine lv_iload_n hx hb dX8_spread_7 rfl (lv_at hl 2 rfl) ?_
  refine lv_icmp_ge (tgt := 23) hx hb dX8_spread_8 (by decide) (fun c_2 => absurd c_2 (by decide)) (fun _ => ?_)
  refine lv_aload_n hx hb dX8_spread_11 rfl (lv_at hl 1 rfl) ?_
  refine lv_iload_n hx hb dX8_spread_12 rfl (lv_at hl 0 rfl) ?_
  refine lv_iload_n hx hb dX8_spread_13 rfl (lv_at hl 3 rfl) ?_
  refine jnV (wr := []) (rnV (rest := []) ⟨hx, hb, hml, hown, hg⟩ (c_X8_spreadOneNight_3 l V y h0 h2 h3 h5 h1 h4 h6 h7 h8 h9) mt_X8_spreadOneNight q_4_178 ⟨Nat.le_of_ble_eq_true rfl, Nat.le_of_ble_eq_true rfl⟩ hK hP hD hS hA hE [0, 1, 2, 3, 4] rfl rfl 4 rfl rfl rfl rfl hl.1 rfl (Nat.le_of_ble_eq_true rfl) dX8_spread_14 ⟨Nat.le_of_ble_eq_true rfl, Nat.le_of_ble_eq_true rfl⟩) hP hD hS hA [0, 1, 2, 3, 4] [] rfl rfl rfl (by decide) (fun  w H locs hw hP hD hS => ?_)
  subst hw
  have hP : va_P V.1 vwCl [(h2, aI V 1 (upd (fun _ => 0) 0 10)), (h3, aI V 4 (fun _ => 0)), (h5, aI V 1 (fun _ => 0)), (h1, aI V 1 (upd (fun _ => 0) 0 100)), (h0, .inr (8, [.int 0, .int 1, .ref h4, .ref h5, .ref h1, .int 1, .int 1, .ref (y 19), .ref h6, .ref h7, .ref h3, .ref h8, .ref h9, .ref h2, .int 0, .int 0, .int 1]))] H := hP
  have hD : va_D A [(h2, aI V 1 (upd (fun _ => 0) 0 10)), (h3, aI V 4 (fun _ => 0)), (h5, aI V 1 (fun _ => 0)), (h1, aI V 1 (upd (fun _ => 0) 0 100)), (h0, .inr (8, [.int 0, .int 1, .ref h4, .ref h5, .ref h1, .int 1, .int 1, .ref (y 19), .ref h6, .ref h7, .ref h3, .ref h8, .ref h9, .ref h2, .int 0, .int 0, .int 1]))] := hD
  refine lv_iinc (v := 2) (lv' := [(3, .int 2), (0, .ref h0), (1, .int 5), (2, .int 10)]) hx hb dX8_spread_17 hl (k := 0) rfl (by decide +kernel) (by decide) rfl (fun ls hl => ?_)
  refine lv_goto (tgt := 6) hx hb dX8_spread_20 (by decide) ?_
  refine lv_iload_n hx hb dX8_spread_6 rfl (lv_at hl 0 rfl) ?_
  refine lv_iload_n hx hb dX8_spread_7 rfl (lv_at hl 2 rfl) ?_
  refine lv_icmp_ge (tgt := 23) hx hb dX8_spread_8 (by decide) (fun c_3 => absurd c_3 (by decide)) (fun _ => ?_)
  refine lv_aload_n hx hb dX8_spread_11 rfl (lv_at hl 1 rfl) ?_
  refine lv_iload_n hx hb dX8_spread_12 rfl (lv_at hl 0 rfl) ?_
  refine lv_iload_n hx hb dX8_spread_13 rfl (lv_at hl 3 rfl) ?_
  refine jnV (wr := []) (rnV (rest := []) ⟨hx, hb, hml, hown, hg⟩ (c_X8_spreadOneNight_5 l V y h0 h2 h3 h5 h1 h4 h6 h7 h8 h9) mt_X8_spreadOneNight q_4_178 ⟨Nat.le_of_ble_eq_true rfl, Nat.le_of_ble_eq_true rfl⟩ hK hP hD hS hA hE [0, 1, 2, 3, 4] rfl rfl 4 rfl rfl rfl rfl hl.1 rfl (Nat.le_of_ble_eq_true rfl) dX8_spread_14 ⟨Nat.le_of_ble_eq_true rfl, Nat.le_of_ble_eq_true rfl⟩) hP hD hS hA [0, 1, 2, 3, 4] [] rfl rfl rfl (by decide) (fun  w H locs hw hP hD hS => ?_)
  subst hw
  have hP : va_P V.1 vwCl [(h2, aI V 1 (upd (fun _ => 0) 0 1000)), (h3, aI V 4 (fun _ => 0)), (h5, aI V 1 (fun _ => 0)), (h1, aI V 1 (upd (fun _ => 0) 0 100)), (h0, .inr (8, [.int 0, .int 1, .ref h4, .ref h5, .ref h2, .int 1, .int 1, .ref (y 19), .ref h6, .ref h7, .ref h3, .ref h8, .ref h9, .ref h1, .int 0, .int 0, .int 1]))] H := hP
  have hD : va_D A [(h2, aI V 1 (upd (fun _ => 0) 0 1000)), (h3, aI V 4 (fun _ => 0)), (h5, aI V 1 (fun _ => 0)), (h1, aI V 1 (upd (fun _ => 0) 0 100)), (h0, .inr (8, [.int 0, .int 1, .ref h4, .ref h5, .ref h2, .int 1, .int 1, .ref (y 19), .ref h6, .ref h7, .ref h3, .ref h8, .ref h9, .ref h1, .int 0, .int 0, .int 1]))] := hD
  refine lv_iinc (v := 3) (lv' := [(3, .int 3), (0, .ref h0), (1, .int 5), (2, .int 10)]) hx hb dX8_spread_17 hl (k := 0) rfl (by decide +kernel) (by decide) rfl (fun ls hl => ?_)
  refine lv_goto (tgt := 6) hx hb dX8_spread_20 (by decide) ?_
  refine lv_iload_n hx hb dX8_spread_6 rfl (lv_at hl 0 rfl) ?_
  refine lv_iload_n hx hb dX8_spread_7 rfl (lv_at hl 2 rfl) ?_
  refine lv_icmp_ge (tgt := 23) hx hb dX8_spread_8 (by decide) (fun c_4 => absurd c_4 (by decide)) (fun _ => ?_)
  refine lv_aload_n hx hb dX8_spread_11 rfl (lv_at hl 1 rfl) ?_
  refine lv_iload_n hx hb dX8_spread_12 rfl (lv_at hl 0 rfl) ?_
  refine lv_iload_n hx hb dX8_spread_13 rfl (lv_at hl 3 rfl) ?_
  refine jnV (wr := []) (rnV (rest := []) ⟨hx, hb, hml, hown, hg⟩ (c_X8_spreadOneNight_7 l V y h0 h2 h3 h5 h1 h4 h6 h7 h8 h9) mt_X8_spreadOneNight q_4_178 ⟨Nat.le_of_ble_eq_true rfl, Nat.le_of_ble_eq_true rfl⟩ hK hP hD hS hA hE [0, 1, 2, 3, 4] rfl rfl 4 rfl rfl rfl rfl hl.1 rfl (Nat.le_of_ble_eq_true rfl) dX8_spread_14 ⟨Nat.le_of_ble_eq_true rfl, Nat.le_of_ble_eq_true rfl⟩) hP hD hS hA [0, 1, 2, 3, 4] [] rfl rfl rfl (by decide) (fun  w H locs hw hP hD hS => ?_)
  subst hw
  have hP : va_P V.1 vwCl [(h2, aI V 1 (upd (fun _ => 0) 0 1000)), (h3, aI V 4 (fun _ => 0)), (h5, aI V 1 (fun _ => 0)), (h1, aI V 1 (upd (fun _ => 0) 0 10000)), (h0, .inr (8, [.int 0, .int 1, .ref h4, .ref h5, .ref h1, .int 1, .int 1, .ref (y 19), .ref h6, .ref h7, .ref h3, .ref h8, .ref h9, .ref h2, .int 0, .int 0, .int 1]))] H := hP
  have hD : va_D A [(h2, aI V 1 (upd (fun _ => 0) 0 1000)), (h3, aI V 4 (fun _ => 0)), (h5, aI V 1 (fun _ => 0)), (h1, aI V 1 (upd (fun _ => 0) 0 10000)), (h0, .inr (8, [.int 0, .int 1, .ref h4, .ref h5, .ref h1, .int 1, .int 1, .ref (y 19), .ref h6, .ref h7, .ref h3, .ref h8, .ref h9, .ref h2, .int 0, .int 0, .int 1]))] := hD
  refine lv_iinc (v := 4) (lv' := [(3, .int 4), (0, .ref h0), (1, .int 5), (2, .int 10)]) hx hb dX8_spread_17 hl (k := 0) rfl (by decide +kernel) (by decide) rfl (fun ls hl => ?_)
  refine lv_goto (tgt := 6) hx hb dX8_spread_20 (by decide) ?_
  refine lv_iload_n hx hb dX8_spread_6 rfl (lv_at hl 0 rfl) ?_
  refine lv_iload_n hx hb dX8_spread_7 rfl (lv_at hl 2 rfl) ?_
  refine lv_icmp_ge (tgt := 23) hx hb dX8_spread_8 (by decide) (fun c_5 => absurd c_5 (by decide)) (fun _ => ?_)
  refine lv_aload_n hx hb dX8_spread_11 rfl (lv_at hl 1 rfl) ?_
  refine lv_iload_n hx hb dX8_spread_12 rfl (lv_at hl 0 rfl) ?_
  refine lv_iload_n hx hb dX8_spread_13 rfl (lv_at hl 3 rfl) ?_
  refine jnV (wr := []) (rnV (rest := []) ⟨hx, hb, hml, hown, hg⟩ (c_X8_spreadOneNight_9 l V y h0 h2 h3 h5 h1 h4 h6 h7 h8 h9) mt_X8_spreadOneNight q_4_178 ⟨Nat.le_of_ble_eq_true rfl, Nat.le_of_ble_eq_true rfl⟩ hK hP hD hS hA hE [0, 1, 2, 3, 4] rfl rfl 4 rfl rfl rfl rfl hl.1 rfl (Nat.le_of_ble_eq_true rfl) dX8_spread_14 ⟨Nat.le_of_ble_eq_true rfl, Nat.le_of_ble_eq_true rfl⟩) hP hD hS hA [0, 1, 2, 3, 4] [] rfl rfl rfl (by decide) (fun  w H locs hw hP hD hS => ?_)
  subst hw
  have hP : va_P V.1 vwCl [(h2, aI V 1 (upd (fun _ => 0) 0 100000)), (h3, aI V 4 (fun _ => 0)), (h5, aI V 1 (fun _ => 0)), (h1, aI V 1 (upd (fun _ => 0) 0 10000)), (h0, .inr (8, [.int 0, .int 1, .ref h4, .ref h5, .ref h2, .int 1, .int 1, .ref (y 19), .ref h6, .ref h7, .ref h3, .ref h8, .ref h9, .ref h1, .int 0, .int 0, .int 1]))] H := hP
  have hD : va_D A [(h2, aI V 1 (upd (fun _ => 0) 0 100000)), (h3, aI V 4 (fun _ => 0)), (h5, aI V 1 (fun _ => 0)), (h1, aI V 1 (upd (fun _ => 0) 0 10000)), (h0, .inr (8, [.int 0, .int 1, .ref h4, .ref h5, .ref h2, .int 1, .int 1, .ref (y 19), .ref h6, .ref h7, .ref h3, .ref h8, .ref h9, .ref h1, .int 0, .int 0, .int 1]))] := hD
  refine lv_iinc (v := 5) (lv' := [(3, .int 5), (0, .ref h0), (1, .int 5), (2, .int 10)]) hx hb dX8_spread_17 hl (k := 0) rfl (by decide +kernel) (by decide) rfl (fun ls hl => ?_)
  refine lv_goto (tgt := 6) hx hb dX8_spread_20 (by decide) ?_
  refine lv_iload_n hx hb dX8_spread_6 rfl (lv_at hl 0 rfl) ?_
  refine lv_iload_n hx hb dX8_spread_7 rfl (lv_at hl 2 rfl) ?_
  refine lv_icmp_ge (tgt := 23) hx hb dX8_spread_8 (by decide) (fun _ => ?_) (fun c_6 => absurd c_6 (by decide))
  have hP := subP (ws' := [(h1, aI V 1 (upd (fun _ => 0) 0 10000)), (h2, aI V 1 (upd (fun _ => 0) 0 100000)), (h3, aI V 4 (fun _ => 0)), (h0, .inr (8, [.int 0, .int 1, .ref h4, .ref h5, .ref h2, .int 1, .int 1, .ref (y 19), .ref h6, .ref h7, .ref h3, .ref h8, .ref h9, .ref h1, .int 0, .int 0, .int 1])), (h5, aI V 1 (fun _ => 0))]) hP [3, 0, 1, 4, 2] rfl
  have hD := hD.sub (ws' := [(h1, aI V 1 (upd (fun _ => 0) 0 10000)), (h2, aI V 1 (upd (fun _ => 0) 0 100000)), (h3, aI V 4 (fun _ => 0)), (h0, .inr (8, [.int 0, .int 1, .ref h4, .ref h5, .ref h2, .int 1, .int 1, .ref (y 19), .ref h6, .ref h7, .ref h3, .ref h8, .ref h9, .ref h1, .int 0, .int 0, .int 1])), (h5, aI V 1 (fun _ => 0))]) [3, 0, 1, 4, 2] rfl rfl
  exact fiV hx hb hr hlk hK hP hD hS dX8_spread_23 (Nat.le_of_ble_eq_true rfl) (Nat.le_of_ble_eq_true rfl) (rfl)
set_option maxHeartbeats 4000000 in
set_option maxRecDepth 100000 in
theorem c_X8_spreadByLots_5 (l : Launch) (V : GV) (y : Nat → Nat) (h0 : Nat) (h1 : Nat) (h2 : Nat) (h3 : Nat) (h4 : Nat) (h5 : Nat) (h6 : Nat) (h7 : Nat) (h8 : Nat) (h9 : Nat) : Ct l V yX8_spreadByLots (.code yX8_spreadByLots cX8_spreadByLots 2 none) 5 [.ref h0, .int 5] [(h2, aI V 1 (fun _ => 0)), (h3, aI V 1 (fun _ => 0)), (h6, aI V 4 (fun _ => 0)), (h0, .inr (8, [.int 0, .int 1, .ref h7, .ref h8, .ref h2, .int 1, .int 1, .ref (y 19), .ref h9, .ref h4, .ref h6, .ref h1, .ref h5, .ref h3, .int 0, .int 0, .int 1])), (h8, aI V 1 (fun _ => 0))] 0 0 (QV V (fun (w : va_W) => (w = [(h2, aI V 1 (upd (fun _ => 0) 0 10000)), (h3, aI V 1 (upd (fun _ => 0) 0 100000)), (h6, aI V 4 (fun _ => 0)), (h0, .inr (8, [.int 0, .int 1, .ref h7, .ref h8, .ref h3, .int 1, .int 1, .ref (y 19), .ref h9, .ref h4, .ref h6, .ref h1, .ref h5, .ref h2, .int 0, .int 0, .int 1])), (h8, aI V 1 (fun _ => 0))]))) := by
  refine Ct.of (by decide) (Nat.le_of_ble_eq_true rfl) (fun p e s m below meth c A ls hx hb hr hml hown hlk hnm hg hP hK hD hE hA hS hl => ?_)
  have hl : lv_has ls 2 [(0, .ref h0), (1, .int 5)] := hl
  refine lv_aload_n hx hb dX8_spreadByLots_0 rfl (lv_at hl 0 rfl) ?_
  refine lv_iload_n hx hb dX8_spreadByLots_1 rfl (lv_at hl 1 rfl) ?_
  refine lv_bipush (v := 11) hx hb dX8_spreadByLots_2 (by decide) ?_
  refine lv_aload_n hx hb dX8_spreadByLots_4 rfl (lv_at hl 0 rfl) ?_
  refine va_get (ci := 8) (v := .int 1) (C := RX8) (T := TX8) (N := 17) hx hb hg inX8 hown hK hP 3 rfl rfl 6 (by decide) (hg _ q_4_80) (fun _ h9 => h9) rfl dX8_spreadByLots_5 ?_
  refine lv_isub hx hb dX8_spreadByLots_8 ?_
  refine tpi (y := 10) (by decide +kernel) ?_
  refine jnV (wr := []) (rnV (rest := []) ⟨hx, hb, hml, hown, hg⟩ (c_X8_spread_11 l V y h0 h2 h3 h6 h7 h8 h9 h4 h1 h5) mt_X8_spread q_5_162 ⟨Nat.le_of_ble_eq_true rfl, Nat.le_of_ble_eq_true rfl⟩ hK hP hD hS hA hE [0, 1, 2, 3, 4] rfl rfl 3 rfl rfl rfl rfl hl.1 rfl (Nat.le_of_ble_eq_true rfl) dX8_spreadByLots_9 ⟨Nat.le_of_ble_eq_true rfl, Nat.le_of_ble_eq_true rfl⟩) hP hD hS hA [0, 1, 2, 3, 4] [] rfl rfl rfl (by decide) (fun  w H locs hw hP hD hS => ?_)
  subst hw
  have hP : va_P V.1 vwCl [(h2, aI V 1 (upd (fun _ => 0) 0 10000)), (h3, aI V 1 (upd (fun _ => 0) 0 100000)), (h6, aI V 4 (fun _ => 0)), (h0, .inr (8, [.int 0, .int 1, .ref h7, .ref h8, .ref h3, .int 1, .int 1, .ref (y 19), .ref h9, .ref h4, .ref h6, .ref h1, .ref h5, .ref h2, .int 0, .int 0, .int 1])), (h8, aI V 1 (fun _ => 0))] H := hP
  have hD : va_D A [(h2, aI V 1 (upd (fun _ => 0) 0 10000)), (h3, aI V 1 (upd (fun _ => 0) 0 100000)), (h6, aI V 4 (fun _ => 0)), (h0, .inr (8, [.int 0, .int 1, .ref h7, .ref h8, .ref h3, .int 1, .int 1, .ref (y 19), .ref h9, .ref h4, .ref h6, .ref h1, .ref h5, .ref h2, .int 0, .int 0, .int 1])), (h8, aI V 1 (fun _ => 0))] := hD
  exact fiV hx hb hr hlk hK hP hD hS dX8_spreadByLots_12 (Nat.le_of_ble_eq_true rfl) (Nat.le_of_ble_eq_true rfl) (rfl)
set_option maxHeartbeats 4000000 in
set_option maxRecDepth 100000 in
theorem c_X9_greatestCommon_5 (l : Launch) (V : GV) : Ct l V yX9_greatestCommon (.code yX9_greatestCommon cX9_greatestCommon 6 (some .int)) 1 [.int 0, .int 100000] [] 0 0 (QI V (fun (r : Int32) (w : va_W) => (r = 100000 ∧ w = []))) := by
  refine Ct.of (by decide) (Nat.le_of_ble_eq_true rfl) (fun p e s m below meth c A ls hx hb hr hml hown hlk hnm hg hP hK hD hE hA hS hl => ?_)
  have hl : lv_has ls 6 [(0, .int 0), (1, .int 100000)] := hl
  refine lv_iload_n hx hb dX9_greatestCommon_0 rfl (lv_at hl 0 rfl) ?_
  refine lv_istore_n (lv' := [(2, .int 0), (0, .int 0), (1, .int 100000)]) hx hb dX9_greatestCommon_1 rfl hl (by decide) rfl (fun ls hl => ?_)
  refine lv_iload_n hx hb dX9_greatestCommon_2 rfl (lv_at hl 2 rfl) ?_
  refine lv_istore_n (lv' := [(3, .int 100000), (2, .int 0), (0, .int 0), (1, .int 100000)]) hx hb dX9_greatestCommon_3 rfl hl (by decide) rfl (fun ls hl => ?_)
  refine lv_iconst (v := 0) hx hb dX9_greatestCommon_4 (by decide) ?_
  refine lv_istore (lv' := [(4, .int 0), (3, .int 100000), (2, .int 0), (0, .int 0), (1, .int 100000)]) hx hb dX9_greatestCommon_5 hl (by decide) rfl (fun ls hl => ?_)
  refine lv_iload hx hb dX9_greatestCommon_7 (lv_at hl 0 rfl) ?_
  refine lv_bipush (v := 100) hx hb dX9_greatestCommon_9 (by decide) ?_
  refine lv_icmp_ge (tgt := 34) hx hb dX9_greatestCommon_11 (by decide) (fun c_1 => absurd c_1 (by decide)) (fun _ => ?_)
  refine lv_iload_n hx hb dX9_greatestCommon_14 rfl (lv_at hl 1 rfl) ?_
  refine lv_if_eq (tgt := 34) hx hb dX9_greatestCommon_15 (by decide) (fun c_2 => absurd c_2 (by decide)) (fun _ => ?_)
  refine lv_iload_n hx hb dX9_greatestCommon_18 rfl (lv_at hl 2 rfl) ?_
  refine lv_iload_n hx hb dX9_greatestCommon_19 rfl (lv_at hl 1 rfl) ?_
  refine lv_irem hx hb dX9_greatestCommon_20 (by decide) ?_
  refine tpi (y := 0) (by decide +kernel) ?_
  refine lv_istore (lv' := [(5, .int 0), (4, .int 0), (3, .int 100000), (2, .int 0), (0, .int 0), (1, .int 100000)]) hx hb dX9_greatestCommon_21 hl (by decide) rfl (fun ls hl => ?_)
  refine lv_iload_n hx hb dX9_greatestCommon_23 rfl (lv_at hl 2 rfl) ?_
  refine lv_istore_n (lv' := [(2, .int 100000), (5, .int 0), (4, .int 0), (3, .int 100000), (0, .int 0), (1, .int 100000)]) hx hb dX9_greatestCommon_24 rfl hl (by decide) rfl (fun ls hl => ?_)
  refine lv_iload hx hb dX9_greatestCommon_25 (lv_at hl 1 rfl) ?_
  refine lv_istore_n (lv' := [(3, .int 0), (2, .int 100000), (5, .int 0), (4, .int 0), (0, .int 0), (1, .int 100000)]) hx hb dX9_greatestCommon_27 rfl hl (by decide) rfl (fun ls hl => ?_)
  refine lv_iinc (v := 1) (lv' := [(4, .int 1), (3, .int 0), (2, .int 100000), (5, .int 0), (0, .int 0), (1, .int 100000)]) hx hb dX9_greatestCommon_28 hl (k := 3) rfl (by decide +kernel) (by decide) rfl (fun ls hl => ?_)
  refine lv_goto (tgt := 7) hx hb dX9_greatestCommon_31 (by decide) ?_
  refine lv_iload hx hb dX9_greatestCommon_7 (lv_at hl 0 rfl) ?_
  refine lv_bipush (v := 100) hx hb dX9_greatestCommon_9 (by decide) ?_
  refine lv_icmp_ge (tgt := 34) hx hb dX9_greatestCommon_11 (by decide) (fun c_3 => absurd c_3 (by decide)) (fun _ => ?_)
  refine lv_iload_n hx hb dX9_greatestCommon_14 rfl (lv_at hl 1 rfl) ?_
  refine lv_if_eq (tgt := 34) hx hb dX9_greatestCommon_15 (by decide) (fun _ => ?_) (fun c_4 => absurd c_4 (by decide))
  refine lv_iload_n hx hb dX9_greatestCommon_34 rfl (lv_at hl 2 rfl) ?_
  exact fiI hx hb hr hlk hK hP hD hS dX9_greatestCommon_35 (Nat.le_of_ble_eq_true rfl) (Nat.le_of_ble_eq_true rfl) (⟨rfl, rfl⟩)
set_option maxHeartbeats 4000000 in
set_option maxRecDepth 100000 in
theorem c_X9_inLowestTerms_5 (l : Launch) (V : GV) (p0 : Int32) : Ct l V yX9_inLowestTerms (.code yX9_inLowestTerms cX9_inLowestTerms 5 (some .int)) 2 [.int 0, .int 5, .int p0] [] 0 0 (QI V (fun (r : Int32) (w : va_W) => ((¬ p0 = 0) ∧ r = 1 ∧ w = []) ∨ (p0 = 0 ∧ r = 0 ∧ w = []))) := by
  refine Ct.of (by decide) (Nat.le_of_ble_eq_true rfl) (fun p e s m below meth c A ls hx hb hr hml hown hlk hnm hg hP hK hD hE hA hS hl => ?_)
  have hl : lv_has ls 5 [(0, .int 0), (1, .int 5), (2, .int p0)] := hl
  refine lv_iconst (v := 1) hx hb dX9_inLowestTerms_0 (by decide) ?_
  refine lv_istore_n (lv' := [(3, .int 1), (0, .int 0), (1, .int 5), (2, .int p0)]) hx hb dX9_inLowestTerms_1 rfl hl (by decide) rfl (fun ls hl => ?_)
  refine lv_iconst (v := 0) hx hb dX9_inLowestTerms_2 (by decide) ?_
  refine lv_istore (lv' := [(4, .int 0), (3, .int 1), (0, .int 0), (1, .int 5), (2, .int p0)]) hx hb dX9_inLowestTerms_3 hl (by decide) rfl (fun ls hl => ?_)
  refine lv_iload hx hb dX9_inLowestTerms_5 (lv_at hl 0 rfl) ?_
  refine lv_iload_n hx hb dX9_inLowestTerms_7 rfl (lv_at hl 3 rfl) ?_
  refine lv_icmp_ge (tgt := 22) hx hb dX9_inLowestTerms_8 (by decide) (fun c_1 => absurd c_1 (by decide)) (fun _ => ?_)
  refine lv_iload_n hx hb dX9_inLowestTerms_11 rfl (lv_at hl 1 rfl) ?_
  refine lv_bipush (v := 10) hx hb dX9_inLowestTerms_12 (by decide) ?_
  refine lv_imul hx hb dX9_inLowestTerms_14 ?_
  refine tpi (y := 10) (by decide +kernel) ?_
  refine lv_istore_n (lv' := [(3, .int 10), (4, .int 0), (0, .int 0), (1, .int 5), (2, .int p0)]) hx hb dX9_inLowestTerms_15 rfl hl (by decide) rfl (fun ls hl => ?_)
  refine lv_iinc (v := 1) (lv' := [(4, .int 1), (3, .int 10), (0, .int 0), (1, .int 5), (2, .int p0)]) hx hb dX9_inLowestTerms_16 hl (k := 1) rfl (by decide +kernel) (by decide) rfl (fun ls hl => ?_)
  refine lv_goto (tgt := 5) hx hb dX9_inLowestTerms_19 (by decide) ?_
  refine lv_iload hx hb dX9_inLowestTerms_5 (lv_at hl 0 rfl) ?_
  refine lv_iload_n hx hb dX9_inLowestTerms_7 rfl (lv_at hl 3 rfl) ?_
  refine lv_icmp_ge (tgt := 22) hx hb dX9_inLowestTerms_8 (by decide) (fun c_2 => absurd c_2 (by decide)) (fun _ => ?_)
  refine lv_iload_n hx hb dX9_inLowestTerms_11 rfl (lv_at hl 1 rfl) ?_
  refine lv_bipush (v := 10) hx hb dX9_inLowestTerms_12 (by decide) ?_
  refine lv_imul hx hb dX9_inLowestTerms_14 ?_
  refine tpi (y := 100) (by decide +kernel) ?_
  refine lv_istore_n (lv' := [(3, .int 100), (4, .int 1), (0, .int 0), (1, .int 5), (2, .int p0)]) hx hb dX9_inLowestTerms_15 rfl hl (by decide) rfl (fun ls hl => ?_)
  refine lv_iinc (v := 2) (lv' := [(4, .int 2), (3, .int 100), (0, .int 0), (1, .int 5), (2, .int p0)]) hx hb dX9_inLowestTerms_16 hl (k := 1) rfl (by decide +kernel) (by decide) rfl (fun ls hl => ?_)
  refine lv_goto (tgt := 5) hx hb dX9_inLowestTerms_19 (by decide) ?_
  refine lv_iload hx hb dX9_inLowestTerms_5 (lv_at hl 0 rfl) ?_
  refine lv_iload_n hx hb dX9_inLowestTerms_7 rfl (lv_at hl 3 rfl) ?_
  refine lv_icmp_ge (tgt := 22) hx hb dX9_inLowestTerms_8 (by decide) (fun c_3 => absurd c_3 (by decide)) (fun _ => ?_)
  refine lv_iload_n hx hb dX9_inLowestTerms_11 rfl (lv_at hl 1 rfl) ?_
  refine lv_bipush (v := 10) hx hb dX9_inLowestTerms_12 (by decide) ?_
  refine lv_imul hx hb dX9_inLowestTerms_14 ?_
  refine tpi (y := 1000) (by decide +kernel) ?_
  refine lv_istore_n (lv' := [(3, .int 1000), (4, .int 2), (0, .int 0), (1, .int 5), (2, .int p0)]) hx hb dX9_inLowestTerms_15 rfl hl (by decide) rfl (fun ls hl => ?_)
  refine lv_iinc (v := 3) (lv' := [(4, .int 3), (3, .int 1000), (0, .int 0), (1, .int 5), (2, .int p0)]) hx hb dX9_inLowestTerms_16 hl (k := 1) rfl (by decide +kernel) (by decide) rfl (fun ls hl => ?_)
  refine lv_goto (tgt := 5) hx hb dX9_inLowestTerms_19 (by decide) ?_
  refine lv_iload hx hb dX9_inLowestTerms_5 (lv_at hl 0 rfl) ?_
  refine lv_iload_n hx hb dX9_inLowestTerms_7 rfl (lv_at hl 3 rfl) ?_
  refine lv_icmp_ge (tgt := 22) hx hb dX9_inLowestTerms_8 (by decide) (fun c_4 => absurd c_4 (by decide)) (fun _ => ?_)
  refine lv_iload_n hx hb dX9_inLowestTerms_11 rfl (lv_at hl 1 rfl) ?_
  refine lv_bipush (v := 10) hx hb dX9_inLowestTerms_12 (by decide) ?_
  refine lv_imul hx hb dX9_inLowestTerms_14 ?_
  refine tpi (y := 10000) (by decide +kernel) ?_
  refine lv_istore_n (lv' := [(3, .int 10000), (4, .int 3), (0, .int 0), (1, .int 5), (2, .int p0)]) hx hb dX9_inLowestTerms_15 rfl hl (by decide) rfl (fun ls hl => ?_)
  refine lv_iinc (v := 4) (lv' := [(4, .int 4), (3, .int 10000), (0, .int 0), (1, .int 5), (2, .int p0)]) hx hb dX9_inLowestTerms_16 hl (k := 1) rfl (by decide +kernel) (by decide) rfl (fun ls hl => ?_)
  refine lv_goto (tgt := 5) hx hb dX9_inLowestTerms_19 (by decide) ?_
  refine lv_iload hx hb dX9_inLowestTerms_5 (lv_at hl 0 rfl) ?_
  refine lv_iload_n hx hb dX9_inLowestTerms_7 rfl (lv_at hl 3 rfl) ?_
  refine lv_icmp_ge (tgt := 22) hx hb dX9_inLowestTerms_8 (by decide) (fun c_5 => absurd c_5 (by decide)) (fun _ => ?_)
  refine lv_iload_n hx hb dX9_inLowestTerms_11 rfl (lv_at hl 1 rfl) ?_
  refine lv_bipush (v := 10) hx hb dX9_inLowestTerms_12 (by decide) ?_
  refine lv_imul hx hb dX9_inLowestTerms_14 ?_
  refine tpi (y := 100000) (by decide +kernel) ?_
  refine lv_istore_n (lv' := [(3, .int 100000), (4, .int 4), (0, .int 0), (1, .int 5), (2, .int p0)]) hx hb dX9_inLowestTerms_15 rfl hl (by decide) rfl (fun ls hl => ?_)
  refine lv_iinc (v := 5) (lv' := [(4, .int 5), (3, .int 100000), (0, .int 0), (1, .int 5), (2, .int p0)]) hx hb dX9_inLowestTerms_16 hl (k := 1) rfl (by decide +kernel) (by decide) rfl (fun ls hl => ?_)
  refine lv_goto (tgt := 5) hx hb dX9_inLowestTerms_19 (by decide) ?_
  refine lv_iload hx hb dX9_inLowestTerms_5 (lv_at hl 0 rfl) ?_
  refine lv_iload_n hx hb dX9_inLowestTerms_7 rfl (lv_at hl 3 rfl) ?_
  refine lv_icmp_ge (tgt := 22) hx hb dX9_inLowestTerms_8 (by decide) (fun _ => ?_) (fun c_6 => absurd c_6 (by decide))
  refine lv_iload_n hx hb dX9_inLowestTerms_22 rfl (lv_at hl 2 rfl) ?_
  refine lv_iload_n hx hb dX9_inLowestTerms_23 rfl (lv_at hl 1 rfl) ?_
  refine jnI (wr := []) (rnS (rest := []) ⟨hx, hb, hml, hown, hg⟩ (c_X9_greatestCommon_5 l V) mt_X9_greatestCommon q_5_166 ⟨Nat.le_of_ble_eq_true rfl, Nat.le_of_ble_eq_true rfl⟩ hK hP hD hS hA hE [] rfl rfl rfl hl.1 rfl (Nat.le_of_ble_eq_true rfl) dX9_inLowestTerms_24 ⟨Nat.le_of_ble_eq_true rfl, Nat.le_of_ble_eq_true rfl⟩) hP hD hS hA [] [] rfl rfl rfl (by decide) (fun r_7 w H locs hw hP hD hS => ?_)
  obtain ⟨rfl, rfl⟩ := hw
  have hP : va_P V.1 vwCl [] H := hP
  have hD : va_D A [] := hD
  refine lv_istore (lv' := [(4, .int 100000), (3, .int 100000), (0, .int 0), (1, .int 5), (2, .int p0)]) hx hb dX9_inLowestTerms_27 hl (by decide) rfl (fun ls hl => ?_)
  refine lv_iload hx hb dX9_inLowestTerms_29 (lv_at hl 0 rfl) ?_
  refine lv_if_ne (tgt := 36) hx hb dX9_inLowestTerms_31 (by decide) (fun _ => ?_) (fun c_8 => absurd c_8 (by decide))
  refine lv_iload_n hx hb dX9_inLowestTerms_36 rfl (lv_at hl 4 rfl) ?_
  refine lv_if_ne (tgt := 47) hx hb dX9_inLowestTerms_37 (by decide) (fun c_9 => ?_) (fun c_9 => ?_)
  · refine lv_iload_n hx hb dX9_inLowestTerms_47 rfl (lv_at hl 1 rfl) ?_
    refine lv_iload hx hb dX9_inLowestTerms_48 (lv_at hl 0 rfl) ?_
    refine lv_idiv hx hb dX9_inLowestTerms_50 (by decide) ?_
    refine tpi (y := 1) (by decide +kernel) ?_
    exact fiI hx hb hr hlk hK hP hD hS dX9_inLowestTerms_51 (Nat.le_of_ble_eq_true rfl) (Nat.le_of_ble_eq_true rfl) (Or.inl ⟨c_9, rfl, rfl⟩)
  · refine lv_iload_n hx hb dX9_inLowestTerms_40 rfl (lv_at hl 2 rfl) ?_
    refine lv_iload hx hb dX9_inLowestTerms_41 (lv_at hl 0 rfl) ?_
    refine lv_idiv hx hb dX9_inLowestTerms_43 (by decide) ?_
    refine tpi (y := 0) (by decide +kernel) ?_
    refine lv_goto (tgt := 51) hx hb dX9_inLowestTerms_44 (by decide) ?_
    exact fiI hx hb hr hlk hK hP hD hS dX9_inLowestTerms_51 (Nat.le_of_ble_eq_true rfl) (Nat.le_of_ble_eq_true rfl) (Or.inr (⟨c_9, rfl, rfl⟩))
set_option maxHeartbeats 4000000 in
set_option maxRecDepth 100000 in
theorem c_X8_reachTo_9 (l : Launch) (V : GV) (y : Nat → Nat) (h0 : Nat) (h1 : Nat) (h2 : Nat) (h3 : Nat) (h4 : Nat) (h5 : Nat) (h6 : Nat) (h7 : Nat) (h8 : Nat) (h9 : Nat) : Ct l V yX8_reachTo (.code yX8_reachTo cX8_reachTo 3 none) 3 [.ref h0, .int 6] [(h1, aI V 4 (fun _ => 0)), (h2, aI V 4 (fun _ => 0)), (h0, .inr (8, [.int 0, .int 1, .ref h6, .ref h7, .ref h4, .int 1, .int 1, .ref (y 19), .ref h8, .ref h9, .ref h2, .ref h3, .ref h1, .ref h5, .int 0, .int 0, .int 0])), (h6, aI V 1 (fun _ => 0)), (h7, aI V 1 (fun _ => 0)), (h8, aI V 1 (upd (fun _ => 0) 0 1))] 0 0 (QV V (fun (w : va_W) => (w = [(h1, aI V 4 (fun _ => 0)), (h2, aI V 4 (fun _ => 0)), (h0, .inr (8, [.int 0, .int 1, .ref h6, .ref h7, .ref h4, .int 1, .int 1, .ref (y 19), .ref h8, .ref h9, .ref h2, .ref h3, .ref h1, .ref h5, .int 0, .int 0, .int 1])), (h6, aI V 1 (fun _ => 0)), (h7, aI V 1 (fun _ => 0)), (h8, aI V 1 (upd (fun _ => 0) 0 1))]))) := by
  refine Ct.of (by decide) (Nat.le_of_ble_eq_true rfl) (fun p e s m below meth c A ls hx hb hr hml hown hlk hnm hg hP hK hD hE hA hS hl => ?_)
  have hl : lv_has ls 3 [(0, .ref h0), (1, .int 6)] := hl
  refine lv_aload_n hx hb dX8_reachTo_0 rfl (lv_at hl 0 rfl) ?_
  refine va_get (ci := 8) (v := .int 0) (C := RX8) (T := TX8) (N := 17) hx hb hg inX8 hown hK hP 2 rfl rfl 16 (by decide) (hg _ q_4_90) (fun _ h9 => h9) rfl dX8_reachTo_1 ?_
  refine lv_istore_n (lv' := [(2, .int 0), (0, .ref h0), (1, .int 6)]) hx hb dX8_reachTo_4 rfl hl (by decide) rfl (fun ls hl => ?_)
  refine lv_iload_n hx hb dX8_reachTo_5 rfl (lv_at hl 0 rfl) ?_
  refine lv_aload_n hx hb dX8_reachTo_6 rfl (lv_at hl 1 rfl) ?_
  refine va_get (ci := 8) (v := .int 1) (C := RX8) (T := TX8) (N := 17) hx hb hg inX8 hown hK hP 2 rfl rfl 1 (by decide) (hg _ q_4_67) (fun _ h9 => h9) rfl dX8_reachTo_7 ?_
  refine lv_icmp_ge (tgt := 42) hx hb dX8_reachTo_10 (by decide) (fun c_1 => absurd c_1 (by decide)) (fun _ => ?_)
  refine lv_iload_n hx hb dX8_reachTo_13 rfl (lv_at hl 0 rfl) ?_
  refine lv_aload_n hx hb dX8_reachTo_14 rfl (lv_at hl 1 rfl) ?_
  refine va_get (ci := 8) (v := .int 1) (C := RX8) (T := TX8) (N := 17) hx hb hg inX8 hown hK hP 2 rfl rfl 5 (by decide) (hg _ q_4_76) (fun _ h9 => h9) rfl dX8_reachTo_15 ?_
  refine lv_icmp_ge (tgt := 42) hx hb dX8_reachTo_18 (by decide) (fun c_2 => absurd c_2 (by decide)) (fun _ => ?_)
  refine lv_aload_n hx hb dX8_reachTo_21 rfl (lv_at hl 1 rfl) ?_
  refine va_get (ci := 8) (v := .ref h7) (C := RX8) (T := TX8) (N := 17) hx hb hg inX8 hown hK hP 2 rfl rfl 3 (by decide) (hg _ q_4_72) (fun _ h9 => h9) rfl dX8_reachTo_22 ?_
  refine lv_iload_n hx hb dX8_reachTo_25 rfl (lv_at hl 0 rfl) ?_
  refine va_iald hx hb hK hP 4 0 rfl rfl (vin (by decide +kernel)) dX8_reachTo_26 ?_
  refine tpi (y := 0) (rfl) ?_
  refine lv_iload_n hx hb dX8_reachTo_27 rfl (lv_at hl 2 rfl) ?_
  refine lv_icmp_ge (tgt := 42) hx hb dX8_reachTo_28 (by decide) (fun c_3 => absurd c_3 (by decide)) (fun _ => ?_)
  refine lv_aload_n hx hb dX8_reachTo_31 rfl (lv_at hl 1 rfl) ?_
  refine lv_iload_n hx hb dX8_reachTo_32 rfl (lv_at hl 0 rfl) ?_
  refine jnV (wr := []) (rnV (rest := []) ⟨hx, hb, hml, hown, hg⟩ (c_X8_open_1 l V y h0 h1 h2 h6 h7 h4 h8 h9 h3 h5) mt_X8_open q_4_140 ⟨Nat.le_of_ble_eq_true rfl, Nat.le_of_ble_eq_true rfl⟩ hK hP hD hS hA hE [0, 1, 2, 3, 4, 5] rfl rfl 2 rfl rfl rfl rfl hl.1 rfl (Nat.le_of_ble_eq_true rfl) dX8_reachTo_33 ⟨Nat.le_of_ble_eq_true rfl, Nat.le_of_ble_eq_true rfl⟩) hP hD hS hA [0, 1, 2, 3, 4, 5] [] rfl rfl rfl (by decide) (fun  w H locs hw hP hD hS => ?_)
  subst hw
  have hP : va_P V.1 vwCl [(h1, aI V 4 (fun _ => 0)), (h2, aI V 4 (fun _ => 0)), (h0, .inr (8, [.int 0, .int 1, .ref h6, .ref h7, .ref h4, .int 1, .int 1, .ref (y 19), .ref h8, .ref h9, .ref h2, .ref h3, .ref h1, .ref h5, .int 0, .int 0, .int 1])), (h6, aI V 1 (fun _ => 0)), (h7, aI V 1 (fun _ => 0)), (h8, aI V 1 (upd (fun _ => 0) 0 1))] H := hP
  have hD : va_D A [(h1, aI V 4 (fun _ => 0)), (h2, aI V 4 (fun _ => 0)), (h0, .inr (8, [.int 0, .int 1, .ref h6, .ref h7, .ref h4, .int 1, .int 1, .ref (y 19), .ref h8, .ref h9, .ref h2, .ref h3, .ref h1, .ref h5, .int 0, .int 0, .int 1])), (h6, aI V 1 (fun _ => 0)), (h7, aI V 1 (fun _ => 0)), (h8, aI V 1 (upd (fun _ => 0) 0 1))] := hD
  refine lv_iinc (v := 1) (lv' := [(2, .int 1), (0, .ref h0), (1, .int 6)]) hx hb dX8_reachTo_36 hl (k := 0) rfl (by decide +kernel) (by decide) rfl (fun ls hl => ?_)
  refine lv_goto (tgt := 5) hx hb dX8_reachTo_39 (by decide) ?_
  refine lv_iload_n hx hb dX8_reachTo_5 rfl (lv_at hl 0 rfl) ?_
  refine lv_aload_n hx hb dX8_reachTo_6 rfl (lv_at hl 1 rfl) ?_
  refine va_get (ci := 8) (v := .int 1) (C := RX8) (T := TX8) (N := 17) hx hb hg inX8 hown hK hP 2 rfl rfl 1 (by decide) (hg _ q_4_67) (fun _ h9 => h9) rfl dX8_reachTo_7 ?_
  refine lv_icmp_ge (tgt := 42) hx hb dX8_reachTo_10 (by decide) (fun _ => ?_) (fun c_4 => absurd c_4 (by decide))
  exact fiV hx hb hr hlk hK hP hD hS dX8_reachTo_42 (Nat.le_of_ble_eq_true rfl) (Nat.le_of_ble_eq_true rfl) (rfl)
set_option maxHeartbeats 4000000 in
set_option maxRecDepth 100000 in
theorem c_X9_waysFromNow_7 (l : Launch) (V : GV) (y : Nat → Nat) : Ct l V yX9_waysFromNow (.code yX9_waysFromNow cX9_waysFromNow 2 (some (.object "BeaconDelay$Ways"))) 4 [.ref (y 0), .int 6] [(y 0, .inr (9, [.ref (y 1), .int 0, .ref (y 2), .ref (y 10), .ref (y 19), .ref (y 25), .ref (y 26), .ref (y 30), .ref (y 31), .ref (y 32), .null, .null, .int 0, .int 0, .int 0])), (y 2, .inr (1, [.int 0, .int 0, .int 0, .int 0, .int 0, .int 0, .ref (y 3), .ref (y 4), .ref (y 5), .ref (y 6), .ref (y 7), .ref (y 8), .ref (y 9), .int 0, .int 0, .int 0, .int 0, .int 0]))] 10 32 (QR V (fun (r : Nat) (w : va_W) => (∃ (q_1 : Nat) (q_2 : Nat) (q_3 : Nat) (q_4 : Nat) (q_5 : Nat) (q_6 : Nat) (q_7 : Nat) (q_8 : Nat) (q_9 : Nat) (q_10 : Nat), q_1 = r ∧ w = [(y 0, .inr (9, [.ref (y 1), .int 0, .ref (y 2), .ref (y 10), .ref (y 19), .ref (y 25), .ref (y 26), .ref (y 30), .ref (y 31), .ref (y 32), .ref q_1, .null, .int 0, .int 0, .int 0])), (y 2, .inr (1, [.int 0, .int 0, .int 0, .int 0, .int 0, .int 0, .ref (y 3), .ref (y 4), .ref (y 5), .ref (y 6), .ref (y 7), .ref (y 8), .ref (y 9), .int 0, .int 0, .int 0, .int 0, .int 0])), (q_8, aI V 1 (fun _ => 0)), (q_9, aI V 1 (fun _ => 0)), (q_10, aI V 1 (fun _ => 0)), (q_6, aI V 1 (fun _ => 0)), (q_2, aI V 4 (fun _ => 0)), (q_7, aI V 4 (fun _ => 0)), (q_1, .inr (8, [.int 0, .int 1, .ref q_3, .ref q_4, .ref q_9, .int 1, .int 1, .ref (y 19), .ref q_5, .ref q_6, .ref q_7, .ref q_8, .ref q_2, .ref q_10, .int 0, .int 0, .int 1])), (q_3, aI V 1 (fun _ => 0)), (q_4, aI V 1 (fun _ => 0)), (q_5, aI V 1 (upd (fun _ => 0) 0 1))]))) := by
  refine Ct.of (by decide) (Nat.le_of_ble_eq_true rfl) (fun p e s m below meth c A ls hx hb hr hml hown hlk hnm hg hP hK hD hE hA hS hl => ?_)
  have hl : lv_has ls 2 [(0, .ref (y 0)), (1, .int 6)] := hl
  refine lv_aload_n hx hb dX9_waysFromNow_0 rfl (lv_at hl 0 rfl) ?_
  refine va_get (ci := 9) (v := .null) (C := RX9) (T := TX9) (N := 15) hx hb hg inX9 hown hK hP 0 rfl rfl 10 (by decide) (hg _ q_2_46) (fun _ h9 => h9) rfl dX9_waysFromNow_1 ?_
  refine lv_ifnullN (tgt := 24) hx hb dX9_waysFromNow_4 (by decide) ?_
  refine lv_aload_n hx hb dX9_waysFromNow_24 rfl (lv_at hl 0 rfl) ?_
  refine va_new (ci := 8) (fs := [.int 0, .int 0, .null, .null, .null, .int 0, .int 0, .null, .null, .null, .null, .null, .null, .null, .int 0, .int 0, .int 0]) (C := RX8) (T := TX8) (N := 17) hx hb hg inX8 tyX8 tyX8_ok hown (hg _ q_4_56) (hg _ q_4_57) (hg _ q_1_18) hK hP hD hS hA rfl dfX8 (Nat.le_of_ble_eq_true rfl) (Nat.le_of_ble_eq_true rfl) dX9_waysFromNow_25 (fun q_1 H hP hD hS => ?_)
  refine W.widen (k := 1) (n := 17) (Nat.le_of_ble_eq_true rfl) (Nat.le_of_ble_eq_true rfl) ?_
  have hP : va_P V.1 vwCl [(y 0, .inr (9, [.ref (y 1), .int 0, .ref (y 2), .ref (y 10), .ref (y 19), .ref (y 25), .ref (y 26), .ref (y 30), .ref (y 31), .ref (y 32), .null, .null, .int 0, .int 0, .int 0])), (y 2, .inr (1, [.int 0, .int 0, .int 0, .int 0, .int 0, .int 0, .ref (y 3), .ref (y 4), .ref (y 5), .ref (y 6), .ref (y 7), .ref (y 8), .ref (y 9), .int 0, .int 0, .int 0, .int 0, .int 0])), (q_1, .inr (8, [.int 0, .int 0, .null, .null, .null, .int 0, .int 0, .null, .null, .null, .null, .null, .null, .null, .int 0, .int 0, .int 0]))] H := hP
  have hD : va_D A [(y 0, .inr (9, [.ref (y 1), .int 0, .ref (y 2), .ref (y 10), .ref (y 19), .ref (y 25), .ref (y 26), .ref (y 30), .ref (y 31), .ref (y 32), .null, .null, .int 0, .int 0, .int 0])), (y 2, .inr (1, [.int 0, .int 0, .int 0, .int 0, .int 0, .int 0, .ref (y 3), .ref (y 4), .ref (y 5), .ref (y 6), .ref (y 7), .ref (y 8), .ref (y 9), .int 0, .int 0, .int 0, .int 0, .int 0])), (q_1, .inr (8, [.int 0, .int 0, .null, .null, .null, .int 0, .int 0, .null, .null, .null, .null, .null, .null, .null, .int 0, .int 0, .int 0]))] := hD
  refine lv_dup hx hb dX9_waysFromNow_28 rfl ?_
  refine lv_aload_n hx hb dX9_waysFromNow_29 rfl (lv_at hl 0 rfl) ?_
  refine va_get (ci := 9) (v := .ref (y 19)) (C := RX9) (T := TX9) (N := 15) hx hb hg inX9 hown hK hP 0 rfl rfl 4 (by decide) (hg _ q_2_40) (fun _ h9 => h9) rfl dX9_waysFromNow_30 ?_
  refine lv_aload_n hx hb dX9_waysFromNow_33 rfl (lv_at hl 0 rfl) ?_
  refine va_get (ci := 9) (v := .ref (y 2)) (C := RX9) (T := TX9) (N := 15) hx hb hg inX9 hown hK hP 0 rfl rfl 2 (by decide) (hg _ q_2_38) (fun _ h9 => h9) rfl dX9_waysFromNow_34 ?_
  refine va_get (ci := 1) (v := .int 0) (C := RX1) (T := TX1) (N := 18) hx hb hg inX1 hown hK hP 1 rfl rfl 1 (by decide) (hg _ q_1_41) (fun _ h9 => h9) rfl dX9_waysFromNow_37 ?_
  refine jnV (wr := [(y 0, .inr (9, [.ref (y 1), .int 0, .ref (y 2), .ref (y 10), .ref (y 19), .ref (y 25), .ref (y 26), .ref (y 30), .ref (y 31), .ref (y 32), .null, .null, .int 0, .int 0, .int 0])), (y 2, .inr (1, [.int 0, .int 0, .int 0, .int 0, .int 0, .int 0, .ref (y 3), .ref (y 4), .ref (y 5), .ref (y 6), .ref (y 7), .ref (y 8), .ref (y 9), .int 0, .int 0, .int 0, .int 0, .int 0]))]) (rnI (rest := [.ref q_1, .ref (y 0)]) ⟨hx, hb, hml, hown, hg⟩ (c_X8_init_0 l V y q_1) mt_X8_init q_4_58 ⟨Nat.le_of_ble_eq_true rfl, Nat.le_of_ble_eq_true rfl⟩ hK hP hD hS hA hE [2] rfl rfl rfl hl.1 rfl (Nat.le_of_ble_eq_true rfl) dX9_waysFromNow_40 ⟨Nat.le_of_ble_eq_true rfl, Nat.le_of_ble_eq_true rfl⟩) hP hD hS hA [2] [0, 1] rfl rfl rfl (by decide) (fun  w H locs hw hP hD hS => ?_)
  refine W.widen (k := 10) (n := 32) (Nat.le_of_ble_eq_true rfl) (Nat.le_of_ble_eq_true rfl) ?_
  obtain ⟨q_2, q_3, q_4, q_5, q_6, q_7, q_8, q_9, q_10, rfl⟩ := hw
  have hP : va_P V.1 vwCl [(y 0, .inr (9, [.ref (y 1), .int 0, .ref (y 2), .ref (y 10), .ref (y 19), .ref (y 25), .ref (y 26), .ref (y 30), .ref (y 31), .ref (y 32), .null, .null, .int 0, .int 0, .int 0])), (y 2, .inr (1, [.int 0, .int 0, .int 0, .int 0, .int 0, .int 0, .ref (y 3), .ref (y 4), .ref (y 5), .ref (y 6), .ref (y 7), .ref (y 8), .ref (y 9), .int 0, .int 0, .int 0, .int 0, .int 0])), (q_1, .inr (8, [.int 0, .int 1, .ref q_3, .ref q_4, .ref q_9, .int 0, .int 0, .ref (y 19), .ref q_5, .ref q_6, .ref q_7, .ref q_8, .ref q_2, .ref q_10, .int 0, .int 0, .int 0])), (q_2, aI V 4 (fun _ => 0)), (q_3, aI V 1 (fun _ => 0)), (q_4, aI V 1 (fun _ => 0)), (q_5, aI V 1 (fun _ => 0)), (q_6, aI V 1 (fun _ => 0)), (q_7, aI V 4 (fun _ => 0)), (q_8, aI V 1 (fun _ => 0)), (q_9, aI V 1 (fun _ => 0)), (q_10, aI V 1 (fun _ => 0))] H := hP
  have hD : va_D A [(y 0, .inr (9, [.ref (y 1), .int 0, .ref (y 2), .ref (y 10), .ref (y 19), .ref (y 25), .ref (y 26), .ref (y 30), .ref (y 31), .ref (y 32), .null, .null, .int 0, .int 0, .int 0])), (y 2, .inr (1, [.int 0, .int 0, .int 0, .int 0, .int 0, .int 0, .ref (y 3), .ref (y 4), .ref (y 5), .ref (y 6), .ref (y 7), .ref (y 8), .ref (y 9), .int 0, .int 0, .int 0, .int 0, .int 0])), (q_1, .inr (8, [.int 0, .int 1, .ref q_3, .ref q_4, .ref q_9, .int 0, .int 0, .ref (y 19), .ref q_5, .ref q_6, .ref q_7, .ref q_8, .ref q_2, .ref q_10, .int 0, .int 0, .int 0])), (q_2, aI V 4 (fun _ => 0)), (q_3, aI V 1 (fun _ => 0)), (q_4, aI V 1 (fun _ => 0)), (q_5, aI V 1 (fun _ => 0)), (q_6, aI V 1 (fun _ => 0)), (q_7, aI V 4 (fun _ => 0)), (q_8, aI V 1 (fun _ => 0)), (q_9, aI V 1 (fun _ => 0)), (q_10, aI V 1 (fun _ => 0))] := hD
  refine va_put (ci := 9) (v := .ref q_1) (ty := (.object "BeaconDelay$Ways")) (C := RX9) (T := TX9) (N := 15) hx hb hg inX9 tyX9 tyX9_ok nmX9 hown hK hP hD hS 0 rfl rfl 10 (by decide) (hg _ q_2_46) (fun _ h9 => h9) rfl (by decide +kernel) rfl rfl (Nat.le_of_ble_eq_true rfl) dX9_waysFromNow_43 (fun H locs hP hD hS => ?_)
  have hP : va_P V.1 vwCl [(y 0, .inr (9, [.ref (y 1), .int 0, .ref (y 2), .ref (y 10), .ref (y 19), .ref (y 25), .ref (y 26), .ref (y 30), .ref (y 31), .ref (y 32), .ref q_1, .null, .int 0, .int 0, .int 0])), (y 2, .inr (1, [.int 0, .int 0, .int 0, .int 0, .int 0, .int 0, .ref (y 3), .ref (y 4), .ref (y 5), .ref (y 6), .ref (y 7), .ref (y 8), .ref (y 9), .int 0, .int 0, .int 0, .int 0, .int 0])), (q_1, .inr (8, [.int 0, .int 1, .ref q_3, .ref q_4, .ref q_9, .int 0, .int 0, .ref (y 19), .ref q_5, .ref q_6, .ref q_7, .ref q_8, .ref q_2, .ref q_10, .int 0, .int 0, .int 0])), (q_2, aI V 4 (fun _ => 0)), (q_3, aI V 1 (fun _ => 0)), (q_4, aI V 1 (fun _ => 0)), (q_5, aI V 1 (fun _ => 0)), (q_6, aI V 1 (fun _ => 0)), (q_7, aI V 4 (fun _ => 0)), (q_8, aI V 1 (fun _ => 0)), (q_9, aI V 1 (fun _ => 0)), (q_10, aI V 1 (fun _ => 0))] H := hP
  have hD : va_D A [(y 0, .inr (9, [.ref (y 1), .int 0, .ref (y 2), .ref (y 10), .ref (y 19), .ref (y 25), .ref (y 26), .ref (y 30), .ref (y 31), .ref (y 32), .ref q_1, .null, .int 0, .int 0, .int 0])), (y 2, .inr (1, [.int 0, .int 0, .int 0, .int 0, .int 0, .int 0, .ref (y 3), .ref (y 4), .ref (y 5), .ref (y 6), .ref (y 7), .ref (y 8), .ref (y 9), .int 0, .int 0, .int 0, .int 0, .int 0])), (q_1, .inr (8, [.int 0, .int 1, .ref q_3, .ref q_4, .ref q_9, .int 0, .int 0, .ref (y 19), .ref q_5, .ref q_6, .ref q_7, .ref q_8, .ref q_2, .ref q_10, .int 0, .int 0, .int 0])), (q_2, aI V 4 (fun _ => 0)), (q_3, aI V 1 (fun _ => 0)), (q_4, aI V 1 (fun _ => 0)), (q_5, aI V 1 (fun _ => 0)), (q_6, aI V 1 (fun _ => 0)), (q_7, aI V 4 (fun _ => 0)), (q_8, aI V 1 (fun _ => 0)), (q_9, aI V 1 (fun _ => 0)), (q_10, aI V 1 (fun _ => 0))] := hD
  refine lv_aload_n hx hb dX9_waysFromNow_46 rfl (lv_at hl 0 rfl) ?_
  refine va_get (ci := 9) (v := .ref q_1) (C := RX9) (T := TX9) (N := 15) hx hb hg inX9 hown hK hP 0 rfl rfl 10 (by decide) (hg _ q_2_46) (fun _ h9 => h9) rfl dX9_waysFromNow_47 ?_
  refine lv_aload_n hx hb dX9_waysFromNow_50 rfl (lv_at hl 0 rfl) ?_
  refine va_get (ci := 9) (v := .ref (y 2)) (C := RX9) (T := TX9) (N := 15) hx hb hg inX9 hown hK hP 0 rfl rfl 2 (by decide) (hg _ q_2_38) (fun _ h9 => h9) rfl dX9_waysFromNow_51 ?_
  refine va_get (ci := 1) (v := .int 0) (C := RX1) (T := TX1) (N := 18) hx hb hg inX1 hown hK hP 1 rfl rfl 1 (by decide) (hg _ q_1_41) (fun _ h9 => h9) rfl dX9_waysFromNow_54 ?_
  refine lv_aload_n hx hb dX9_waysFromNow_57 rfl (lv_at hl 0 rfl) ?_
  refine va_get (ci := 9) (v := .int 0) (C := RX9) (T := TX9) (N := 15) hx hb hg inX9 hown hK hP 0 rfl rfl 12 (by decide) (hg _ q_2_48) (fun _ h9 => h9) rfl dX9_waysFromNow_58 ?_
  refine lv_aload_n hx hb dX9_waysFromNow_61 rfl (lv_at hl 0 rfl) ?_
  refine va_get (ci := 9) (v := .int 0) (C := RX9) (T := TX9) (N := 15) hx hb hg inX9 hown hK hP 0 rfl rfl 13 (by decide) (hg _ q_2_49) (fun _ h9 => h9) rfl dX9_waysFromNow_62 ?_
  refine jnV (wr := [(y 0, .inr (9, [.ref (y 1), .int 0, .ref (y 2), .ref (y 10), .ref (y 19), .ref (y 25), .ref (y 26), .ref (y 30), .ref (y 31), .ref (y 32), .ref q_1, .null, .int 0, .int 0, .int 0])), (y 2, .inr (1, [.int 0, .int 0, .int 0, .int 0, .int 0, .int 0, .ref (y 3), .ref (y 4), .ref (y 5), .ref (y 6), .ref (y 7), .ref (y 8), .ref (y 9), .int 0, .int 0, .int 0, .int 0, .int 0])), (q_2, aI V 4 (fun _ => 0)), (q_7, aI V 4 (fun _ => 0)), (q_8, aI V 1 (fun _ => 0)), (q_9, aI V 1 (fun _ => 0)), (q_10, aI V 1 (fun _ => 0))]) (rnV (rest := []) ⟨hx, hb, hml, hown, hg⟩ (c_X8_begin_0 l V y q_1 q_3 q_4 q_9 q_5 q_6 q_7 q_8 q_2 q_10) mt_X8_begin q_4_126 ⟨Nat.le_of_ble_eq_true rfl, Nat.le_of_ble_eq_true rfl⟩ hK hP hD hS hA hE [2, 4, 5, 6, 7] rfl rfl 2 rfl rfl rfl rfl hl.1 rfl (Nat.le_of_ble_eq_true rfl) dX9_waysFromNow_65 ⟨Nat.le_of_ble_eq_true rfl, Nat.le_of_ble_eq_true rfl⟩) hP hD hS hA [2, 4, 5, 6, 7] [0, 1, 3, 8, 9, 10, 11] rfl rfl rfl (by decide) (fun  w H locs hw hP hD hS => ?_)
  subst hw
  have hP : va_P V.1 vwCl [(y 0, .inr (9, [.ref (y 1), .int 0, .ref (y 2), .ref (y 10), .ref (y 19), .ref (y 25), .ref (y 26), .ref (y 30), .ref (y 31), .ref (y 32), .ref q_1, .null, .int 0, .int 0, .int 0])), (y 2, .inr (1, [.int 0, .int 0, .int 0, .int 0, .int 0, .int 0, .ref (y 3), .ref (y 4), .ref (y 5), .ref (y 6), .ref (y 7), .ref (y 8), .ref (y 9), .int 0, .int 0, .int 0, .int 0, .int 0])), (q_2, aI V 4 (fun _ => 0)), (q_7, aI V 4 (fun _ => 0)), (q_8, aI V 1 (fun _ => 0)), (q_9, aI V 1 (fun _ => 0)), (q_10, aI V 1 (fun _ => 0)), (q_1, .inr (8, [.int 0, .int 1, .ref q_3, .ref q_4, .ref q_9, .int 1, .int 1, .ref (y 19), .ref q_5, .ref q_6, .ref q_7, .ref q_8, .ref q_2, .ref q_10, .int 0, .int 0, .int 0])), (q_3, aI V 1 (fun _ => 0)), (q_4, aI V 1 (fun _ => 0)), (q_5, aI V 1 (upd (fun _ => 0) 0 1)), (q_6, aI V 1 (fun _ => 0))] H := hP
  have hD : va_D A [(y 0, .inr (9, [.ref (y 1), .int 0, .ref (y 2), .ref (y 10), .ref (y 19), .ref (y 25), .ref (y 26), .ref (y 30), .ref (y 31), .ref (y 32), .ref q_1, .null, .int 0, .int 0, .int 0])), (y 2, .inr (1, [.int 0, .int 0, .int 0, .int 0, .int 0, .int 0, .ref (y 3), .ref (y 4), .ref (y 5), .ref (y 6), .ref (y 7), .ref (y 8), .ref (y 9), .int 0, .int 0, .int 0, .int 0, .int 0])), (q_2, aI V 4 (fun _ => 0)), (q_7, aI V 4 (fun _ => 0)), (q_8, aI V 1 (fun _ => 0)), (q_9, aI V 1 (fun _ => 0)), (q_10, aI V 1 (fun _ => 0)), (q_1, .inr (8, [.int 0, .int 1, .ref q_3, .ref q_4, .ref q_9, .int 1, .int 1, .ref (y 19), .ref q_5, .ref q_6, .ref q_7, .ref q_8, .ref q_2, .ref q_10, .int 0, .int 0, .int 0])), (q_3, aI V 1 (fun _ => 0)), (q_4, aI V 1 (fun _ => 0)), (q_5, aI V 1 (upd (fun _ => 0) 0 1)), (q_6, aI V 1 (fun _ => 0))] := hD
  refine lv_aload_n hx hb dX9_waysFromNow_68 rfl (lv_at hl 0 rfl) ?_
  refine va_get (ci := 9) (v := .ref q_1) (C := RX9) (T := TX9) (N := 15) hx hb hg inX9 hown hK hP 0 rfl rfl 10 (by decide) (hg _ q_2_46) (fun _ h9 => h9) rfl dX9_waysFromNow_69 ?_
  refine lv_iload_n hx hb dX9_waysFromNow_72 rfl (lv_at hl 1 rfl) ?_
  refine jnV (wr := [(y 0, .inr (9, [.ref (y 1), .int 0, .ref (y 2), .ref (y 10), .ref (y 19), .ref (y 25), .ref (y 26), .ref (y 30), .ref (y 31), .ref (y 32), .ref q_1, .null, .int 0, .int 0, .int 0])), (y 2, .inr (1, [.int 0, .int 0, .int 0, .int 0, .int 0, .int 0, .ref (y 3), .ref (y 4), .ref (y 5), .ref (y 6), .ref (y 7), .ref (y 8), .ref (y 9), .int 0, .int 0, .int 0, .int 0, .int 0])), (q_8, aI V 1 (fun _ => 0)), (q_9, aI V 1 (fun _ => 0)), (q_10, aI V 1 (fun _ => 0)), (q_6, aI V 1 (fun _ => 0))]) (rnV (rest := []) ⟨hx, hb, hml, hown, hg⟩ (c_X8_reachTo_9 l V y q_1 q_2 q_7 q_8 q_9 q_10 q_3 q_4 q_5 q_6) mt_X8_reachTo q_4_136 ⟨Nat.le_of_ble_eq_true rfl, Nat.le_of_ble_eq_true rfl⟩ hK hP hD hS hA hE [2, 3, 7, 8, 9, 10] rfl rfl 7 rfl rfl rfl rfl hl.1 rfl (Nat.le_of_ble_eq_true rfl) dX9_waysFromNow_73 ⟨Nat.le_of_ble_eq_true rfl, Nat.le_of_ble_eq_true rfl⟩) hP hD hS hA [2, 3, 7, 8, 9, 10] [0, 1, 4, 5, 6, 11] rfl rfl rfl (by decide) (fun  w H locs hw hP hD hS => ?_)
  subst hw
  have hP : va_P V.1 vwCl [(y 0, .inr (9, [.ref (y 1), .int 0, .ref (y 2), .ref (y 10), .ref (y 19), .ref (y 25), .ref (y 26), .ref (y 30), .ref (y 31), .ref (y 32), .ref q_1, .null, .int 0, .int 0, .int 0])), (y 2, .inr (1, [.int 0, .int 0, .int 0, .int 0, .int 0, .int 0, .ref (y 3), .ref (y 4), .ref (y 5), .ref (y 6), .ref (y 7), .ref (y 8), .ref (y 9), .int 0, .int 0, .int 0, .int 0, .int 0])), (q_8, aI V 1 (fun _ => 0)), (q_9, aI V 1 (fun _ => 0)), (q_10, aI V 1 (fun _ => 0)), (q_6, aI V 1 (fun _ => 0)), (q_2, aI V 4 (fun _ => 0)), (q_7, aI V 4 (fun _ => 0)), (q_1, .inr (8, [.int 0, .int 1, .ref q_3, .ref q_4, .ref q_9, .int 1, .int 1, .ref (y 19), .ref q_5, .ref q_6, .ref q_7, .ref q_8, .ref q_2, .ref q_10, .int 0, .int 0, .int 1])), (q_3, aI V 1 (fun _ => 0)), (q_4, aI V 1 (fun _ => 0)), (q_5, aI V 1 (upd (fun _ => 0) 0 1))] H := hP
  have hD : va_D A [(y 0, .inr (9, [.ref (y 1), .int 0, .ref (y 2), .ref (y 10), .ref (y 19), .ref (y 25), .ref (y 26), .ref (y 30), .ref (y 31), .ref (y 32), .ref q_1, .null, .int 0, .int 0, .int 0])), (y 2, .inr (1, [.int 0, .int 0, .int 0, .int 0, .int 0, .int 0, .ref (y 3), .ref (y 4), .ref (y 5), .ref (y 6), .ref (y 7), .ref (y 8), .ref (y 9), .int 0, .int 0, .int 0, .int 0, .int 0])), (q_8, aI V 1 (fun _ => 0)), (q_9, aI V 1 (fun _ => 0)), (q_10, aI V 1 (fun _ => 0)), (q_6, aI V 1 (fun _ => 0)), (q_2, aI V 4 (fun _ => 0)), (q_7, aI V 4 (fun _ => 0)), (q_1, .inr (8, [.int 0, .int 1, .ref q_3, .ref q_4, .ref q_9, .int 1, .int 1, .ref (y 19), .ref q_5, .ref q_6, .ref q_7, .ref q_8, .ref q_2, .ref q_10, .int 0, .int 0, .int 1])), (q_3, aI V 1 (fun _ => 0)), (q_4, aI V 1 (fun _ => 0)), (q_5, aI V 1 (upd (fun _ => 0) 0 1))] := hD
  refine lv_aload_n hx hb dX9_waysFromNow_76 rfl (lv_at hl 0 rfl) ?_
  refine va_get (ci := 9) (v := .ref q_1) (C := RX9) (T := TX9) (N := 15) hx hb hg inX9 hown hK hP 0 rfl rfl 10 (by decide) (hg _ q_2_46) (fun _ h9 => h9) rfl dX9_waysFromNow_77 ?_
  exact fiR (Or.inl ⟨_, rfl⟩) hx hb hr hlk hK hP hD hS dX9_waysFromNow_80 (Nat.le_of_ble_eq_true rfl) (Nat.le_of_ble_eq_true rfl) (⟨q_1, q_2, q_3, q_4, q_5, q_6, q_7, q_8, q_9, q_10, rfl, rfl⟩)
set_option maxHeartbeats 4000000 in
set_option maxRecDepth 100000 in
theorem c_J7_fill_fda19_5 (l : Launch) (V : GV) (h0 : Nat) : Ct l V yJ7_fill_fda19 (.code yJ7_fill_fda19 cJ7_fill_fda19 5 none) 2 [.ref h0, .int 0, .int 1, .int 0] [(h0, aI V 1 (upd (fun _ => 0) 0 10000))] 0 0 (QV V (fun (w : va_W) => (w = [(h0, aI V 1 (fun _ => 0))]))) := by
  refine Ct.of (by decide) (Nat.le_of_ble_eq_true rfl) (fun p e s m below meth c A ls hx hb hr hml hown hlk hnm hg hP hK hD hE hA hS hl => ?_)
  have hl : lv_has ls 5 [(0, .ref h0), (1, .int 0), (2, .int 1), (3, .int 0)] := hl
  refine lv_aload_n hx hb dJ7_fill_fda19_0 rfl (lv_at hl 0 rfl) ?_
  refine va_alen (v := 1) hx hb hK hP 0 0 rfl rfl (by decide) dJ7_fill_fda19_1 ?_
  refine lv_iload_n hx hb dJ7_fill_fda19_2 rfl (lv_at hl 1 rfl) ?_
  refine lv_iload_n hx hb dJ7_fill_fda19_3 rfl (lv_at hl 2 rfl) ?_
  refine jnV (wr := [(h0, aI V 1 (upd (fun _ => 0) 0 10000))]) (rnS (rest := []) ⟨hx, hb, hml, hown, hg⟩ (c_J7_rangeCheck_23922_0 l V) mt_J7_rangeCheck_23922 q_4_175 ⟨Nat.le_of_ble_eq_true rfl, Nat.le_of_ble_eq_true rfl⟩ hK hP hD hS hA hE [] rfl rfl rfl hl.1 rfl (Nat.le_of_ble_eq_true rfl) dJ7_fill_fda19_4 ⟨Nat.le_of_ble_eq_true rfl, Nat.le_of_ble_eq_true rfl⟩) hP hD hS hA [] [0] rfl rfl rfl (by decide) (fun  w H locs hw hP hD hS => ?_)
  subst hw
  have hP : va_P V.1 vwCl [(h0, aI V 1 (upd (fun _ => 0) 0 10000))] H := hP
  have hD : va_D A [(h0, aI V 1 (upd (fun _ => 0) 0 10000))] := hD
  refine lv_iload_n hx hb dJ7_fill_fda19_7 rfl (lv_at hl 1 rfl) ?_
  refine lv_istore (lv' := [(4, .int 0), (0, .ref h0), (1, .int 0), (2, .int 1), (3, .int 0)]) hx hb dJ7_fill_fda19_8 hl (by decide) rfl (fun ls hl => ?_)
  refine lv_iload hx hb dJ7_fill_fda19_10 (lv_at hl 0 rfl) ?_
  refine lv_iload_n hx hb dJ7_fill_fda19_12 rfl (lv_at hl 3 rfl) ?_
  refine lv_icmp_ge (tgt := 27) hx hb dJ7_fill_fda19_13 (by decide) (fun c_1 => absurd c_1 (by decide)) (fun _ => ?_)
  refine lv_aload_n hx hb dJ7_fill_fda19_16 rfl (lv_at hl 1 rfl) ?_
  refine lv_iload hx hb dJ7_fill_fda19_17 (lv_at hl 0 rfl) ?_
  refine lv_iload_n hx hb dJ7_fill_fda19_19 rfl (lv_at hl 4 rfl) ?_
  refine va_iast hx hb hK hP hD hS 0 0 rfl rfl (vin (by decide +kernel)) dJ7_fill_fda19_20 (fun H locs hP hD hS => ?_)
  have hP : va_P V.1 vwCl [(h0, aI V 1 (upd (upd (fun _ => 0) 0 10000) 0 0))] H := hP
  have hD : va_D A [(h0, aI V 1 (upd (upd (fun _ => 0) 0 10000) 0 0))] := hD
  have hP : va_P V.1 vwCl [(h0, aI V 1 (fun _ => 0))] H := by rw [updup, upd0] at hP; exact hP
  have hD : va_D A [(h0, aI V 1 (fun _ => 0))] := by rw [updup, upd0] at hD; exact hD
  refine lv_iinc (v := 1) (lv' := [(4, .int 1), (0, .ref h0), (1, .int 0), (2, .int 1), (3, .int 0)]) hx hb dJ7_fill_fda19_21 hl (k := 0) rfl (by decide +kernel) (by decide) rfl (fun ls hl => ?_)
  refine lv_goto (tgt := 10) hx hb dJ7_fill_fda19_24 (by decide) ?_
  refine lv_iload hx hb dJ7_fill_fda19_10 (lv_at hl 0 rfl) ?_
  refine lv_iload_n hx hb dJ7_fill_fda19_12 rfl (lv_at hl 3 rfl) ?_
  refine lv_icmp_ge (tgt := 27) hx hb dJ7_fill_fda19_13 (by decide) (fun _ => ?_) (fun c_2 => absurd c_2 (by decide))
  exact fiV hx hb hr hlk hK hP hD hS dJ7_fill_fda19_27 (Nat.le_of_ble_eq_true rfl) (Nat.le_of_ble_eq_true rfl) (rfl)
set_option maxHeartbeats 4000000 in
set_option maxRecDepth 100000 in
theorem c_X8_spreadOneNight_10 (l : Launch) (V : GV) (y : Nat → Nat) (h0 : Nat) (h1 : Nat) (h2 : Nat) (h3 : Nat) (h4 : Nat) (h5 : Nat) (h6 : Nat) (h7 : Nat) (h8 : Nat) (h9 : Nat) : Ct l V yX8_spreadOneNight (.code yX8_spreadOneNight cX8_spreadOneNight 5 none) 3 [.ref h0, .int 5, .int 10] [(h6, aI V 1 (upd (fun _ => 0) 0 100000)), (h7, aI V 4 (fun _ => 0)), (h8, aI V 1 (fun _ => 0)), (h9, aI V 1 (upd (fun _ => 0) 0 10000)), (h0, .inr (8, [.int 0, .int 1, .ref h4, .ref h8, .ref h6, .int 1, .int 1, .ref (y 19), .ref h5, .ref h2, .ref h7, .ref h1, .ref h3, .ref h9, .int 0, .int 0, .int 1]))] 0 0 (QV V (fun (w : va_W) => (w = [(h6, aI V 1 (upd (fun _ => 0) 0 100000)), (h7, aI V 4 (fun _ => 0)), (h8, aI V 1 (fun _ => 0)), (h9, aI V 1 (upd (fun _ => 0) 0 1000000)), (h0, .inr (8, [.int 0, .int 1, .ref h4, .ref h8, .ref h9, .int 1, .int 1, .ref (y 19), .ref h5, .ref h2, .ref h7, .ref h1, .ref h3, .ref h6, .int 0, .int 0, .int 1]))]))) := by
  refine Ct.of (by decide) (Nat.le_of_ble_eq_true rfl) (fun p e s m below meth c A ls hx hb hr hml hown hlk hnm hg hP hK hD hE hA hS hl => ?_)
  have hl : lv_has ls 5 [(0, .ref h0), (1, .int 5), (2, .int 10)] := hl
  refine lv_aload_n hx hb dX8_spreadOneNight_0 rfl (lv_at hl 0 rfl) ?_
  refine va_get (ci := 8) (v := .ref h9) (C := RX8) (T := TX8) (N := 17) hx hb hg inX8 hown hK hP 4 rfl rfl 13 (by decide) (hg _ q_4_87) (fun _ h9 => h9) rfl dX8_spreadOneNight_1 ?_
  refine lv_iconst (v := 0) hx hb dX8_spreadOneNight_4 (by decide) ?_
  refine lv_aload_n hx hb dX8_spreadOneNight_5 rfl (lv_at hl 0 rfl) ?_
  refine va_get (ci := 8) (v := .int 1) (C := RX8) (T := TX8) (N := 17) hx hb hg inX8 hown hK hP 4 rfl rfl 5 (by decide) (hg _ q_4_76) (fun _ h9 => h9) rfl dX8_spreadOneNight_6 ?_
  refine lv_iconst (v := 0) hx hb dX8_spreadOneNight_9 (by decide) ?_
  refine jnV (wr := [(h6, aI V 1 (upd (fun _ => 0) 0 100000)), (h7, aI V 4 (fun _ => 0)), (h8, aI V 1 (fun _ => 0)), (h0, .inr (8, [.int 0, .int 1, .ref h4, .ref h8, .ref h6, .int 1, .int 1, .ref (y 19), .ref h5, .ref h2, .ref h7, .ref h1, .ref h3, .ref h9, .int 0, .int 0, .int 1]))]) (rnS (rest := []) ⟨hx, hb, hml, hown, hg⟩ (c_J7_fill_fda19_5 l V h9) mt_J7_fill_fda19 q_4_172 ⟨Nat.le_of_ble_eq_true rfl, Nat.le_of_ble_eq_true rfl⟩ hK hP hD hS hA hE [3] rfl rfl rfl hl.1 rfl (Nat.le_of_ble_eq_true rfl) dX8_spreadOneNight_10 ⟨Nat.le_of_ble_eq_true rfl, Nat.le_of_ble_eq_true rfl⟩) hP hD hS hA [3] [0, 1, 2, 4] rfl rfl rfl (by decide) (fun  w H locs hw hP hD hS => ?_)
  subst hw
  have hP : va_P V.1 vwCl [(h6, aI V 1 (upd (fun _ => 0) 0 100000)), (h7, aI V 4 (fun _ => 0)), (h8, aI V 1 (fun _ => 0)), (h0, .inr (8, [.int 0, .int 1, .ref h4, .ref h8, .ref h6, .int 1, .int 1, .ref (y 19), .ref h5, .ref h2, .ref h7, .ref h1, .ref h3, .ref h9, .int 0, .int 0, .int 1])), (h9, aI V 1 (fun _ => 0))] H := hP
  have hD : va_D A [(h6, aI V 1 (upd (fun _ => 0) 0 100000)), (h7, aI V 4 (fun _ => 0)), (h8, aI V 1 (fun _ => 0)), (h0, .inr (8, [.int 0, .int 1, .ref h4, .ref h8, .ref h6, .int 1, .int 1, .ref (y 19), .ref h5, .ref h2, .ref h7, .ref h1, .ref h3, .ref h9, .int 0, .int 0, .int 1])), (h9, aI V 1 (fun _ => 0))] := hD
  refine lv_iconst (v := 0) hx hb dX8_spreadOneNight_13 (by decide) ?_
  refine lv_istore_n (lv' := [(3, .int 0), (0, .ref h0), (1, .int 5), (2, .int 10)]) hx hb dX8_spreadOneNight_14 rfl hl (by decide) rfl (fun ls hl => ?_)
  refine lv_iload_n hx hb dX8_spreadOneNight_15 rfl (lv_at hl 0 rfl) ?_
  refine lv_aload_n hx hb dX8_spreadOneNight_16 rfl (lv_at hl 1 rfl) ?_
  refine va_get (ci := 8) (v := .int 1) (C := RX8) (T := TX8) (N := 17) hx hb hg inX8 hown hK hP 3 rfl rfl 16 (by decide) (hg _ q_4_90) (fun _ h9 => h9) rfl dX8_spreadOneNight_17 ?_
  refine lv_icmp_ge (tgt := 109) hx hb dX8_spreadOneNight_20 (by decide) (fun c_1 => absurd c_1 (by decide)) (fun _ => ?_)
  refine lv_aload_n hx hb dX8_spreadOneNight_23 rfl (lv_at hl 1 rfl) ?_
  refine va_get (ci := 8) (v := .ref h8) (C := RX8) (T := TX8) (N := 17) hx hb hg inX8 hown hK hP 3 rfl rfl 3 (by decide) (hg _ q_4_72) (fun _ h9 => h9) rfl dX8_spreadOneNight_24 ?_
  refine lv_iload_n hx hb dX8_spreadOneNight_27 rfl (lv_at hl 0 rfl) ?_
  refine va_iald hx hb hK hP 2 0 rfl rfl (vin (by decide +kernel)) dX8_spreadOneNight_28 ?_
  refine tpi (y := 0) (rfl) ?_
  refine lv_iload_n hx hb dX8_spreadOneNight_29 rfl (lv_at hl 2 rfl) ?_
  refine lv_icmp_gt (tgt := 109) hx hb dX8_spreadOneNight_30 (by decide) (fun c_2 => absurd c_2 (by decide)) (fun _ => ?_)
  refine lv_aload_n hx hb dX8_spreadOneNight_33 rfl (lv_at hl 1 rfl) ?_
  refine va_get (ci := 8) (v := .ref h6) (C := RX8) (T := TX8) (N := 17) hx hb hg inX8 hown hK hP 3 rfl rfl 4 (by decide) (hg _ q_4_74) (fun _ h9 => h9) rfl dX8_spreadOneNight_34 ?_
  refine lv_iload_n hx hb dX8_spreadOneNight_37 rfl (lv_at hl 0 rfl) ?_
  refine va_iald hx hb hK hP 0 0 rfl rfl (vin (by decide +kernel)) dX8_spreadOneNight_38 ?_
  refine tpi (y := 100000) (rfl) ?_
  refine lv_if_eq (tgt := 103) hx hb dX8_spreadOneNight_39 (by decide) (fun c_3 => absurd c_3 (by decide)) (fun _ => ?_)
  refine lv_aload_n hx hb dX8_spreadOneNight_42 rfl (lv_at hl 1 rfl) ?_
  refine va_get (ci := 8) (v := .ref h9) (C := RX8) (T := TX8) (N := 17) hx hb hg inX8 hown hK hP 3 rfl rfl 13 (by decide) (hg _ q_4_87) (fun _ h9 => h9) rfl dX8_spreadOneNight_43 ?_
  refine lv_aload_n hx hb dX8_spreadOneNight_46 rfl (lv_at hl 1 rfl) ?_
  refine lv_iload_n hx hb dX8_spreadOneNight_47 rfl (lv_at hl 0 rfl) ?_
  refine lv_iconst (v := 0) hx hb dX8_spreadOneNight_48 (by decide) ?_
  refine jnI (wr := [(h6, aI V 1 (upd (fun _ => 0) 0 100000)), (h8, aI V 1 (fun _ => 0)), (h9, aI V 1 (fun _ => 0))]) (rnV (rest := [.ref h9]) ⟨hx, hb, hml, hown, hg⟩ (c_X8_behind_4 l V y h0 h6 h7 h8 h4 h5 h2 h1 h3 h9) mt_X8_behind q_4_182 ⟨Nat.le_of_ble_eq_true rfl, Nat.le_of_ble_eq_true rfl⟩ hK hP hD hS hA hE [1, 3] rfl rfl 3 rfl rfl rfl rfl hl.1 rfl (Nat.le_of_ble_eq_true rfl) dX8_spreadOneNight_49 ⟨Nat.le_of_ble_eq_true rfl, Nat.le_of_ble_eq_true rfl⟩) hP hD hS hA [1, 3] [0, 2, 4] rfl rfl rfl (by decide) (fun r_4 w H locs hw hP hD hS => ?_)
  obtain ⟨rfl, rfl⟩ := hw
  have hP : va_P V.1 vwCl [(h6, aI V 1 (upd (fun _ => 0) 0 100000)), (h8, aI V 1 (fun _ => 0)), (h9, aI V 1 (fun _ => 0)), (h7, aI V 4 (fun _ => 0)), (h0, .inr (8, [.int 0, .int 1, .ref h4, .ref h8, .ref h6, .int 1, .int 1, .ref (y 19), .ref h5, .ref h2, .ref h7, .ref h1, .ref h3, .ref h9, .int 0, .int 0, .int 1]))] H := hP
  have hD : va_D A [(h6, aI V 1 (upd (fun _ => 0) 0 100000)), (h8, aI V 1 (fun _ => 0)), (h9, aI V 1 (fun _ => 0)), (h7, aI V 4 (fun _ => 0)), (h0, .inr (8, [.int 0, .int 1, .ref h4, .ref h8, .ref h6, .int 1, .int 1, .ref (y 19), .ref h5, .ref h2, .ref h7, .ref h1, .ref h3, .ref h9, .int 0, .int 0, .int 1]))] := hD
  refine lv_dup2_11 hx hb dX8_spreadOneNight_52 rfl rfl ?_
  refine va_iald hx hb hK hP 2 0 rfl rfl (vin (by decide +kernel)) dX8_spreadOneNight_53 ?_
  refine tpi (y := 0) (rfl) ?_
  refine lv_aload_n hx hb dX8_spreadOneNight_54 rfl (lv_at hl 1 rfl) ?_
  refine va_get (ci := 8) (v := .ref h6) (C := RX8) (T := TX8) (N := 17) hx hb hg inX8 hown hK hP 4 rfl rfl 4 (by decide) (hg _ q_4_74) (fun _ h9 => h9) rfl dX8_spreadOneNight_55 ?_
  refine lv_iload_n hx hb dX8_spreadOneNight_58 rfl (lv_at hl 0 rfl) ?_
  refine va_iald hx hb hK hP 0 0 rfl rfl (vin (by decide +kernel)) dX8_spreadOneNight_59 ?_
  refine tpi (y := 100000) (rfl) ?_
  refine lv_iload_n hx hb dX8_spreadOneNight_60 rfl (lv_at hl 3 rfl) ?_
  refine lv_imul hx hb dX8_spreadOneNight_61 ?_
  refine tpi (y := 1000000) (by decide +kernel) ?_
  refine lv_iadd hx hb dX8_spreadOneNight_62 ?_
  refine tpi (y := 1000000) (by decide +kernel) ?_
  refine va_iast hx hb hK hP hD hS 2 0 rfl rfl (vin (by decide +kernel)) dX8_spreadOneNight_63 (fun H locs hP hD hS => ?_)
  have hP : va_P V.1 vwCl [(h6, aI V 1 (upd (fun _ => 0) 0 100000)), (h8, aI V 1 (fun _ => 0)), (h9, aI V 1 (upd (fun _ => 0) 0 1000000)), (h7, aI V 4 (fun _ => 0)), (h0, .inr (8, [.int 0, .int 1, .ref h4, .ref h8, .ref h6, .int 1, .int 1, .ref (y 19), .ref h5, .ref h2, .ref h7, .ref h1, .ref h3, .ref h9, .int 0, .int 0, .int 1]))] H := hP
  have hD : va_D A [(h6, aI V 1 (upd (fun _ => 0) 0 100000)), (h8, aI V 1 (fun _ => 0)), (h9, aI V 1 (upd (fun _ => 0) 0 1000000)), (h7, aI V 4 (fun _ => 0)), (h0, .inr (8, [.int 0, .int 1, .ref h4, .ref h8, .ref h6, .int 1, .int 1, .ref (y 19), .ref h5, .ref h2, .ref h7, .ref h1, .ref h3, .ref h9, .int 0, .int 0, .int 1]))] := hD
  refine lv_iconst (v := 1) hx hb dX8_spreadOneNight_64 (by decide) ?_
  refine lv_istore (lv' := [(4, .int 1), (3, .int 0), (0, .ref h0), (1, .int 5), (2, .int 10)]) hx hb dX8_spreadOneNight_65 hl (by decide) rfl (fun ls hl => ?_)
  refine lv_iload hx hb dX8_spreadOneNight_67 (lv_at hl 0 rfl) ?_
  refine lv_aload_n hx hb dX8_spreadOneNight_69 rfl (lv_at hl 2 rfl) ?_
  refine va_get (ci := 8) (v := .int 1) (C := RX8) (T := TX8) (N := 17) hx hb hg inX8 hown hK hP 4 rfl rfl 6 (by decide) (hg _ q_4_80) (fun _ h9 => h9) rfl dX8_spreadOneNight_70 ?_
  refine lv_icmp_ge (tgt := 103) hx hb dX8_spreadOneNight_73 (by decide) (fun _ => ?_) (fun c_5 => absurd c_5 (by decide))
  refine lv_iinc (v := 1) (lv' := [(3, .int 1), (4, .int 1), (0, .ref h0), (1, .int 5), (2, .int 10)]) hx hb dX8_spreadOneNight_103 hl (k := 1) rfl (by decide +kernel) (by decide) rfl (fun ls hl => ?_)
  refine lv_goto (tgt := 15) hx hb dX8_spreadOneNight_106 (by decide) ?_
  refine lv_iload_n hx hb dX8_spreadOneNight_15 rfl (lv_at hl 0 rfl) ?_
  refine lv_aload_n hx hb dX8_spreadOneNight_16 rfl (lv_at hl 2 rfl) ?_
  refine va_get (ci := 8) (v := .int 1) (C := RX8) (T := TX8) (N := 17) hx hb hg inX8 hown hK hP 4 rfl rfl 16 (by decide) (hg _ q_4_90) (fun _ h9 => h9) rfl dX8_spreadOneNight_17 ?_
  refine lv_icmp_ge (tgt := 109) hx hb dX8_spreadOneNight_20 (by decide) (fun _ => ?_) (fun c_6 => absurd c_6 (by decide))
  refine lv_aload_n hx hb dX8_spreadOneNight_109 rfl (lv_at hl 2 rfl) ?_
  refine va_get (ci := 8) (v := .ref h6) (C := RX8) (T := TX8) (N := 17) hx hb hg inX8 hown hK hP 4 rfl rfl 4 (by decide) (hg _ q_4_74) (fun _ h9 => h9) rfl dX8_spreadOneNight_110 ?_
  refine lv_astore_n (lv' := [(3, .ref h6), (4, .int 1), (0, .ref h0), (1, .int 5), (2, .int 10)]) hx hb dX8_spreadOneNight_113 rfl hl (by decide) rfl (fun ls hl => ?_)
  refine lv_aload_n hx hb dX8_spreadOneNight_114 rfl (lv_at hl 2 rfl) ?_
  refine lv_aload_n hx hb dX8_spreadOneNight_115 rfl (lv_at hl 2 rfl) ?_
  refine va_get (ci := 8) (v := .ref h9) (C := RX8) (T := TX8) (N := 17) hx hb hg inX8 hown hK hP 4 rfl rfl 13 (by decide) (hg _ q_4_87) (fun _ h9 => h9) rfl dX8_spreadOneNight_116 ?_
  refine va_put (ci := 8) (v := .ref h9) (ty := (.array .int)) (C := RX8) (T := TX8) (N := 17) hx hb hg inX8 tyX8 tyX8_ok nmX8 hown hK hP hD hS 4 rfl rfl 4 (by decide) (hg _ q_4_74) (fun _ h9 => h9) rfl (by decide +kernel) rfl rfl (Nat.le_of_ble_eq_true rfl) dX8_spreadOneNight_119 (fun H locs hP hD hS => ?_)
  have hP : va_P V.1 vwCl [(h6, aI V 1 (upd (fun _ => 0) 0 100000)), (h8, aI V 1 (fun _ => 0)), (h9, aI V 1 (upd (fun _ => 0) 0 1000000)), (h7, aI V 4 (fun _ => 0)), (h0, .inr (8, [.int 0, .int 1, .ref h4, .ref h8, .ref h9, .int 1, .int 1, .ref (y 19), .ref h5, .ref h2, .ref h7, .ref h1, .ref h3, .ref h9, .int 0, .int 0, .int 1]))] H := hP
  have hD : va_D A [(h6, aI V 1 (upd (fun _ => 0) 0 100000)), (h8, aI V 1 (fun _ => 0)), (h9, aI V 1 (upd (fun _ => 0) 0 1000000)), (h7, aI V 4 (fun _ => 0)), (h0, .inr (8, [.int 0, .int 1, .ref h4, .ref h8, .ref h9, .int 1, .int 1, .ref (y 19), .ref h5, .ref h2, .ref h7, .ref h1, .ref h3, .ref h9, .int 0, .int 0, .int 1]))] := hD
  refine lv_aload_n hx hb dX8_spreadOneNight_122 rfl (lv_at hl 2 rfl) ?_
  refine lv_aload_n hx hb dX8_spreadOneNight_123 rfl (lv_at hl 0 rfl) ?_
  refine va_put (ci := 8) (v := .ref h6) (ty := (.array .int)) (C := RX8) (T := TX8) (N := 17) hx hb hg inX8 tyX8 tyX8_ok nmX8 hown hK hP hD hS 4 rfl rfl 13 (by decide) (hg _ q_4_87) (fun _ h9 => h9) rfl (by decide +kernel) rfl rfl (Nat.le_of_ble_eq_true rfl) dX8_spreadOneNight_124 (fun H locs hP hD hS => ?_)
  have hP : va_P V.1 vwCl [(h6, aI V 1 (upd (fun _ => 0) 0 100000)), (h8, aI V 1 (fun _ => 0)), (h9, aI V 1 (upd (fun _ => 0) 0 1000000)), (h7, aI V 4 (fun _ => 0)), (h0, .inr (8, [.int 0, .int 1, .ref h4, .ref h8, .ref h9, .int 1, .int 1, .ref (y 19), .ref h5, .ref h2, .ref h7, .ref h1, .ref h3, .ref h6, .int 0, .int 0, .int 1]))] H := hP
  have hD : va_D A [(h6, aI V 1 (upd (fun _ => 0) 0 100000)), (h8, aI V 1 (fun _ => 0)), (h9, aI V 1 (upd (fun _ => 0) 0 1000000)), (h7, aI V 4 (fun _ => 0)), (h0, .inr (8, [.int 0, .int 1, .ref h4, .ref h8, .ref h9, .int 1, .int 1, .ref (y 19), .ref h5, .ref h2, .ref h7, .ref h1, .ref h3, .ref h6, .int 0, .int 0, .int 1]))] := hD
  have hP := subP (ws' := [(h6, aI V 1 (upd (fun _ => 0) 0 100000)), (h7, aI V 4 (fun _ => 0)), (h8, aI V 1 (fun _ => 0)), (h9, aI V 1 (upd (fun _ => 0) 0 1000000)), (h0, .inr (8, [.int 0, .int 1, .ref h4, .ref h8, .ref h9, .int 1, .int 1, .ref (y 19), .ref h5, .ref h2, .ref h7, .ref h1, .ref h3, .ref h6, .int 0, .int 0, .int 1]))]) hP [0, 3, 1, 2, 4] rfl
  have hD := hD.sub (ws' := [(h6, aI V 1 (upd (fun _ => 0) 0 100000)), (h7, aI V 4 (fun _ => 0)), (h8, aI V 1 (fun _ => 0)), (h9, aI V 1 (upd (fun _ => 0) 0 1000000)), (h0, .inr (8, [.int 0, .int 1, .ref h4, .ref h8, .ref h9, .int 1, .int 1, .ref (y 19), .ref h5, .ref h2, .ref h7, .ref h1, .ref h3, .ref h6, .int 0, .int 0, .int 1]))]) [0, 3, 1, 2, 4] rfl rfl
  exact fiV hx hb hr hlk hK hP hD hS dX8_spreadOneNight_127 (Nat.le_of_ble_eq_true rfl) (Nat.le_of_ble_eq_true rfl) (rfl)
set_option maxHeartbeats 4000000 in
set_option maxRecDepth 100000 in
theorem c_X8_spreadOneNight_11 (l : Launch) (V : GV) (y : Nat → Nat) (h0 : Nat) (h1 : Nat) (h2 : Nat) (h3 : Nat) (h4 : Nat) (h5 : Nat) (h6 : Nat) (h7 : Nat) (h8 : Nat) (h9 : Nat) : Ct l V yX8_spreadOneNight (.code yX8_spreadOneNight cX8_spreadOneNight 5 none) 3 [.ref h0, .int 5, .int 10] [(h1, aI V 1 (upd (fun _ => 0) 0 100000)), (h2, aI V 4 (fun _ => 0)), (h3, aI V 1 (fun _ => 0)), (h4, aI V 1 (upd (fun _ => 0) 0 10000)), (h0, .inr (8, [.int 0, .int 1, .ref h5, .ref h3, .ref h1, .int 1, .int 1, .ref (y 19), .ref h6, .ref h7, .ref h2, .ref h8, .ref h9, .ref h4, .int 0, .int 0, .int 1]))] 0 0 (QV V (fun (w : va_W) => (w = [(h1, aI V 1 (upd (fun _ => 0) 0 100000)), (h2, aI V 4 (fun _ => 0)), (h3, aI V 1 (fun _ => 0)), (h4, aI V 1 (upd (fun _ => 0) 0 1000000)), (h0, .inr (8, [.int 0, .int 1, .ref h5, .ref h3, .ref h4, .int 1, .int 1, .ref (y 19), .ref h6, .ref h7, .ref h2, .ref h8, .ref h9, .ref h1, .int 0, .int 0, .int 1]))]))) := by
  refine Ct.of (by decide) (Nat.le_of_ble_eq_true rfl) (fun p e s m below meth c A ls hx hb hr hml hown hlk hnm hg hP hK hD hE hA hS hl => ?_)
  have hl : lv_has ls 5 [(0, .ref h0), (1, .int 5), (2, .int 10)] := hl
  refine lv_aload_n hx hb dX8_spreadOneNight_0 rfl (lv_at hl 0 rfl) ?_
  refine va_get (ci := 8) (v := .ref h4) (C := RX8) (T := TX8) (N := 17) hx hb hg inX8 hown hK hP 4 rfl rfl 13 (by decide) (hg _ q_4_87) (fun _ h9 => h9) rfl dX8_spreadOneNight_1 ?_
  refine lv_iconst (v := 0) hx hb dX8_spreadOneNight_4 (by decide) ?_
  refine lv_aload_n hx hb dX8_spreadOneNight_5 rfl (lv_at hl 0 rfl) ?_
  refine va_get (ci := 8) (v := .int 1) (C := RX8) (T := TX8) (N := 17) hx hb hg inX8 hown hK hP 4 rfl rfl 5 (by decide) (hg _ q_4_76) (fun _ h9 => h9) rfl dX8_spreadOneNight_6 ?_
  refine lv_iconst (v := 0) hx hb dX8_spreadOneNight_9 (by decide) ?_
  refine jnV (wr := [(h1, aI V 1 (upd (fun _ => 0) 0 100000)), (h2, aI V 4 (fun _ => 0)), (h3, aI V 1 (fun _ => 0)), (h0, .inr (8, [.int 0, .int 1, .ref h5, .ref h3, .ref h1, .int 1, .int 1, .ref (y 19), .ref h6, .ref h7, .ref h2, .ref h8, .ref h9, .ref h4, .int 0, .int 0, .int 1]))]) (rnS (rest := []) ⟨hx, hb, hml, hown, hg⟩ (c_J7_fill_fda19_5 l V h4) mt_J7_fill_fda19 q_4_172 ⟨Nat.le_of_ble_eq_true rfl, Nat.le_of_ble_eq_true rfl⟩ hK hP hD hS hA hE [3] rfl rfl rfl hl.1 rfl (Nat.le_of_ble_eq_true rfl) dX8_spreadOneNight_10 ⟨Nat.le_of_ble_eq_true rfl, Nat.le_of_ble_eq_true rfl⟩) hP hD hS hA [3] [0, 1, 2, 4] rfl rfl rfl (by decide) (fun  w H locs hw hP hD hS => ?_)
  subst hw
  have hP : va_P V.1 vwCl [(h1, aI V 1 (upd (fun _ => 0) 0 100000)), (h2, aI V 4 (fun _ => 0)), (h3, aI V 1 (fun _ => 0)), (h0, .inr (8, [.int 0, .int 1, .ref h5, .ref h3, .ref h1, .int 1, .int 1, .ref (y 19), .ref h6, .ref h7, .ref h2, .ref h8, .ref h9, .ref h4, .int 0, .int 0, .int 1])), (h4, aI V 1 (fun _ => 0))] H := hP
  have hD : va_D A [(h1, aI V 1 (upd (fun _ => 0) 0 100000)), (h2, aI V 4 (fun _ => 0)), (h3, aI V 1 (fun _ => 0)), (h0, .inr (8, [.int 0, .int 1, .ref h5, .ref h3, .ref h1, .int 1, .int 1, .ref (y 19), .ref h6, .ref h7, .ref h2, .ref h8, .ref h9, .ref h4, .int 0, .int 0, .int 1])), (h4, aI V 1 (fun _ => 0))] := hD
  refine lv_iconst (v := 0) hx hb dX8_spreadOneNight_13 (by decide) ?_
  refine lv_istore_n (lv' := [(3, .int 0), (0, .ref h0), (1, .int 5), (2, .int 10)]) hx hb dX8_spreadOneNight_14 rfl hl (by decide) rfl (fun ls hl => ?_)
  refine lv_iload_n hx hb dX8_spreadOneNight_15 rfl (lv_at hl 0 rfl) ?_
  refine lv_aload_n hx hb dX8_spreadOneNight_16 rfl (lv_at hl 1 rfl) ?_
  refine va_get (ci := 8) (v := .int 1) (C := RX8) (T := TX8) (N := 17) hx hb hg inX8 hown hK hP 3 rfl rfl 16 (by decide) (hg _ q_4_90) (fun _ h9 => h9) rfl dX8_spreadOneNight_17 ?_
  refine lv_icmp_ge (tgt := 109) hx hb dX8_spreadOneNight_20 (by decide) (fun c_1 => absurd c_1 (by decide)) (fun _ => ?_)
  refine lv_aload_n hx hb dX8_spreadOneNight_23 rfl (lv_at hl 1 rfl) ?_
  refine va_get (ci := 8) (v := .ref h3) (C := RX8) (T := TX8) (N := 17) hx hb hg inX8 hown hK hP 3 rfl rfl 3 (by decide) (hg _ q_4_72) (fun _ h9 => h9) rfl dX8_spreadOneNight_24 ?_
  refine lv_iload_n hx hb dX8_spreadOneNight_27 rfl (lv_at hl 0 rfl) ?_
  refine va_iald hx hb hK hP 2 0 rfl rfl (vin (by decide +kernel)) dX8_spreadOneNight_28 ?_
  refine tpi (y := 0) (rfl) ?_
  refine lv_iload_n hx hb dX8_spreadOneNight_29 rfl (lv_at hl 2 rfl) ?_
  refine lv_icmp_gt (tgt := 109) hx hb dX8_spreadOneNight_30 (by decide) (fun c_2 => absurd c_2 (by decide)) (fun _ => ?_)
  refine lv_aload_n hx hb dX8_spreadOneNight_33 rfl (lv_at hl 1 rfl) ?_
  refine va_get (ci := 8) (v := .ref h1) (C := RX8) (T := TX8) (N := 17) hx hb hg inX8 hown hK hP 3 rfl rfl 4 (by decide) (hg _ q_4_74) (fun _ h9 => h9) rfl dX8_spreadOneNight_34 ?_
  refine lv_iload_n hx hb dX8_spreadOneNight_37 rfl (lv_at hl 0 rfl) ?_
  refine va_iald hx hb hK hP 0 0 rfl rfl (vin (by decide +kernel)) dX8_spreadOneNight_38 ?_
  refine tpi (y := 100000) (rfl) ?_
  refine lv_if_eq (tgt := 103) hx hb dX8_spreadOneNight_39 (by decide) (fun c_3 => absurd c_3 (by decide)) (fun _ => ?_)
  refine lv_aload_n hx hb dX8_spreadOneNight_42 rfl (lv_at hl 1 rfl) ?_
  refine va_get (ci := 8) (v := .ref h4) (C := RX8) (T := TX8) (N := 17) hx hb hg inX8 hown hK hP 3 rfl rfl 13 (by decide) (hg _ q_4_87) (fun _ h9 => h9) rfl dX8_spreadOneNight_43 ?_
  refine lv_aload_n hx hb dX8_spreadOneNight_46 rfl (lv_at hl 1 rfl) ?_
  refine lv_iload_n hx hb dX8_spreadOneNight_47 rfl (lv_at hl 0 rfl) ?_
  refine lv_iconst (v := 0) hx hb dX8_spreadOneNight_48 (by decide) ?_
  refine jnI (wr := [(h1, aI V 1 (upd (fun _ => 0) 0 100000)), (h3, aI V 1 (fun _ => 0)), (h4, aI V 1 (fun _ => 0))]) (rnV (rest := [.ref h4]) ⟨hx, hb, hml, hown, hg⟩ (c_X8_behind_4 l V y h0 h1 h2 h3 h5 h6 h7 h8 h9 h4) mt_X8_behind q_4_182 ⟨Nat.le_of_ble_eq_true rfl, Nat.le_of_ble_eq_true rfl⟩ hK hP hD hS hA hE [1, 3] rfl rfl 3 rfl rfl rfl rfl hl.1 rfl (Nat.le_of_ble_eq_true rfl) dX8_spreadOneNight_49 ⟨Nat.le_of_ble_eq_true rfl, Nat.le_of_ble_eq_true rfl⟩) hP hD hS hA [1, 3] [0, 2, 4] rfl rfl rfl (by decide) (fun r_4 w H locs hw hP hD hS => ?_)
  obtain ⟨rfl, rfl⟩ := hw
  have hP : va_P V.1 vwCl [(h1, aI V 1 (upd (fun _ => 0) 0 100000)), (h3, aI V 1 (fun _ => 0)), (h4, aI V 1 (fun _ => 0)), (h2, aI V 4 (fun _ => 0)), (h0, .inr (8, [.int 0, .int 1, .ref h5, .ref h3, .ref h1, .int 1, .int 1, .ref (y 19), .ref h6, .ref h7, .ref h2, .ref h8, .ref h9, .ref h4, .int 0, .int 0, .int 1]))] H := hP
  have hD : va_D A [(h1, aI V 1 (upd (fun _ => 0) 0 100000)), (h3, aI V 1 (fun _ => 0)), (h4, aI V 1 (fun _ => 0)), (h2, aI V 4 (fun _ => 0)), (h0, .inr (8, [.int 0, .int 1, .ref h5, .ref h3, .ref h1, .int 1, .int 1, .ref (y 19), .ref h6, .ref h7, .ref h2, .ref h8, .ref h9, .ref h4, .int 0, .int 0, .int 1]))] := hD
  refine lv_dup2_11 hx hb dX8_spreadOneNight_52 rfl rfl ?_
  refine va_iald hx hb hK hP 2 0 rfl rfl (vin (by decide +kernel)) dX8_spreadOneNight_53 ?_
  refine tpi (y := 0) (rfl) ?_
  refine lv_aload_n hx hb dX8_spreadOneNight_54 rfl (lv_at hl 1 rfl) ?_
  refine va_get (ci := 8) (v := .ref h1) (C := RX8) (T := TX8) (N := 17) hx hb hg inX8 hown hK hP 4 rfl rfl 4 (by decide) (hg _ q_4_74) (fun _ h9 => h9) rfl dX8_spreadOneNight_55 ?_
  refine lv_iload_n hx hb dX8_spreadOneNight_58 rfl (lv_at hl 0 rfl) ?_
  refine va_iald hx hb hK hP 0 0 rfl rfl (vin (by decide +kernel)) dX8_spreadOneNight_59 ?_
  refine tpi (y := 100000) (rfl) ?_
  refine lv_iload_n hx hb dX8_spreadOneNight_60 rfl (lv_at hl 3 rfl) ?_
  refine lv_imul hx hb dX8_spreadOneNight_61 ?_
  refine tpi (y := 1000000) (by decide +kernel) ?_
  refine lv_iadd hx hb dX8_spreadOneNight_62 ?_
  refine tpi (y := 1000000) (by decide +kernel) ?_
  refine va_iast hx hb hK hP hD hS 2 0 rfl rfl (vin (by decide +kernel)) dX8_spreadOneNight_63 (fun H locs hP hD hS => ?_)
  have hP : va_P V.1 vwCl [(h1, aI V 1 (upd (fun _ => 0) 0 100000)), (h3, aI V 1 (fun _ => 0)), (h4, aI V 1 (upd (fun _ => 0) 0 1000000)), (h2, aI V 4 (fun _ => 0)), (h0, .inr (8, [.int 0, .int 1, .ref h5, .ref h3, .ref h1, .int 1, .int 1, .ref (y 19), .ref h6, .ref h7, .ref h2, .ref h8, .ref h9, .ref h4, .int 0, .int 0, .int 1]))] H := hP
  have hD : va_D A [(h1, aI V 1 (upd (fun _ => 0) 0 100000)), (h3, aI V 1 (fun _ => 0)), (h4, aI V 1 (upd (fun _ => 0) 0 1000000)), (h2, aI V 4 (fun _ => 0)), (h0, .inr (8, [.int 0, .int 1, .ref h5, .ref h3, .ref h1, .int 1, .int 1, .ref (y 19), .ref h6, .ref h7, .ref h2, .ref h8, .ref h9, .ref h4, .int 0, .int 0, .int 1]))] := hD
  refine lv_iconst (v := 1) hx hb dX8_spreadOneNight_64 (by decide) ?_
  refine lv_istore (lv' := [(4, .int 1), (3, .int 0), (0, .ref h0), (1, .int 5), (2, .int 10)]) hx hb dX8_spreadOneNight_65 hl (by decide) rfl (fun ls hl => ?_)
  refine lv_iload hx hb dX8_spreadOneNight_67 (lv_at hl 0 rfl) ?_
  refine lv_aload_n hx hb dX8_spreadOneNight_69 rfl (lv_at hl 2 rfl) ?_
  refine va_get (ci := 8) (v := .int 1) (C := RX8) (T := TX8) (N := 17) hx hb hg inX8 hown hK hP 4 rfl rfl 6 (by decide) (hg _ q_4_80) (fun _ h9 => h9) rfl dX8_spreadOneNight_70 ?_
  refine lv_icmp_ge (tgt := 103) hx hb dX8_spreadOneNight_73 (by decide) (fun _ => ?_) (fun c_5 => absurd c_5 (by decide))
  refine lv_iinc (v := 1) (lv' := [(3, .int 1), (4, .int 1), (0, .ref h0), (1, .int 5), (2, .int 10)]) hx hb dX8_spreadOneNight_103 hl (k := 1) rfl (by decide +kernel) (by decide) rfl (fun ls hl => ?_)
  refine lv_goto (tgt := 15) hx hb dX8_spreadOneNight_106 (by decide) ?_
  refine lv_iload_n hx hb dX8_spreadOneNight_15 rfl (lv_at hl 0 rfl) ?_
  refine lv_aload_n hx hb dX8_spreadOneNight_16 rfl (lv_at hl 2 rfl) ?_
  refine va_get (ci := 8) (v := .int 1) (C := RX8) (T := TX8) (N := 17) hx hb hg inX8 hown hK hP 4 rfl rfl 16 (by decide) (hg _ q_4_90) (fun _ h9 => h9) rfl dX8_spreadOneNight_17 ?_
  refine lv_icmp_ge (tgt := 109) hx hb dX8_spreadOneNight_20 (by decide) (fun _ => ?_) (fun c_6 => absurd c_6 (by decide))
  refine lv_aload_n hx hb dX8_spreadOneNight_109 rfl (lv_at hl 2 rfl) ?_
  refine va_get (ci := 8) (v := .ref h1) (C := RX8) (T := TX8) (N := 17) hx hb hg inX8 hown hK hP 4 rfl rfl 4 (by decide) (hg _ q_4_74) (fun _ h9 => h9) rfl dX8_spreadOneNight_110 ?_
  refine lv_astore_n (lv' := [(3, .ref h1), (4, .int 1), (0, .ref h0), (1, .int 5), (2, .int 10)]) hx hb dX8_spreadOneNight_113 rfl hl (by decide) rfl (fun ls hl => ?_)
  refine lv_aload_n hx hb dX8_spreadOneNight_114 rfl (lv_at hl 2 rfl) ?_
  refine lv_aload_n hx hb dX8_spreadOneNight_115 rfl (lv_at hl 2 rfl) ?_
  refine va_get (ci := 8) (v := .ref h4) (C := RX8) (T := TX8) (N := 17) hx hb hg inX8 hown hK hP 4 rfl rfl 13 (by decide) (hg _ q_4_87) (fun _ h9 => h9) rfl dX8_spreadOneNight_116 ?_
  refine va_put (ci := 8) (v := .ref h4) (ty := (.array .int)) (C := RX8) (T := TX8) (N := 17) hx hb hg inX8 tyX8 tyX8_ok nmX8 hown hK hP hD hS 4 rfl rfl 4 (by decide) (hg _ q_4_74) (fun _ h9 => h9) rfl (by decide +kernel) rfl rfl (Nat.le_of_ble_eq_true rfl) dX8_spreadOneNight_119 (fun H locs hP hD hS => ?_)
  have hP : va_P V.1 vwCl [(h1, aI V 1 (upd (fun _ => 0) 0 100000)), (h3, aI V 1 (fun _ => 0)), (h4, aI V 1 (upd (fun _ => 0) 0 1000000)), (h2, aI V 4 (fun _ => 0)), (h0, .inr (8, [.int 0, .int 1, .ref h5, .ref h3, .ref h4, .int 1, .int 1, .ref (y 19), .ref h6, .ref h7, .ref h2, .ref h8, .ref h9, .ref h4, .int 0, .int 0, .int 1]))] H := hP
  have hD : va_D A [(h1, aI V 1 (upd (fun _ => 0) 0 100000)), (h3, aI V 1 (fun _ => 0)), (h4, aI V 1 (upd (fun _ => 0) 0 1000000)), (h2, aI V 4 (fun _ => 0)), (h0, .inr (8, [.int 0, .int 1, .ref h5, .ref h3, .ref h4, .int 1, .int 1, .ref (y 19), .ref h6, .ref h7, .ref h2, .ref h8, .ref h9, .ref h4, .int 0, .int 0, .int 1]))] := hD
  refine lv_aload_n hx hb dX8_spreadOneNight_122 rfl (lv_at hl 2 rfl) ?_
  refine lv_aload_n hx hb dX8_spreadOneNight_123 rfl (lv_at hl 0 rfl) ?_
  refine va_put (ci := 8) (v := .ref h1) (ty := (.array .int)) (C := RX8) (T := TX8) (N := 17) hx hb hg inX8 tyX8 tyX8_ok nmX8 hown hK hP hD hS 4 rfl rfl 13 (by decide) (hg _ q_4_87) (fun _ h9 => h9) rfl (by decide +kernel) rfl rfl (Nat.le_of_ble_eq_true rfl) dX8_spreadOneNight_124 (fun H locs hP hD hS => ?_)
  have hP : va_P V.1 vwCl [(h1, aI V 1 (upd (fun _ => 0) 0 100000)), (h3, aI V 1 (fun _ => 0)), (h4, aI V 1 (upd (fun _ => 0) 0 1000000)), (h2, aI V 4 (fun _ => 0)), (h0, .inr (8, [.int 0, .int 1, .ref h5, .ref h3, .ref h4, .int 1, .int 1, .ref (y 19), .ref h6, .ref h7, .ref h2, .ref h8, .ref h9, .ref h1, .int 0, .int 0, .int 1]))] H := hP
  have hD : va_D A [(h1, aI V 1 (upd (fun _ => 0) 0 100000)), (h3, aI V 1 (fun _ => 0)), (h4, aI V 1 (upd (fun _ => 0) 0 1000000)), (h2, aI V 4 (fun _ => 0)), (h0, .inr (8, [.int 0, .int 1, .ref h5, .ref h3, .ref h4, .int 1, .int 1, .ref (y 19), .ref h6, .ref h7, .ref h2, .ref h8, .ref h9, .ref h1, .int 0, .int 0, .int 1]))] := hD
  have hP := subP (ws' := [(h1, aI V 1 (upd (fun _ => 0) 0 100000)), (h2, aI V 4 (fun _ => 0)), (h3, aI V 1 (fun _ => 0)), (h4, aI V 1 (upd (fun _ => 0) 0 1000000)), (h0, .inr (8, [.int 0, .int 1, .ref h5, .ref h3, .ref h4, .int 1, .int 1, .ref (y 19), .ref h6, .ref h7, .ref h2, .ref h8, .ref h9, .ref h1, .int 0, .int 0, .int 1]))]) hP [0, 3, 1, 2, 4] rfl
  have hD := hD.sub (ws' := [(h1, aI V 1 (upd (fun _ => 0) 0 100000)), (h2, aI V 4 (fun _ => 0)), (h3, aI V 1 (fun _ => 0)), (h4, aI V 1 (upd (fun _ => 0) 0 1000000)), (h0, .inr (8, [.int 0, .int 1, .ref h5, .ref h3, .ref h4, .int 1, .int 1, .ref (y 19), .ref h6, .ref h7, .ref h2, .ref h8, .ref h9, .ref h1, .int 0, .int 0, .int 1]))]) [0, 3, 1, 2, 4] rfl rfl
  exact fiV hx hb hr hlk hK hP hD hS dX8_spreadOneNight_127 (Nat.le_of_ble_eq_true rfl) (Nat.le_of_ble_eq_true rfl) (rfl)
set_option maxHeartbeats 4000000 in
set_option maxRecDepth 100000 in
theorem c_X8_spread_12 (l : Launch) (V : GV) (y : Nat → Nat) (h0 : Nat) (h1 : Nat) (h2 : Nat) (h3 : Nat) (h4 : Nat) (h5 : Nat) (h6 : Nat) (h7 : Nat) (h8 : Nat) (h9 : Nat) : Ct l V yX8_spread (.code yX8_spread cX8_spread 4 none) 4 [.ref h0, .int 6, .int 10] [(h2, aI V 1 (fun _ => 0)), (h3, aI V 1 (fun _ => 0)), (h6, aI V 4 (fun _ => 0)), (h0, .inr (8, [.int 0, .int 1, .ref h7, .ref h8, .ref h2, .int 1, .int 1, .ref (y 19), .ref h9, .ref h4, .ref h6, .ref h1, .ref h5, .ref h3, .int 0, .int 0, .int 1])), (h8, aI V 1 (fun _ => 0))] 0 0 (QV V (fun (w : va_W) => (w = [(h2, aI V 1 (upd (fun _ => 0) 0 1000000)), (h3, aI V 1 (upd (fun _ => 0) 0 100000)), (h6, aI V 4 (fun _ => 0)), (h0, .inr (8, [.int 0, .int 1, .ref h7, .ref h8, .ref h2, .int 1, .int 1, .ref (y 19), .ref h9, .ref h4, .ref h6, .ref h1, .ref h5, .ref h3, .int 0, .int 0, .int 1])), (h8, aI V 1 (fun _ => 0))]))) := by
  refine Ct.of (by decide) (Nat.le_of_ble_eq_true rfl) (fun p e s m below meth c A ls hx hb hr hml hown hlk hnm hg hP hK hD hE hA hS hl => ?_)
  have hl : lv_has ls 4 [(0, .ref h0), (1, .int 6), (2, .int 10)] := hl
  refine lv_aload_n hx hb dX8_spread_0 rfl (lv_at hl 0 rfl) ?_
  refine jnV (wr := [(h3, aI V 1 (fun _ => 0)), (h6, aI V 4 (fun _ => 0)), (h8, aI V 1 (fun _ => 0))]) (rnV (rest := []) ⟨hx, hb, hml, hown, hg⟩ (c_X8_beginSpread_3 l V y h0 h2 h3 h6 h7 h8 h9 h4 h1 h5) mt_X8_beginSpread q_4_168 ⟨Nat.le_of_ble_eq_true rfl, Nat.le_of_ble_eq_true rfl⟩ hK hP hD hS hA hE [0, 3] rfl rfl 3 rfl rfl rfl rfl hl.1 rfl (Nat.le_of_ble_eq_true rfl) dX8_spread_1 ⟨Nat.le_of_ble_eq_true rfl, Nat.le_of_ble_eq_true rfl⟩) hP hD hS hA [0, 3] [1, 2, 4] rfl rfl rfl (by decide) (fun  w H locs hw hP hD hS => ?_)
  subst hw
  have hP : va_P V.1 vwCl [(h3, aI V 1 (fun _ => 0)), (h6, aI V 4 (fun _ => 0)), (h8, aI V 1 (fun _ => 0)), (h2, aI V 1 (upd (fun _ => 0) 0 1)), (h0, .inr (8, [.int 0, .int 1, .ref h7, .ref h8, .ref h2, .int 1, .int 1, .ref (y 19), .ref h9, .ref h4, .ref h6, .ref h1, .ref h5, .ref h3, .int 0, .int 0, .int 1]))] H := hP
  have hD : va_D A [(h3, aI V 1 (fun _ => 0)), (h6, aI V 4 (fun _ => 0)), (h8, aI V 1 (fun _ => 0)), (h2, aI V 1 (upd (fun _ => 0) 0 1)), (h0, .inr (8, [.int 0, .int 1, .ref h7, .ref h8, .ref h2, .int 1, .int 1, .ref (y 19), .ref h9, .ref h4, .ref h6, .ref h1, .ref h5, .ref h3, .int 0, .int 0, .int 1]))] := hD
  refine lv_iconst (v := 0) hx hb dX8_spread_4 (by decide) ?_
  refine lv_istore_n (lv' := [(3, .int 0), (0, .ref h0), (1, .int 6), (2, .int 10)]) hx hb dX8_spread_5 rfl hl (by decide) rfl (fun ls hl => ?_)
  refine lv_iload_n hx hb dX8_spread_6 rfl (lv_at hl 0 rfl) ?_
  refine lv_iload_n hx hb dX8_spread_7 rfl (lv_at hl 2 rfl) ?_
  refine lv_icmp_ge (tgt := 23) hx hb dX8_spread_8 (by decide) (fun c_1 => absurd c_1 (by decide)) (fun _ => ?_)
  refine lv_aload_n hx hb dX8_spread_11 rfl (lv_at hl 1 rfl) ?_
  refine lv_iload_n hx hb dX8_spread_12 rfl (lv_at hl 0 rfl) ?_
  refine lv_iload_n hx hb dX8_spread_13 rfl (lv_at hl 3 rfl) ?_
  refine jnV (wr := []) (rnV (rest := []) ⟨hx, hb, hml, hown, hg⟩ (c_X8_spreadOneNight_1 l V y h0 h3 h6 h8 h2 h7 h9 h4 h1 h5) mt_X8_spreadOneNight q_4_178 ⟨Nat.le_of_ble_eq_true rfl, Nat.le_of_ble_eq_true rfl⟩ hK hP hD hS hA hE [0, 1, 2, 3, 4] rfl rfl 4 rfl rfl rfl rfl hl.1 rfl (Nat.le_of_ble_eq_true rfl) dX8_spread_14 ⟨Nat.le_of_ble_eq_true rfl, Nat.le_of_ble_eq_true rfl⟩) hP hD hS hA [0, 1, 2, 3, 4] [] rfl rfl rfl (by decide) (fun  w H locs hw hP hD hS => ?_)
  subst hw
  have hP : va_P V.1 vwCl [(h3, aI V 1 (upd (fun _ => 0) 0 10)), (h6, aI V 4 (fun _ => 0)), (h8, aI V 1 (fun _ => 0)), (h2, aI V 1 (upd (fun _ => 0) 0 1)), (h0, .inr (8, [.int 0, .int 1, .ref h7, .ref h8, .ref h3, .int 1, .int 1, .ref (y 19), .ref h9, .ref h4, .ref h6, .ref h1, .ref h5, .ref h2, .int 0, .int 0, .int 1]))] H := hP
  have hD : va_D A [(h3, aI V 1 (upd (fun _ => 0) 0 10)), (h6, aI V 4 (fun _ => 0)), (h8, aI V 1 (fun _ => 0)), (h2, aI V 1 (upd (fun _ => 0) 0 1)), (h0, .inr (8, [.int 0, .int 1, .ref h7, .ref h8, .ref h3, .int 1, .int 1, .ref (y 19), .ref h9, .ref h4, .ref h6, .ref h1, .ref h5, .ref h2, .int 0, .int 0, .int 1]))] := hD
  refine lv_iinc (v := 1) (lv' := [(3, .int 1), (0, .ref h0), (1, .int 6), (2, .int 10)]) hx hb dX8_spread_17 hl (k := 0) rfl (by decide +kernel) (by decide) rfl (fun ls hl => ?_)
  refine lv_goto (tgt := 6) hx hb dX8_spread_20 (by decide) ?_
  refine lv_iload_n hx hb dX8_spread_6 rfl (lv_at hl 0 rfl) ?_
  refine lv_iload_n hx hb dX8_spread_7 rfl (lv_at hl 2 rfl) ?_
  refine lv_icmp_ge (tgt := 23) hx hb dX8_spread_8 (by decide) (fun c_2 => absurd c_2 (by decide)) (fun _ => ?_)
  refine lv_aload_n hx hb dX8_spread_11 rfl (lv_at hl 1 rfl) ?_
  refine lv_iload_n hx hb dX8_spread_12 rfl (lv_at hl 0 rfl) ?_
  refine lv_iload_n hx hb dX8_spread_13 rfl (lv_at hl 3 rfl) ?_
  refine jnV (wr := []) (rnV (rest := []) ⟨hx, hb, hml, hown, hg⟩ (c_X8_spreadOneNight_3 l V y h0 h3 h6 h8 h2 h7 h9 h4 h1 h5) mt_X8_spreadOneNight q_4_178 ⟨Nat.le_of_ble_eq_true rfl, Nat.le_of_ble_eq_true rfl⟩ hK hP hD hS hA hE [0, 1, 2, 3, 4] rfl rfl 4 rfl rfl rfl rfl hl.1 rfl (Nat.le_of_ble_eq_true rfl) dX8_spread_14 ⟨Nat.le_of_ble_eq_true rfl, Nat.le_of_ble_eq_true rfl⟩) hP hD hS hA [0, 1, 2, 3, 4] [] rfl rfl rfl (by decide) (fun  w H locs hw hP hD hS => ?_)
  subst hw
  have hP : va_P V.1 vwCl [(h3, aI V 1 (upd (fun _ => 0) 0 10)), (h6, aI V 4 (fun _ => 0)), (h8, aI V 1 (fun _ => 0)), (h2, aI V 1 (upd (fun _ => 0) 0 100)), (h0, .inr (8, [.int 0, .int 1, .ref h7, .ref h8, .ref h2, .int 1, .int 1, .ref (y 19), .ref h9, .ref h4, .ref h6, .ref h1, .ref h5, .ref h3, .int 0, .int 0, .int 1]))] H := hP
  have hD : va_D A [(h3, aI V 1 (upd (fun _ => 0) 0 10)), (h6, aI V 4 (fun _ => 0)), (h8, aI V 1 (fun _ => 0)), (h2, aI V 1 (upd (fun _ => 0) 0 100)), (h0, .inr (8, [.int 0, .int 1, .ref h7, .ref h8, .ref h2, .int 1, .int 1, .ref (y 19), .ref h9, .ref h4, .ref h6, .ref h1, .ref h5, .ref h3, .int 0, .int 0, .int 1]))] := hD
  refine lv_iinc (v := 2) (lv' := [(3, .int 2), (0, .ref h0), (1, .int 6), (2, .int 10)]) hx hb dX8_spread_17 hl (k := 0) rfl (by decide +kernel) (by decide) rfl (fun ls hl => ?_)
  refine lv_goto (tgt := 6) hx hb dX8_spread_20 (by decide) ?_
  refine lv_iload_n hx hb dX8_spread_6 rfl (lv_at hl 0 rfl) ?_
  refine lv_iload_n hx hb dX8_spread_7 rfl (lv_at hl 2 rfl) ?_
  refine lv_icmp_ge (tgt := 23) hx hb dX8_spread_8 (by decide) (fun c_3 => absurd c_3 (by decide)) (fun _ => ?_)
  refine lv_aload_n hx hb dX8_spread_11 rfl (lv_at hl 1 rfl) ?_
  refine lv_iload_n hx hb dX8_spread_12 rfl (lv_at hl 0 rfl) ?_
  refine lv_iload_n hx hb dX8_spread_13 rfl (lv_at hl 3 rfl) ?_
  refine jnV (wr := []) (rnV (rest := []) ⟨hx, hb, hml, hown, hg⟩ (c_X8_spreadOneNight_5 l V y h0 h3 h6 h8 h2 h7 h9 h4 h1 h5) mt_X8_spreadOneNight q_4_178 ⟨Nat.le_of_ble_eq_true rfl, Nat.le_of_ble_eq_true rfl⟩ hK hP hD hS hA hE [0, 1, 2, 3, 4] rfl rfl 4 rfl rfl rfl rfl hl.1 rfl (Nat.le_of_ble_eq_true rfl) dX8_spread_14 ⟨Nat.le_of_ble_eq_true rfl, Nat.le_of_ble_eq_true rfl⟩) hP hD hS hA [0, 1, 2, 3, 4] [] rfl rfl rfl (by decide) (fun  w H locs hw hP hD hS => ?_)
  subst hw
  have hP : va_P V.1 vwCl [(h3, aI V 1 (upd (fun _ => 0) 0 1000)), (h6, aI V 4 (fun _ => 0)), (h8, aI V 1 (fun _ => 0)), (h2, aI V 1 (upd (fun _ => 0) 0 100)), (h0, .inr (8, [.int 0, .int 1, .ref h7, .ref h8, .ref h3, .int 1, .int 1, .ref (y 19), .ref h9, .ref h4, .ref h6, .ref h1, .ref h5, .ref h2, .int 0, .int 0, .int 1]))] H := hP
  have hD : va_D A [(h3, aI V 1 (upd (fun _ => 0) 0 1000)), (h6, aI V 4 (fun _ => 0)), (h8, aI V 1 (fun _ => 0)), (h2, aI V 1 (upd (fun _ => 0) 0 100)), (h0, .inr (8, [.int 0, .int 1, .ref h7, .ref h8, .ref h3, .int 1, .int 1, .ref (y 19), .ref h9, .ref h4, .ref h6, .ref h1, .ref h5, .ref h2, .int 0, .int 0, .int 1]))] := hD
  refine lv_iinc (v := 3) (lv' := [(3, .int 3), (0, .ref h0), (1, .int 6), (2, .int 10)]) hx hb dX8_spread_17 hl (k := 0) rfl (by decide +kernel) (by decide) rfl (fun ls hl => ?_)
  refine lv_goto (tgt := 6) hx hb dX8_spread_20 (by decide) ?_
  refine lv_iload_n hx hb dX8_spread_6 rfl (lv_at hl 0 rfl) ?_
  refine lv_iload_n hx hb dX8_spread_7 rfl (lv_at hl 2 rfl) ?_
  refine lv_icmp_ge (tgt := 23) hx hb dX8_spread_8 (by decide) (fun c_4 => absurd c_4 (by decide)) (fun _ => ?_)
  refine lv_aload_n hx hb dX8_spread_11 rfl (lv_at hl 1 rfl) ?_
  refine lv_iload_n hx hb dX8_spread_12 rfl (lv_at hl 0 rfl) ?_
  refine lv_iload_n hx hb dX8_spread_13 rfl (lv_at hl 3 rfl) ?_
  refine jnV (wr := []) (rnV (rest := []) ⟨hx, hb, hml, hown, hg⟩ (c_X8_spreadOneNight_7 l V y h0 h3 h6 h8 h2 h7 h9 h4 h1 h5) mt_X8_spreadOneNight q_4_178 ⟨Nat.le_of_ble_eq_true rfl, Nat.le_of_ble_eq_true rfl⟩ hK hP hD hS hA hE [0, 1, 2, 3, 4] rfl rfl 4 rfl rfl rfl rfl hl.1 rfl (Nat.le_of_ble_eq_true rfl) dX8_spread_14 ⟨Nat.le_of_ble_eq_true rfl, Nat.le_of_ble_eq_true rfl⟩) hP hD hS hA [0, 1, 2, 3, 4] [] rfl rfl rfl (by decide) (fun  w H locs hw hP hD hS => ?_)
  subst hw
  have hP : va_P V.1 vwCl [(h3, aI V 1 (upd (fun _ => 0) 0 1000)), (h6, aI V 4 (fun _ => 0)), (h8, aI V 1 (fun _ => 0)), (h2, aI V 1 (upd (fun _ => 0) 0 10000)), (h0, .inr (8, [.int 0, .int 1, .ref h7, .ref h8, .ref h2, .int 1, .int 1, .ref (y 19), .ref h9, .ref h4, .ref h6, .ref h1, .ref h5, .ref h3, .int 0, .int 0, .int 1]))] H := hP
  have hD : va_D A [(h3, aI V 1 (upd (fun _ => 0) 0 1000)), (h6, aI V 4 (fun _ => 0)), (h8, aI V 1 (fun _ => 0)), (h2, aI V 1 (upd (fun _ => 0) 0 10000)), (h0, .inr (8, [.int 0, .int 1, .ref h7, .ref h8, .ref h2, .int 1, .int 1, .ref (y 19), .ref h9, .ref h4, .ref h6, .ref h1, .ref h5, .ref h3, .int 0, .int 0, .int 1]))] := hD
  refine lv_iinc (v := 4) (lv' := [(3, .int 4), (0, .ref h0), (1, .int 6), (2, .int 10)]) hx hb dX8_spread_17 hl (k := 0) rfl (by decide +kernel) (by decide) rfl (fun ls hl => ?_)
  refine lv_goto (tgt := 6) hx hb dX8_spread_20 (by decide) ?_
  refine lv_iload_n hx hb dX8_spread_6 rfl (lv_at hl 0 rfl) ?_
  refine lv_iload_n hx hb dX8_spread_7 rfl (lv_at hl 2 rfl) ?_
  refine lv_icmp_ge (tgt := 23) hx hb dX8_spread_8 (by decide) (fun c_5 => absurd c_5 (by decide)) (fun _ => ?_)
  refine lv_aload_n hx hb dX8_spread_11 rfl (lv_at hl 1 rfl) ?_
  refine lv_iload_n hx hb dX8_spread_12 rfl (lv_at hl 0 rfl) ?_
  refine lv_iload_n hx hb dX8_spread_13 rfl (lv_at hl 3 rfl) ?_
  refine jnV (wr := []) (rnV (rest := []) ⟨hx, hb, hml, hown, hg⟩ (c_X8_spreadOneNight_9 l V y h0 h3 h6 h8 h2 h7 h9 h4 h1 h5) mt_X8_spreadOneNight q_4_178 ⟨Nat.le_of_ble_eq_true rfl, Nat.le_of_ble_eq_true rfl⟩ hK hP hD hS hA hE [0, 1, 2, 3, 4] rfl rfl 4 rfl rfl rfl rfl hl.1 rfl (Nat.le_of_ble_eq_true rfl) dX8_spread_14 ⟨Nat.le_of_ble_eq_true rfl, Nat.le_of_ble_eq_true rfl⟩) hP hD hS hA [0, 1, 2, 3, 4] [] rfl rfl rfl (by decide) (fun  w H locs hw hP hD hS => ?_)
  subst hw
  have hP : va_P V.1 vwCl [(h3, aI V 1 (upd (fun _ => 0) 0 100000)), (h6, aI V 4 (fun _ => 0)), (h8, aI V 1 (fun _ => 0)), (h2, aI V 1 (upd (fun _ => 0) 0 10000)), (h0, .inr (8, [.int 0, .int 1, .ref h7, .ref h8, .ref h3, .int 1, .int 1, .ref (y 19), .ref h9, .ref h4, .ref h6, .ref h1, .ref h5, .ref h2, .int 0, .int 0, .int 1]))] H := hP
  have hD : va_D A [(h3, aI V 1 (upd (fun _ => 0) 0 100000)), (h6, aI V 4 (fun _ => 0)), (h8, aI V 1 (fun _ => 0)), (h2, aI V 1 (upd (fun _ => 0) 0 10000)), (h0, .inr (8, [.int 0, .int 1, .ref h7, .ref h8, .ref h3, .int 1, .int 1, .ref (y 19), .ref h9, .ref h4, .ref h6, .ref h1, .ref h5, .ref h2, .int 0, .int 0, .int 1]))] := hD
  refine lv_iinc (v := 5) (lv' := [(3, .int 5), (0, .ref h0), (1, .int 6), (2, .int 10)]) hx hb dX8_spread_17 hl (k := 0) rfl (by decide +kernel) (by decide) rfl (fun ls hl => ?_)
  refine lv_goto (tgt := 6) hx hb dX8_spread_20 (by decide) ?_
  refine lv_iload_n hx hb dX8_spread_6 rfl (lv_at hl 0 rfl) ?_
  refine lv_iload_n hx hb dX8_spread_7 rfl (lv_at hl 2 rfl) ?_
  refine lv_icmp_ge (tgt := 23) hx hb dX8_spread_8 (by decide) (fun c_6 => absurd c_6 (by decide)) (fun _ => ?_)
  refine lv_aload_n hx hb dX8_spread_11 rfl (lv_at hl 1 rfl) ?_
  refine lv_iload_n hx hb dX8_spread_12 rfl (lv_at hl 0 rfl) ?_
  refine lv_iload_n hx hb dX8_spread_13 rfl (lv_at hl 3 rfl) ?_
  refine jnV (wr := []) (rnV (rest := []) ⟨hx, hb, hml, hown, hg⟩ (c_X8_spreadOneNight_11 l V y h0 h3 h6 h8 h2 h7 h9 h4 h1 h5) mt_X8_spreadOneNight q_4_178 ⟨Nat.le_of_ble_eq_true rfl, Nat.le_of_ble_eq_true rfl⟩ hK hP hD hS hA hE [0, 1, 2, 3, 4] rfl rfl 4 rfl rfl rfl rfl hl.1 rfl (Nat.le_of_ble_eq_true rfl) dX8_spread_14 ⟨Nat.le_of_ble_eq_true rfl, Nat.le_of_ble_eq_true rfl⟩) hP hD hS hA [0, 1, 2, 3, 4] [] rfl rfl rfl (by decide) (fun  w H locs hw hP hD hS => ?_)
  subst hw
  have hP : va_P V.1 vwCl [(h3, aI V 1 (upd (fun _ => 0) 0 100000)), (h6, aI V 4 (fun _ => 0)), (h8, aI V 1 (fun _ => 0)), (h2, aI V 1 (upd (fun _ => 0) 0 1000000)), (h0, .inr (8, [.int 0, .int 1, .ref h7, .ref h8, .ref h2, .int 1, .int 1, .ref (y 19), .ref h9, .ref h4, .ref h6, .ref h1, .ref h5, .ref h3, .int 0, .int 0, .int 1]))] H := hP
  have hD : va_D A [(h3, aI V 1 (upd (fun _ => 0) 0 100000)), (h6, aI V 4 (fun _ => 0)), (h8, aI V 1 (fun _ => 0)), (h2, aI V 1 (upd (fun _ => 0) 0 1000000)), (h0, .inr (8, [.int 0, .int 1, .ref h7, .ref h8, .ref h2, .int 1, .int 1, .ref (y 19), .ref h9, .ref h4, .ref h6, .ref h1, .ref h5, .ref h3, .int 0, .int 0, .int 1]))] := hD
  refine lv_iinc (v := 6) (lv' := [(3, .int 6), (0, .ref h0), (1, .int 6), (2, .int 10)]) hx hb dX8_spread_17 hl (k := 0) rfl (by decide +kernel) (by decide) rfl (fun ls hl => ?_)
  refine lv_goto (tgt := 6) hx hb dX8_spread_20 (by decide) ?_
  refine lv_iload_n hx hb dX8_spread_6 rfl (lv_at hl 0 rfl) ?_
  refine lv_iload_n hx hb dX8_spread_7 rfl (lv_at hl 2 rfl) ?_
  refine lv_icmp_ge (tgt := 23) hx hb dX8_spread_8 (by decide) (fun _ => ?_) (fun c_7 => absurd c_7 (by decide))
  have hP := subP (ws' := [(h2, aI V 1 (upd (fun _ => 0) 0 1000000)), (h3, aI V 1 (upd (fun _ => 0) 0 100000)), (h6, aI V 4 (fun _ => 0)), (h0, .inr (8, [.int 0, .int 1, .ref h7, .ref h8, .ref h2, .int 1, .int 1, .ref (y 19), .ref h9, .ref h4, .ref h6, .ref h1, .ref h5, .ref h3, .int 0, .int 0, .int 1])), (h8, aI V 1 (fun _ => 0))]) hP [3, 0, 1, 4, 2] rfl
  have hD := hD.sub (ws' := [(h2, aI V 1 (upd (fun _ => 0) 0 1000000)), (h3, aI V 1 (upd (fun _ => 0) 0 100000)), (h6, aI V 4 (fun _ => 0)), (h0, .inr (8, [.int 0, .int 1, .ref h7, .ref h8, .ref h2, .int 1, .int 1, .ref (y 19), .ref h9, .ref h4, .ref h6, .ref h1, .ref h5, .ref h3, .int 0, .int 0, .int 1])), (h8, aI V 1 (fun _ => 0))]) [3, 0, 1, 4, 2] rfl rfl
  exact fiV hx hb hr hlk hK hP hD hS dX8_spread_23 (Nat.le_of_ble_eq_true rfl) (Nat.le_of_ble_eq_true rfl) (rfl)
set_option maxHeartbeats 4000000 in
set_option maxRecDepth 100000 in
theorem c_X8_spread_13 (l : Launch) (V : GV) (y : Nat → Nat) (h0 : Nat) (h1 : Nat) (h2 : Nat) (h3 : Nat) (h4 : Nat) (h5 : Nat) (h6 : Nat) (h7 : Nat) (h8 : Nat) (h9 : Nat) : Ct l V yX8_spread (.code yX8_spread cX8_spread 4 none) 4 [.ref h0, .int 6, .int 10] [(h1, aI V 1 (fun _ => 0)), (h2, aI V 1 (fun _ => 0)), (h3, aI V 4 (fun _ => 0)), (h0, .inr (8, [.int 0, .int 1, .ref h4, .ref h5, .ref h1, .int 1, .int 1, .ref (y 19), .ref h6, .ref h7, .ref h3, .ref h8, .ref h9, .ref h2, .int 0, .int 0, .int 1])), (h5, aI V 1 (fun _ => 0))] 0 0 (QV V (fun (w : va_W) => (w = [(h1, aI V 1 (upd (fun _ => 0) 0 1000000)), (h2, aI V 1 (upd (fun _ => 0) 0 100000)), (h3, aI V 4 (fun _ => 0)), (h0, .inr (8, [.int 0, .int 1, .ref h4, .ref h5, .ref h1, .int 1, .int 1, .ref (y 19), .ref h6, .ref h7, .ref h3, .ref h8, .ref h9, .ref h2, .int 0, .int 0, .int 1])), (h5, aI V 1 (fun _ => 0))]))) := by
  refine Ct.of (by decide) (Nat.le_of_ble_eq_true rfl) (fun p e s m below meth c A ls hx hb hr hml hown hlk hnm hg hP hK hD hE hA hS hl => ?_)
  have hl : lv_has ls 4 [(0, .ref h0), (1, .int 6), (2, .int 10)] := hl
  refine lv_aload_n hx hb dX8_spread_0 rfl (lv_at hl 0 rfl) ?_
  refine jnV (wr := [(h2, aI V 1 (fun _ => 0)), (h3, aI V 4 (fun _ => 0)), (h5, aI V 1 (fun _ => 0))]) (rnV (rest := []) ⟨hx, hb, hml, hown, hg⟩ (c_X8_beginSpread_3 l V y h0 h1 h2 h3 h4 h5 h6 h7 h8 h9) mt_X8_beginSpread q_4_168 ⟨Nat.le_of_ble_eq_true rfl, Nat.le_of_ble_eq_true rfl⟩ hK hP hD hS hA hE [0, 3] rfl rfl 3 rfl rfl rfl rfl hl.1 rfl (Nat.le_of_ble_eq_true rfl) dX8_spread_1 ⟨Nat.le_of_ble_eq_true rfl, Nat.le_of_ble_eq_true rfl⟩) hP hD hS hA [0, 3] [1, 2, 4] rfl rfl rfl (by decide) (fun  w H locs hw hP hD hS => ?_)
  subst hw
  have hP : va_P V.1 vwCl [(h2, aI V 1 (fun _ => 0)), (h3, aI V 4 (fun _ => 0)), (h5, aI V 1 (fun _ => 0)), (h1, aI V 1 (upd (fun _ => 0) 0 1)), (h0, .inr (8, [.int 0, .int 1, .ref h4, .ref h5, .ref h1, .int 1, .int 1, .ref (y 19), .ref h6, .ref h7, .ref h3, .ref h8, .ref h9, .ref h2, .int 0, .int 0, .int 1]))] H := hP
  have hD : va_D A [(h2, aI V 1 (fun _ => 0)), (h3, aI V 4 (fun _ => 0)), (h5, aI V 1 (fun _ => 0)), (h1, aI V 1 (upd (fun _ => 0) 0 1)), (h0, .inr (8, [.int 0, .int 1, .ref h4, .ref h5, .ref h1, .int 1, .int 1, .ref (y 19), .ref h6, .ref h7, .ref h3, .ref h8, .ref h9, .ref h2, .int 0, .int 0, .int 1]))] := hD
  refine lv_iconst (v := 0) hx hb dX8_spread_4 (by decide) ?_
  refine lv_istore_n (lv' := [(3, .int 0), (0, .ref h0), (1, .int 6), (2, .int 10)]) hx hb dX8_spread_5 rfl hl (by decide) rfl (fun ls hl => ?_)
  refine lv_iload_n hx hb dX8_spread_6 rfl (lv_at hl 0 rfl) ?_
  refine lv_iload_n hx hb dX8_spread_7 rfl (lv_at hl 2 rfl) ?_
  refine lv_icmp_ge (tgt := 23) hx hb dX8_spread_8 (by decide) (fun c_1 => absurd c_1 (by decide)) (fun _ => ?_)
  refine lv_aload_n hx hb dX8_spread_11 rfl (lv_at hl 1 rfl) ?_
  refine lv_iload_n hx hb dX8_spread_12 rfl (lv_at hl 0 rfl) ?_
  refine lv_iload_n hx hb dX8_spread_13 rfl (lv_at hl 3 rfl) ?_
  refine jnV (wr := []) (rnV (rest := []) ⟨hx, hb, hml, hown, hg⟩ (c_X8_spreadOneNight_1 l V y h0 h2 h3 h5 h1 h4 h6 h7 h8 h9) mt_X8_spreadOneNight q_4_178 ⟨Nat.le_of_ble_eq_true rfl, Nat.le_of_ble_eq_true rfl⟩ hK hP hD hS hA hE [0, 1, 2, 3, 4] rfl rfl 4 rfl rfl rfl rfl hl.1 rfl (Nat.le_of_ble_eq_true rfl) dX8_spread_14 ⟨Nat.le_of_ble_eq_true rfl, Nat.le_of_ble_eq_true rfl⟩) hP hD hS hA [0, 1, 2, 3, 4] [] rfl rfl rfl (by decide) (fun  w H locs hw hP hD hS => ?_)
  subst hw
  have hP : va_P V.1 vwCl [(h2, aI V 1 (upd (fun _ => 0) 0 10)), (h3, aI V 4 (fun _ => 0)), (h5, aI V 1 (fun _ => 0)), (h1, aI V 1 (upd (fun _ => 0) 0 1)), (h0, .inr (8, [.int 0, .int 1, .ref h4, .ref h5, .ref h2, .int 1, .int 1, .ref (y 19), .ref h6, .ref h7, .ref h3, .ref h8, .ref h9, .ref h1, .int 0, .int 0, .int 1]))] H := hP
  have hD : va_D A [(h2, aI V 1 (upd (fun _ => 0) 0 10)), (h3, aI V 4 (fun _ => 0)), (h5, aI V 1 (fun _ => 0)), (h1, aI V 1 (upd (fun _ => 0) 0 1)), (h0, .inr (8, [.int 0, .int 1, .ref h4, .ref h5, .ref h2, .int 1, .int 1, .ref (y 19), .ref h6, .ref h7, .ref h3, .ref h8, .ref h9, .ref h1, .int 0, .int 0, .int 1]))] := hD
  refine lv_iinc (v := 1) (lv' := [(3, .int 1), (0, .ref h0), (1, .int 6), (2, .int 10)]) hx hb dX8_spread_17 hl (k := 0) rfl (by decide +kernel) (by decide) rfl (fun ls hl => ?_)
  refine lv_goto (tgt := 6) hx hb dX8_spread_20 (by decide) ?_
  refine lv_iload_n hx hb dX8_spread_6 rfl (lv_at hl 0 rfl) ?_
  refine lv_iload_n hx hb dX8_spread_7 rfl (lv_at hl 2 rfl) ?_
  refine lv_icmp_ge (tgt := 23) hx hb dX8_spread_8 (by decide) (fun c_2 => absurd c_2 (by decide)) (fun _ => ?_)
  refine lv_aload_n hx hb dX8_spread_11 rfl (lv_at hl 1 rfl) ?_
  refine lv_iload_n hx hb dX8_spread_12 rfl (lv_at hl 0 rfl) ?_
  refine lv_iload_n hx hb dX8_spread_13 rfl (lv_at hl 3 rfl) ?_
  refine jnV (wr := []) (rnV (rest := []) ⟨hx, hb, hml, hown, hg⟩ (c_X8_spreadOneNight_3 l V y h0 h2 h3 h5 h1 h4 h6 h7 h8 h9) mt_X8_spreadOneNight q_4_178 ⟨Nat.le_of_ble_eq_true rfl, Nat.le_of_ble_eq_true rfl⟩ hK hP hD hS hA hE [0, 1, 2, 3, 4] rfl rfl 4 rfl rfl rfl rfl hl.1 rfl (Nat.le_of_ble_eq_true rfl) dX8_spread_14 ⟨Nat.le_of_ble_eq_true rfl, Nat.le_of_ble_eq_true rfl⟩) hP hD hS hA [0, 1, 2, 3, 4] [] rfl rfl rfl (by decide) (fun  w H locs hw hP hD hS => ?_)
  subst hw
  have hP : va_P V.1 vwCl [(h2, aI V 1 (upd (fun _ => 0) 0 10)), (h3, aI V 4 (fun _ => 0)), (h5, aI V 1 (fun _ => 0)), (h1, aI V 1 (upd (fun _ => 0) 0 100)), (h0, .inr (8, [.int 0, .int 1, .ref h4, .ref h5, .ref h1, .int 1, .int 1, .ref (y 19), .ref h6, .ref h7, .ref h3, .ref h8, .ref h9, .ref h2, .int 0, .int 0, .int 1]))] H := hP
  have hD : va_D A [(h2, aI V 1 (upd (fun _ => 0) 0 10)), (h3, aI V 4 (fun _ => 0)), (h5, aI V 1 (fun _ => 0)), (h1, aI V 1 (upd (fun _ => 0) 0 100)), (h0, .inr (8, [.int 0, .int 1, .ref h4, .ref h5, .ref h1, .int 1, .int 1, .ref (y 19), .ref h6, .ref h7, .ref h3, .ref h8, .ref h9, .ref h2, .int 0, .int 0, .int 1]))] := hD
  refine lv_iinc (v := 2) (lv' := [(3, .int 2), (0, .ref h0), (1, .int 6), (2, .int 10)]) hx hb dX8_spread_17 hl (k := 0) rfl (by decide +kernel) (by decide) rfl (fun ls hl => ?_)
  refine lv_goto (tgt := 6) hx hb dX8_spread_20 (by decide) ?_
  refine lv_iload_n hx hb dX8_spread_6 rfl (lv_at hl 0 rfl) ?_
  refine lv_iload_n hx hb dX8_spread_7 rfl (lv_at hl 2 rfl) ?_
  refine lv_icmp_ge (tgt := 23) hx hb dX8_spread_8 (by decide) (fun c_3 => absurd c_3 (by decide)) (fun _ => ?_)
  refine lv_aload_n hx hb dX8_spread_11 rfl (lv_at hl 1 rfl) ?_
  refine lv_iload_n hx hb dX8_spread_12 rfl (lv_at hl 0 rfl) ?_
  refine lv_iload_n hx hb dX8_spread_13 rfl (lv_at hl 3 rfl) ?_
  refine jnV (wr := []) (rnV (rest := []) ⟨hx, hb, hml, hown, hg⟩ (c_X8_spreadOneNight_5 l V y h0 h2 h3 h5 h1 h4 h6 h7 h8 h9) mt_X8_spreadOneNight q_4_178 ⟨Nat.le_of_ble_eq_true rfl, Nat.le_of_ble_eq_true rfl⟩ hK hP hD hS hA hE [0, 1, 2, 3, 4] rfl rfl 4 rfl rfl rfl rfl hl.1 rfl (Nat.le_of_ble_eq_true rfl) dX8_spread_14 ⟨Nat.le_of_ble_eq_true rfl, Nat.le_of_ble_eq_true rfl⟩) hP hD hS hA [0, 1, 2, 3, 4] [] rfl rfl rfl (by decide) (fun  w H locs hw hP hD hS => ?_)
  subst hw
  have hP : va_P V.1 vwCl [(h2, aI V 1 (upd (fun _ => 0) 0 1000)), (h3, aI V 4 (fun _ => 0)), (h5, aI V 1 (fun _ => 0)), (h1, aI V 1 (upd (fun _ => 0) 0 100)), (h0, .inr (8, [.int 0, .int 1, .ref h4, .ref h5, .ref h2, .int 1, .int 1, .ref (y 19), .ref h6, .ref h7, .ref h3, .ref h8, .ref h9, .ref h1, .int 0, .int 0, .int 1]))] H := hP
  have hD : va_D A [(h2, aI V 1 (upd (fun _ => 0) 0 1000)), (h3, aI V 4 (fun _ => 0)), (h5, aI V 1 (fun _ => 0)), (h1, aI V 1 (upd (fun _ => 0) 0 100)), (h0, .inr (8, [.int 0, .int 1, .ref h4, .ref h5, .ref h2, .int 1, .int 1, .ref (y 19), .ref h6, .ref h7, .ref h3, .ref h8, .ref h9, .ref h1, .int 0, .int 0, .int 1]))] := hD
  refine lv_iinc (v := 3) (lv' := [(3, .int 3), (0, .ref h0), (1, .int 6), (2, .int 10)]) hx hb dX8_spread_17 hl (k := 0) rfl (by decide +kernel) (by decide) rfl (fun ls hl => ?_)
  refine lv_goto (tgt := 6) hx hb dX8_spread_20 (by decide) ?_
  refine lv_iload_n hx hb dX8_spread_6 rfl (lv_at hl 0 rfl) ?_
  refine lv_iload_n hx hb dX8_spread_7 rfl (lv_at hl 2 rfl) ?_
  refine lv_icmp_ge (tgt := 23) hx hb dX8_spread_8 (by decide) (fun c_4 => absurd c_4 (by decide)) (fun _ => ?_)
  refine lv_aload_n hx hb dX8_spread_11 rfl (lv_at hl 1 rfl) ?_
  refine lv_iload_n hx hb dX8_spread_12 rfl (lv_at hl 0 rfl) ?_
  refine lv_iload_n hx hb dX8_spread_13 rfl (lv_at hl 3 rfl) ?_
  refine jnV (wr := []) (rnV (rest := []) ⟨hx, hb, hml, hown, hg⟩ (c_X8_spreadOneNight_7 l V y h0 h2 h3 h5 h1 h4 h6 h7 h8 h9) mt_X8_spreadOneNight q_4_178 ⟨Nat.le_of_ble_eq_true rfl, Nat.le_of_ble_eq_true rfl⟩ hK hP hD hS hA hE [0, 1, 2, 3, 4] rfl rfl 4 rfl rfl rfl rfl hl.1 rfl (Nat.le_of_ble_eq_true rfl) dX8_spread_14 ⟨Nat.le_of_ble_eq_true rfl, Nat.le_of_ble_eq_true rfl⟩) hP hD hS hA [0, 1, 2, 3, 4] [] rfl rfl rfl (by decide) (fun  w H locs hw hP hD hS => ?_)
  subst hw
  have hP : va_P V.1 vwCl [(h2, aI V 1 (upd (fun _ => 0) 0 1000)), (h3, aI V 4 (fun _ => 0)), (h5, aI V 1 (fun _ => 0)), (h1, aI V 1 (upd (fun _ => 0) 0 10000)), (h0, .inr (8, [.int 0, .int 1, .ref h4, .ref h5, .ref h1, .int 1, .int 1, .ref (y 19), .ref h6, .ref h7, .ref h3, .ref h8, .ref h9, .ref h2, .int 0, .int 0, .int 1]))] H := hP
  have hD : va_D A [(h2, aI V 1 (upd (fun _ => 0) 0 1000)), (h3, aI V 4 (fun _ => 0)), (h5, aI V 1 (fun _ => 0)), (h1, aI V 1 (upd (fun _ => 0) 0 10000)), (h0, .inr (8, [.int 0, .int 1, .ref h4, .ref h5, .ref h1, .int 1, .int 1, .ref (y 19), .ref h6, .ref h7, .ref h3, .ref h8, .ref h9, .ref h2, .int 0, .int 0, .int 1]))] := hD
  refine lv_iinc (v := 4) (lv' := [(3, .int 4), (0, .ref h0), (1, .int 6), (2, .int 10)]) hx hb dX8_spread_17 hl (k := 0) rfl (by decide +kernel) (by decide) rfl (fun ls hl => ?_)
  refine lv_goto (tgt := 6) hx hb dX8_spread_20 (by decide) ?_
  refine lv_iload_n hx hb dX8_spread_6 rfl (lv_at hl 0 rfl) ?_
  refine lv_iload_n hx hb dX8_spread_7 rfl (lv_at hl 2 rfl) ?_
  refine lv_icmp_ge (tgt := 23) hx hb dX8_spread_8 (by decide) (fun c_5 => absurd c_5 (by decide)) (fun _ => ?_)
  refine lv_aload_n hx hb dX8_spread_11 rfl (lv_at hl 1 rfl) ?_
  refine lv_iload_n hx hb dX8_spread_12 rfl (lv_at hl 0 rfl) ?_
  refine lv_iload_n hx hb dX8_spread_13 rfl (lv_at hl 3 rfl) ?_
  refine jnV (wr := []) (rnV (rest := []) ⟨hx, hb, hml, hown, hg⟩ (c_X8_spreadOneNight_9 l V y h0 h2 h3 h5 h1 h4 h6 h7 h8 h9) mt_X8_spreadOneNight q_4_178 ⟨Nat.le_of_ble_eq_true rfl, Nat.le_of_ble_eq_true rfl⟩ hK hP hD hS hA hE [0, 1, 2, 3, 4] rfl rfl 4 rfl rfl rfl rfl hl.1 rfl (Nat.le_of_ble_eq_true rfl) dX8_spread_14 ⟨Nat.le_of_ble_eq_true rfl, Nat.le_of_ble_eq_true rfl⟩) hP hD hS hA [0, 1, 2, 3, 4] [] rfl rfl rfl (by decide) (fun  w H locs hw hP hD hS => ?_)
  subst hw
  have hP : va_P V.1 vwCl [(h2, aI V 1 (upd (fun _ => 0) 0 100000)), (h3, aI V 4 (fun _ => 0)), (h5, aI V 1 (fun _ => 0)), (h1, aI V 1 (upd (fun _ => 0) 0 10000)), (h0, .inr (8, [.int 0, .int 1, .ref h4, .ref h5, .ref h2, .int 1, .int 1, .ref (y 19), .ref h6, .ref h7, .ref h3, .ref h8, .ref h9, .ref h1, .int 0, .int 0, .int 1]))] H := hP
  have hD : va_D A [(h2, aI V 1 (upd (fun _ => 0) 0 100000)), (h3, aI V 4 (fun _ => 0)), (h5, aI V 1 (fun _ => 0)), (h1, aI V 1 (upd (fun _ => 0) 0 10000)), (h0, .inr (8, [.int 0, .int 1, .ref h4, .ref h5, .ref h2, .int 1, .int 1, .ref (y 19), .ref h6, .ref h7, .ref h3, .ref h8, .ref h9, .ref h1, .int 0, .int 0, .int 1]))] := hD
  refine lv_iinc (v := 5) (lv' := [(3, .int 5), (0, .ref h0), (1, .int 6), (2, .int 10)]) hx hb dX8_spread_17 hl (k := 0) rfl (by decide +kernel) (by decide) rfl (fun ls hl => ?_)
  refine lv_goto (tgt := 6) hx hb dX8_spread_20 (by decide) ?_
  refine lv_iload_n hx hb dX8_spread_6 rfl (lv_at hl 0 rfl) ?_
  refine lv_iload_n hx hb dX8_spread_7 rfl (lv_at hl 2 rfl) ?_
  refine lv_icmp_ge (tgt := 23) hx hb dX8_spread_8 (by decide) (fun c_6 => absurd c_6 (by decide)) (fun _ => ?_)
  refine lv_aload_n hx hb dX8_spread_11 rfl (lv_at hl 1 rfl) ?_
  refine lv_iload_n hx hb dX8_spread_12 rfl (lv_at hl 0 rfl) ?_
  refine lv_iload_n hx hb dX8_spread_13 rfl (lv_at hl 3 rfl) ?_
  refine jnV (wr := []) (rnV (rest := []) ⟨hx, hb, hml, hown, hg⟩ (c_X8_spreadOneNight_11 l V y h0 h2 h3 h5 h1 h4 h6 h7 h8 h9) mt_X8_spreadOneNight q_4_178 ⟨Nat.le_of_ble_eq_true rfl, Nat.le_of_ble_eq_true rfl⟩ hK hP hD hS hA hE [0, 1, 2, 3, 4] rfl rfl 4 rfl rfl rfl rfl hl.1 rfl (Nat.le_of_ble_eq_true rfl) dX8_spread_14 ⟨Nat.le_of_ble_eq_true rfl, Nat.le_of_ble_eq_true rfl⟩) hP hD hS hA [0, 1, 2, 3, 4] [] rfl rfl rfl (by decide) (fun  w H locs hw hP hD hS => ?_)
  subst hw
  have hP : va_P V.1 vwCl [(h2, aI V 1 (upd (fun _ => 0) 0 100000)), (h3, aI V 4 (fun _ => 0)), (h5, aI V 1 (fun _ => 0)), (h1, aI V 1 (upd (fun _ => 0) 0 1000000)), (h0, .inr (8, [.int 0, .int 1, .ref h4, .ref h5, .ref h1, .int 1, .int 1, .ref (y 19), .ref h6, .ref h7, .ref h3, .ref h8, .ref h9, .ref h2, .int 0, .int 0, .int 1]))] H := hP
  have hD : va_D A [(h2, aI V 1 (upd (fun _ => 0) 0 100000)), (h3, aI V 4 (fun _ => 0)), (h5, aI V 1 (fun _ => 0)), (h1, aI V 1 (upd (fun _ => 0) 0 1000000)), (h0, .inr (8, [.int 0, .int 1, .ref h4, .ref h5, .ref h1, .int 1, .int 1, .ref (y 19), .ref h6, .ref h7, .ref h3, .ref h8, .ref h9, .ref h2, .int 0, .int 0, .int 1]))] := hD
  refine lv_iinc (v := 6) (lv' := [(3, .int 6), (0, .ref h0), (1, .int 6), (2, .int 10)]) hx hb dX8_spread_17 hl (k := 0) rfl (by decide +kernel) (by decide) rfl (fun ls hl => ?_)
  refine lv_goto (tgt := 6) hx hb dX8_spread_20 (by decide) ?_
  refine lv_iload_n hx hb dX8_spread_6 rfl (lv_at hl 0 rfl) ?_
  refine lv_iload_n hx hb dX8_spread_7 rfl (lv_at hl 2 rfl) ?_
  refine lv_icmp_ge (tgt := 23) hx hb dX8_spread_8 (by decide) (fun _ => ?_) (fun c_7 => absurd c_7 (by decide))
  have hP := subP (ws' := [(h1, aI V 1 (upd (fun _ => 0) 0 1000000)), (h2, aI V 1 (upd (fun _ => 0) 0 100000)), (h3, aI V 4 (fun _ => 0)), (h0, .inr (8, [.int 0, .int 1, .ref h4, .ref h5, .ref h1, .int 1, .int 1, .ref (y 19), .ref h6, .ref h7, .ref h3, .ref h8, .ref h9, .ref h2, .int 0, .int 0, .int 1])), (h5, aI V 1 (fun _ => 0))]) hP [3, 0, 1, 4, 2] rfl
  have hD := hD.sub (ws' := [(h1, aI V 1 (upd (fun _ => 0) 0 1000000)), (h2, aI V 1 (upd (fun _ => 0) 0 100000)), (h3, aI V 4 (fun _ => 0)), (h0, .inr (8, [.int 0, .int 1, .ref h4, .ref h5, .ref h1, .int 1, .int 1, .ref (y 19), .ref h6, .ref h7, .ref h3, .ref h8, .ref h9, .ref h2, .int 0, .int 0, .int 1])), (h5, aI V 1 (fun _ => 0))]) [3, 0, 1, 4, 2] rfl rfl
  exact fiV hx hb hr hlk hK hP hD hS dX8_spread_23 (Nat.le_of_ble_eq_true rfl) (Nat.le_of_ble_eq_true rfl) (rfl)
set_option maxHeartbeats 4000000 in
set_option maxRecDepth 100000 in
theorem c_X8_spreadByLots_6 (l : Launch) (V : GV) (y : Nat → Nat) (h0 : Nat) (h1 : Nat) (h2 : Nat) (h3 : Nat) (h4 : Nat) (h5 : Nat) (h6 : Nat) (h7 : Nat) (h8 : Nat) (h9 : Nat) : Ct l V yX8_spreadByLots (.code yX8_spreadByLots cX8_spreadByLots 2 none) 5 [.ref h0, .int 6] [(h2, aI V 1 (fun _ => 0)), (h3, aI V 1 (fun _ => 0)), (h6, aI V 4 (fun _ => 0)), (h0, .inr (8, [.int 0, .int 1, .ref h7, .ref h8, .ref h2, .int 1, .int 1, .ref (y 19), .ref h9, .ref h4, .ref h6, .ref h1, .ref h5, .ref h3, .int 0, .int 0, .int 1])), (h8, aI V 1 (fun _ => 0))] 0 0 (QV V (fun (w : va_W) => (w = [(h2, aI V 1 (upd (fun _ => 0) 0 1000000)), (h3, aI V 1 (upd (fun _ => 0) 0 100000)), (h6, aI V 4 (fun _ => 0)), (h0, .inr (8, [.int 0, .int 1, .ref h7, .ref h8, .ref h2, .int 1, .int 1, .ref (y 19), .ref h9, .ref h4, .ref h6, .ref h1, .ref h5, .ref h3, .int 0, .int 0, .int 1])), (h8, aI V 1 (fun _ => 0))]))) := by
  refine Ct.of (by decide) (Nat.le_of_ble_eq_true rfl) (fun p e s m below meth c A ls hx hb hr hml hown hlk hnm hg hP hK hD hE hA hS hl => ?_)
  have hl : lv_has ls 2 [(0, .ref h0), (1, .int 6)] := hl
  refine lv_aload_n hx hb dX8_spreadByLots_0 rfl (lv_at hl 0 rfl) ?_
  refine lv_iload_n hx hb dX8_spreadByLots_1 rfl (lv_at hl 1 rfl) ?_
  refine lv_bipush (v := 11) hx hb dX8_spreadByLots_2 (by decide) ?_
  refine lv_aload_n hx hb dX8_spreadByLots_4 rfl (lv_at hl 0 rfl) ?_
  refine va_get (ci := 8) (v := .int 1) (C := RX8) (T := TX8) (N := 17) hx hb hg inX8 hown hK hP 3 rfl rfl 6 (by decide) (hg _ q_4_80) (fun _ h9 => h9) rfl dX8_spreadByLots_5 ?_
  refine lv_isub hx hb dX8_spreadByLots_8 ?_
  refine tpi (y := 10) (by decide +kernel) ?_
  refine jnV (wr := []) (rnV (rest := []) ⟨hx, hb, hml, hown, hg⟩ (c_X8_spread_13 l V y h0 h2 h3 h6 h7 h8 h9 h4 h1 h5) mt_X8_spread q_5_162 ⟨Nat.le_of_ble_eq_true rfl, Nat.le_of_ble_eq_true rfl⟩ hK hP hD hS hA hE [0, 1, 2, 3, 4] rfl rfl 3 rfl rfl rfl rfl hl.1 rfl (Nat.le_of_ble_eq_true rfl) dX8_spreadByLots_9 ⟨Nat.le_of_ble_eq_true rfl, Nat.le_of_ble_eq_true rfl⟩) hP hD hS hA [0, 1, 2, 3, 4] [] rfl rfl rfl (by decide) (fun  w H locs hw hP hD hS => ?_)
  subst hw
  have hP : va_P V.1 vwCl [(h2, aI V 1 (upd (fun _ => 0) 0 1000000)), (h3, aI V 1 (upd (fun _ => 0) 0 100000)), (h6, aI V 4 (fun _ => 0)), (h0, .inr (8, [.int 0, .int 1, .ref h7, .ref h8, .ref h2, .int 1, .int 1, .ref (y 19), .ref h9, .ref h4, .ref h6, .ref h1, .ref h5, .ref h3, .int 0, .int 0, .int 1])), (h8, aI V 1 (fun _ => 0))] H := hP
  have hD : va_D A [(h2, aI V 1 (upd (fun _ => 0) 0 1000000)), (h3, aI V 1 (upd (fun _ => 0) 0 100000)), (h6, aI V 4 (fun _ => 0)), (h0, .inr (8, [.int 0, .int 1, .ref h7, .ref h8, .ref h2, .int 1, .int 1, .ref (y 19), .ref h9, .ref h4, .ref h6, .ref h1, .ref h5, .ref h3, .int 0, .int 0, .int 1])), (h8, aI V 1 (fun _ => 0))] := hD
  exact fiV hx hb hr hlk hK hP hD hS dX8_spreadByLots_12 (Nat.le_of_ble_eq_true rfl) (Nat.le_of_ble_eq_true rfl) (rfl)
set_option maxHeartbeats 4000000 in
set_option maxRecDepth 100000 in
theorem c_X9_greatestCommon_6 (l : Launch) (V : GV) : Ct l V yX9_greatestCommon (.code yX9_greatestCommon cX9_greatestCommon 6 (some .int)) 1 [.int 0, .int 1000000] [] 0 0 (QI V (fun (r : Int32) (w : va_W) => (r = 1000000 ∧ w = []))) := by
  refine Ct.of (by decide) (Nat.le_of_ble_eq_true rfl) (fun p e s m below meth c A ls hx hb hr hml hown hlk hnm hg hP hK hD hE hA hS hl => ?_)
  have hl : lv_has ls 6 [(0, .int 0), (1, .int 1000000)] := hl
  refine lv_iload_n hx hb dX9_greatestCommon_0 rfl (lv_at hl 0 rfl) ?_
  refine lv_istore_n (lv' := [(2, .int 0), (0, .int 0), (1, .int 1000000)]) hx hb dX9_greatestCommon_1 rfl hl (by decide) rfl (fun ls hl => ?_)
  refine lv_iload_n hx hb dX9_greatestCommon_2 rfl (lv_at hl 2 rfl) ?_
  refine lv_istore_n (lv' := [(3, .int 1000000), (2, .int 0), (0, .int 0), (1, .int 1000000)]) hx hb dX9_greatestCommon_3 rfl hl (by decide) rfl (fun ls hl => ?_)
  refine lv_iconst (v := 0) hx hb dX9_greatestCommon_4 (by decide) ?_
  refine lv_istore (lv' := [(4, .int 0), (3, .int 1000000), (2, .int 0), (0, .int 0), (1, .int 1000000)]) hx hb dX9_greatestCommon_5 hl (by decide) rfl (fun ls hl => ?_)
  refine lv_iload hx hb dX9_greatestCommon_7 (lv_at hl 0 rfl) ?_
  refine lv_bipush (v := 100) hx hb dX9_greatestCommon_9 (by decide) ?_
  refine lv_icmp_ge (tgt := 34) hx hb dX9_greatestCommon_11 (by decide) (fun c_1 => absurd c_1 (by decide)) (fun _ => ?_)
  refine lv_iload_n hx hb dX9_greatestCommon_14 rfl (lv_at hl 1 rfl) ?_
  refine lv_if_eq (tgt := 34) hx hb dX9_greatestCommon_15 (by decide) (fun c_2 => absurd c_2 (by decide)) (fun _ => ?_)
  refine lv_iload_n hx hb dX9_greatestCommon_18 rfl (lv_at hl 2 rfl) ?_
  refine lv_iload_n hx hb dX9_greatestCommon_19 rfl (lv_at hl 1 rfl) ?_
  refine lv_irem hx hb dX9_greatestCommon_20 (by decide) ?_
  refine tpi (y := 0) (by decide +kernel) ?_
  refine lv_istore (lv' := [(5, .int 0), (4, .int 0), (3, .int 1000000), (2, .int 0), (0, .int 0), (1, .int 1000000)]) hx hb dX9_greatestCommon_21 hl (by decide) rfl (fun ls hl => ?_)
  refine lv_iload_n hx hb dX9_greatestCommon_23 rfl (lv_at hl 2 rfl) ?_
  refine lv_istore_n (lv' := [(2, .int 1000000), (5, .int 0), (4, .int 0), (3, .int 1000000), (0, .int 0), (1, .int 1000000)]) hx hb dX9_greatestCommon_24 rfl hl (by decide) rfl (fun ls hl => ?_)
  refine lv_iload hx hb dX9_greatestCommon_25 (lv_at hl 1 rfl) ?_
  refine lv_istore_n (lv' := [(3, .int 0), (2, .int 1000000), (5, .int 0), (4, .int 0), (0, .int 0), (1, .int 1000000)]) hx hb dX9_greatestCommon_27 rfl hl (by decide) rfl (fun ls hl => ?_)
  refine lv_iinc (v := 1) (lv' := [(4, .int 1), (3, .int 0), (2, .int 1000000), (5, .int 0), (0, .int 0), (1, .int 1000000)]) hx hb dX9_greatestCommon_28 hl (k := 3) rfl (by decide +kernel) (by decide) rfl (fun ls hl => ?_)
  refine lv_goto (tgt := 7) hx hb dX9_greatestCommon_31 (by decide) ?_
  refine lv_iload hx hb dX9_greatestCommon_7 (lv_at hl 0 rfl) ?_
  refine lv_bipush (v := 100) hx hb dX9_greatestCommon_9 (by decide) ?_
  refine lv_icmp_ge (tgt := 34) hx hb dX9_greatestCommon_11 (by decide) (fun c_3 => absurd c_3 (by decide)) (fun _ => ?_)
  refine lv_iload_n hx hb dX9_greatestCommon_14 rfl (lv_at hl 1 rfl) ?_
  refine lv_if_eq (tgt := 34) hx hb dX9_greatestCommon_15 (by decide) (fun _ => ?_) (fun c_4 => absurd c_4 (by decide))
  refine lv_iload_n hx hb dX9_greatestCommon_34 rfl (lv_at hl 2 rfl) ?_
  exact fiI hx hb hr hlk hK hP hD hS dX9_greatestCommon_35 (Nat.le_of_ble_eq_true rfl) (Nat.le_of_ble_eq_true rfl) (⟨rfl, rfl⟩)
set_option maxHeartbeats 4000000 in
set_option maxRecDepth 100000 in
theorem c_X9_inLowestTerms_6 (l : Launch) (V : GV) (p0 : Int32) : Ct l V yX9_inLowestTerms (.code yX9_inLowestTerms cX9_inLowestTerms 5 (some .int)) 2 [.int 0, .int 6, .int p0] [] 0 0 (QI V (fun (r : Int32) (w : va_W) => ((¬ p0 = 0) ∧ r = 1 ∧ w = []) ∨ (p0 = 0 ∧ r = 0 ∧ w = []))) := by
  refine Ct.of (by decide) (Nat.le_of_ble_eq_true rfl) (fun p e s m below meth c A ls hx hb hr hml hown hlk hnm hg hP hK hD hE hA hS hl => ?_)
  have hl : lv_has ls 5 [(0, .int 0), (1, .int 6), (2, .int p0)] := hl
  refine lv_iconst (v := 1) hx hb dX9_inLowestTerms_0 (by decide) ?_
  refine lv_istore_n (lv' := [(3, .int 1), (0, .int 0), (1, .int 6), (2, .int p0)]) hx hb dX9_inLowestTerms_1 rfl hl (by decide) rfl (fun ls hl => ?_)
  refine lv_iconst (v := 0) hx hb dX9_inLowestTerms_2 (by decide) ?_
  refine lv_istore (lv' := [(4, .int 0), (3, .int 1), (0, .int 0), (1, .int 6), (2, .int p0)]) hx hb dX9_inLowestTerms_3 hl (by decide) rfl (fun ls hl => ?_)
  refine lv_iload hx hb dX9_inLowestTerms_5 (lv_at hl 0 rfl) ?_
  refine lv_iload_n hx hb dX9_inLowestTerms_7 rfl (lv_at hl 3 rfl) ?_
  refine lv_icmp_ge (tgt := 22) hx hb dX9_inLowestTerms_8 (by decide) (fun c_1 => absurd c_1 (by decide)) (fun _ => ?_)
  refine lv_iload_n hx hb dX9_inLowestTerms_11 rfl (lv_at hl 1 rfl) ?_
  refine lv_bipush (v := 10) hx hb dX9_inLowestTerms_12 (by decide) ?_
  refine lv_imul hx hb dX9_inLowestTerms_14 ?_
  refine tpi (y := 10) (by decide +kernel) ?_
  refine lv_istore_n (lv' := [(3, .int 10), (4, .int 0), (0, .int 0), (1, .int 6), (2, .int p0)]) hx hb dX9_inLowestTerms_15 rfl hl (by decide) rfl (fun ls hl => ?_)
  refine lv_iinc (v := 1) (lv' := [(4, .int 1), (3, .int 10), (0, .int 0), (1, .int 6), (2, .int p0)]) hx hb dX9_inLowestTerms_16 hl (k := 1) rfl (by decide +kernel) (by decide) rfl (fun ls hl => ?_)
  refine lv_goto (tgt := 5) hx hb dX9_inLowestTerms_19 (by decide) ?_
  refine lv_iload hx hb dX9_inLowestTerms_5 (lv_at hl 0 rfl) ?_
  refine lv_iload_n hx hb dX9_inLowestTerms_7 rfl (lv_at hl 3 rfl) ?_
  refine lv_icmp_ge (tgt := 22) hx hb dX9_inLowestTerms_8 (by decide) (fun c_2 => absurd c_2 (by decide)) (fun _ => ?_)
  refine lv_iload_n hx hb dX9_inLowestTerms_11 rfl (lv_at hl 1 rfl) ?_
  refine lv_bipush (v := 10) hx hb dX9_inLowestTerms_12 (by decide) ?_
  refine lv_imul hx hb dX9_inLowestTerms_14 ?_
  refine tpi (y := 100) (by decide +kernel) ?_
  refine lv_istore_n (lv' := [(3, .int 100), (4, .int 1), (0, .int 0), (1, .int 6), (2, .int p0)]) hx hb dX9_inLowestTerms_15 rfl hl (by decide) rfl (fun ls hl => ?_)
  refine lv_iinc (v := 2) (lv' := [(4, .int 2), (3, .int 100), (0, .int 0), (1, .int 6), (2, .int p0)]) hx hb dX9_inLowestTerms_16 hl (k := 1) rfl (by decide +kernel) (by decide) rfl (fun ls hl => ?_)
  refine lv_goto (tgt := 5) hx hb dX9_inLowestTerms_19 (by decide) ?_
  refine lv_iload hx hb dX9_inLowestTerms_5 (lv_at hl 0 rfl) ?_
  refine lv_iload_n hx hb dX9_inLowestTerms_7 rfl (lv_at hl 3 rfl) ?_
  refine lv_icmp_ge (tgt := 22) hx hb dX9_inLowestTerms_8 (by decide) (fun c_3 => absurd c_3 (by decide)) (fun _ => ?_)
  refine lv_iload_n hx hb dX9_inLowestTerms_11 rfl (lv_at hl 1 rfl) ?_
  refine lv_bipush (v := 10) hx hb dX9_inLowestTerms_12 (by decide) ?_
  refine lv_imul hx hb dX9_inLowestTerms_14 ?_
  refine tpi (y := 1000) (by decide +kernel) ?_
  refine lv_istore_n (lv' := [(3, .int 1000), (4, .int 2), (0, .int 0), (1, .int 6), (2, .int p0)]) hx hb dX9_inLowestTerms_15 rfl hl (by decide) rfl (fun ls hl => ?_)
  refine lv_iinc (v := 3) (lv' := [(4, .int 3), (3, .int 1000), (0, .int 0), (1, .int 6), (2, .int p0)]) hx hb dX9_inLowestTerms_16 hl (k := 1) rfl (by decide +kernel) (by decide) rfl (fun ls hl => ?_)
  refine lv_goto (tgt := 5) hx hb dX9_inLowestTerms_19 (by decide) ?_
  refine lv_iload hx hb dX9_inLowestTerms_5 (lv_at hl 0 rfl) ?_
  refine lv_iload_n hx hb dX9_inLowestTerms_7 rfl (lv_at hl 3 rfl) ?_
  refine lv_icmp_ge (tgt := 22) hx hb dX9_inLowestTerms_8 (by decide) (fun c_4 => absurd c_4 (by decide)) (fun _ => ?_)
  refine lv_iload_n hx hb dX9_inLowestTerms_11 rfl (lv_at hl 1 rfl) ?_
  refine lv_bipush (v := 10) hx hb dX9_inLowestTerms_12 (by decide) ?_
  refine lv_imul hx hb dX9_inLowestTerms_14 ?_
  refine tpi (y := 10000) (by decide +kernel) ?_
  refine lv_istore_n (lv' := [(3, .int 10000), (4, .int 3), (0, .int 0), (1, .int 6), (2, .int p0)]) hx hb dX9_inLowestTerms_15 rfl hl (by decide) rfl (fun ls hl => ?_)
  refine lv_iinc (v := 4) (lv' := [(4, .int 4), (3, .int 10000), (0, .int 0), (1, .int 6), (2, .int p0)]) hx hb dX9_inLowestTerms_16 hl (k := 1) rfl (by decide +kernel) (by decide) rfl (fun ls hl => ?_)
  refine lv_goto (tgt := 5) hx hb dX9_inLowestTerms_19 (by decide) ?_
  refine lv_iload hx hb dX9_inLowestTerms_5 (lv_at hl 0 rfl) ?_
  refine lv_iload_n hx hb dX9_inLowestTerms_7 rfl (lv_at hl 3 rfl) ?_
  refine lv_icmp_ge (tgt := 22) hx hb dX9_inLowestTerms_8 (by decide) (fun c_5 => absurd c_5 (by decide)) (fun _ => ?_)
  refine lv_iload_n hx hb dX9_inLowestTerms_11 rfl (lv_at hl 1 rfl) ?_
  refine lv_bipush (v := 10) hx hb dX9_inLowestTerms_12 (by decide) ?_
  refine lv_imul hx hb dX9_inLowestTerms_14 ?_
  refine tpi (y := 100000) (by decide +kernel) ?_
  refine lv_istore_n (lv' := [(3, .int 100000), (4, .int 4), (0, .int 0), (1, .int 6), (2, .int p0)]) hx hb dX9_inLowestTerms_15 rfl hl (by decide) rfl (fun ls hl => ?_)
  refine lv_iinc (v := 5) (lv' := [(4, .int 5), (3, .int 100000), (0, .int 0), (1, .int 6), (2, .int p0)]) hx hb dX9_inLowestTerms_16 hl (k := 1) rfl (by decide +kernel) (by decide) rfl (fun ls hl => ?_)
  refine lv_goto (tgt := 5) hx hb dX9_inLowestTerms_19 (by decide) ?_
  refine lv_iload hx hb dX9_inLowestTerms_5 (lv_at hl 0 rfl) ?_
  refine lv_iload_n hx hb dX9_inLowestTerms_7 rfl (lv_at hl 3 rfl) ?_
  refine lv_icmp_ge (tgt := 22) hx hb dX9_inLowestTerms_8 (by decide) (fun c_6 => absurd c_6 (by decide)) (fun _ => ?_)
  refine lv_iload_n hx hb dX9_inLowestTerms_11 rfl (lv_at hl 1 rfl) ?_
  refine lv_bipush (v := 10) hx hb dX9_inLowestTerms_12 (by decide) ?_
  refine lv_imul hx hb dX9_inLowestTerms_14 ?_
  refine tpi (y := 1000000) (by decide +kernel) ?_
  refine lv_istore_n (lv' := [(3, .int 1000000), (4, .int 5), (0, .int 0), (1, .int 6), (2, .int p0)]) hx hb dX9_inLowestTerms_15 rfl hl (by decide) rfl (fun ls hl => ?_)
  refine lv_iinc (v := 6) (lv' := [(4, .int 6), (3, .int 1000000), (0, .int 0), (1, .int 6), (2, .int p0)]) hx hb dX9_inLowestTerms_16 hl (k := 1) rfl (by decide +kernel) (by decide) rfl (fun ls hl => ?_)
  refine lv_goto (tgt := 5) hx hb dX9_inLowestTerms_19 (by decide) ?_
  refine lv_iload hx hb dX9_inLowestTerms_5 (lv_at hl 0 rfl) ?_
  refine lv_iload_n hx hb dX9_inLowestTerms_7 rfl (lv_at hl 3 rfl) ?_
  refine lv_icmp_ge (tgt := 22) hx hb dX9_inLowestTerms_8 (by decide) (fun _ => ?_) (fun c_7 => absurd c_7 (by decide))
  refine lv_iload_n hx hb dX9_inLowestTerms_22 rfl (lv_at hl 2 rfl) ?_
  refine lv_iload_n hx hb dX9_inLowestTerms_23 rfl (lv_at hl 1 rfl) ?_
  refine jnI (wr := []) (rnS (rest := []) ⟨hx, hb, hml, hown, hg⟩ (c_X9_greatestCommon_6 l V) mt_X9_greatestCommon q_5_166 ⟨Nat.le_of_ble_eq_true rfl, Nat.le_of_ble_eq_true rfl⟩ hK hP hD hS hA hE [] rfl rfl rfl hl.1 rfl (Nat.le_of_ble_eq_true rfl) dX9_inLowestTerms_24 ⟨Nat.le_of_ble_eq_true rfl, Nat.le_of_ble_eq_true rfl⟩) hP hD hS hA [] [] rfl rfl rfl (by decide) (fun r_8 w H locs hw hP hD hS => ?_)
  obtain ⟨rfl, rfl⟩ := hw
  have hP : va_P V.1 vwCl [] H := hP
  have hD : va_D A [] := hD
  refine lv_istore (lv' := [(4, .int 1000000), (3, .int 1000000), (0, .int 0), (1, .int 6), (2, .int p0)]) hx hb dX9_inLowestTerms_27 hl (by decide) rfl (fun ls hl => ?_)
  refine lv_iload hx hb dX9_inLowestTerms_29 (lv_at hl 0 rfl) ?_
  refine lv_if_ne (tgt := 36) hx hb dX9_inLowestTerms_31 (by decide) (fun _ => ?_) (fun c_9 => absurd c_9 (by decide))
  refine lv_iload_n hx hb dX9_inLowestTerms_36 rfl (lv_at hl 4 rfl) ?_
  refine lv_if_ne (tgt := 47) hx hb dX9_inLowestTerms_37 (by decide) (fun c_10 => ?_) (fun c_10 => ?_)
  · refine lv_iload_n hx hb dX9_inLowestTerms_47 rfl (lv_at hl 1 rfl) ?_
    refine lv_iload hx hb dX9_inLowestTerms_48 (lv_at hl 0 rfl) ?_
    refine lv_idiv hx hb dX9_inLowestTerms_50 (by decide) ?_
    refine tpi (y := 1) (by decide +kernel) ?_
    exact fiI hx hb hr hlk hK hP hD hS dX9_inLowestTerms_51 (Nat.le_of_ble_eq_true rfl) (Nat.le_of_ble_eq_true rfl) (Or.inl ⟨c_10, rfl, rfl⟩)
  · refine lv_iload_n hx hb dX9_inLowestTerms_40 rfl (lv_at hl 2 rfl) ?_
    refine lv_iload hx hb dX9_inLowestTerms_41 (lv_at hl 0 rfl) ?_
    refine lv_idiv hx hb dX9_inLowestTerms_43 (by decide) ?_
    refine tpi (y := 0) (by decide +kernel) ?_
    refine lv_goto (tgt := 51) hx hb dX9_inLowestTerms_44 (by decide) ?_
    exact fiI hx hb hr hlk hK hP hD hS dX9_inLowestTerms_51 (Nat.le_of_ble_eq_true rfl) (Nat.le_of_ble_eq_true rfl) (Or.inr (⟨c_10, rfl, rfl⟩))
set_option maxHeartbeats 4000000 in
set_option maxRecDepth 100000 in
theorem c_X8_reachTo_10 (l : Launch) (V : GV) (y : Nat → Nat) (h0 : Nat) (h1 : Nat) (h2 : Nat) (h3 : Nat) (h4 : Nat) (h5 : Nat) (h6 : Nat) (h7 : Nat) (h8 : Nat) (h9 : Nat) : Ct l V yX8_reachTo (.code yX8_reachTo cX8_reachTo 3 none) 3 [.ref h0, .int 7] [(h1, aI V 4 (fun _ => 0)), (h2, aI V 4 (fun _ => 0)), (h0, .inr (8, [.int 0, .int 1, .ref h6, .ref h7, .ref h4, .int 1, .int 1, .ref (y 19), .ref h8, .ref h9, .ref h2, .ref h3, .ref h1, .ref h5, .int 0, .int 0, .int 0])), (h6, aI V 1 (fun _ => 0)), (h7, aI V 1 (fun _ => 0)), (h8, aI V 1 (upd (fun _ => 0) 0 1))] 0 0 (QV V (fun (w : va_W) => (w = [(h1, aI V 4 (fun _ => 0)), (h2, aI V 4 (fun _ => 0)), (h0, .inr (8, [.int 0, .int 1, .ref h6, .ref h7, .ref h4, .int 1, .int 1, .ref (y 19), .ref h8, .ref h9, .ref h2, .ref h3, .ref h1, .ref h5, .int 0, .int 0, .int 1])), (h6, aI V 1 (fun _ => 0)), (h7, aI V 1 (fun _ => 0)), (h8, aI V 1 (upd (fun _ => 0) 0 1))]))) := by
  refine Ct.of (by decide) (Nat.le_of_ble_eq_true rfl) (fun p e s m below meth c A ls hx hb hr hml hown hlk hnm hg hP hK hD hE hA hS hl => ?_)
  have hl : lv_has ls 3 [(0, .ref h0), (1, .int 7)] := hl
  refine lv_aload_n hx hb dX8_reachTo_0 rfl (lv_at hl 0 rfl) ?_
  refine va_get (ci := 8) (v := .int 0) (C := RX8) (T := TX8) (N := 17) hx hb hg inX8 hown hK hP 2 rfl rfl 16 (by decide) (hg _ q_4_90) (fun _ h9 => h9) rfl dX8_reachTo_1 ?_
  refine lv_istore_n (lv' := [(2, .int 0), (0, .ref h0), (1, .int 7)]) hx hb dX8_reachTo_4 rfl hl (by decide) rfl (fun ls hl => ?_)
  refine lv_iload_n hx hb dX8_reachTo_5 rfl (lv_at hl 0 rfl) ?_
  refine lv_aload_n hx hb dX8_reachTo_6 rfl (lv_at hl 1 rfl) ?_
  refine va_get (ci := 8) (v := .int 1) (C := RX8) (T := TX8) (N := 17) hx hb hg inX8 hown hK hP 2 rfl rfl 1 (by decide) (hg _ q_4_67) (fun _ h9 => h9) rfl dX8_reachTo_7 ?_
  refine lv_icmp_ge (tgt := 42) hx hb dX8_reachTo_10 (by decide) (fun c_1 => absurd c_1 (by decide)) (fun _ => ?_)
  refine lv_iload_n hx hb dX8_reachTo_13 rfl (lv_at hl 0 rfl) ?_
  refine lv_aload_n hx hb dX8_reachTo_14 rfl (lv_at hl 1 rfl) ?_
  refine va_get (ci := 8) (v := .int 1) (C := RX8) (T := TX8) (N := 17) hx hb hg inX8 hown hK hP 2 rfl rfl 5 (by decide) (hg _ q_4_76) (fun _ h9 => h9) rfl dX8_reachTo_15 ?_
  refine lv_icmp_ge (tgt := 42) hx hb dX8_reachTo_18 (by decide) (fun c_2 => absurd c_2 (by decide)) (fun _ => ?_)
  refine lv_aload_n hx hb dX8_reachTo_21 rfl (lv_at hl 1 rfl) ?_
  refine va_get (ci := 8) (v := .ref h7) (C := RX8) (T := TX8) (N := 17) hx hb hg inX8 hown hK hP 2 rfl rfl 3 (by decide) (hg _ q_4_72) (fun _ h9 => h9) rfl dX8_reachTo_22 ?_
  refine lv_iload_n hx hb dX8_reachTo_25 rfl (lv_at hl 0 rfl) ?_
  refine va_iald hx hb hK hP 4 0 rfl rfl (vin (by decide +kernel)) dX8_reachTo_26 ?_
  refine tpi (y := 0) (rfl) ?_
  refine lv_iload_n hx hb dX8_reachTo_27 rfl (lv_at hl 2 rfl) ?_
  refine lv_icmp_ge (tgt := 42) hx hb dX8_reachTo_28 (by decide) (fun c_3 => absurd c_3 (by decide)) (fun _ => ?_)
  refine lv_aload_n hx hb dX8_reachTo_31 rfl (lv_at hl 1 rfl) ?_
  refine lv_iload_n hx hb dX8_reachTo_32 rfl (lv_at hl 0 rfl) ?_
  refine jnV (wr := []) (rnV (rest := []) ⟨hx, hb, hml, hown, hg⟩ (c_X8_open_1 l V y h0 h1 h2 h6 h7 h4 h8 h9 h3 h5) mt_X8_open q_4_140 ⟨Nat.le_of_ble_eq_true rfl, Nat.le_of_ble_eq_true rfl⟩ hK hP hD hS hA hE [0, 1, 2, 3, 4, 5] rfl rfl 2 rfl rfl rfl rfl hl.1 rfl (Nat.le_of_ble_eq_true rfl) dX8_reachTo_33 ⟨Nat.le_of_ble_eq_true rfl, Nat.le_of_ble_eq_true rfl⟩) hP hD hS hA [0, 1, 2, 3, 4, 5] [] rfl rfl rfl (by decide) (fun  w H locs hw hP hD hS => ?_)
  subst hw
  have hP : va_P V.1 vwCl [(h1, aI V 4 (fun _ => 0)), (h2, aI V 4 (fun _ => 0)), (h0, .inr (8, [.int 0, .int 1, .ref h6, .ref h7, .ref h4, .int 1, .int 1, .ref (y 19), .ref h8, .ref h9, .ref h2, .ref h3, .ref h1, .ref h5, .int 0, .int 0, .int 1])), (h6, aI V 1 (fun _ => 0)), (h7, aI V 1 (fun _ => 0)), (h8, aI V 1 (upd (fun _ => 0) 0 1))] H := hP
  have hD : va_D A [(h1, aI V 4 (fun _ => 0)), (h2, aI V 4 (fun _ => 0)), (h0, .inr (8, [.int 0, .int 1, .ref h6, .ref h7, .ref h4, .int 1, .int 1, .ref (y 19), .ref h8, .ref h9, .ref h2, .ref h3, .ref h1, .ref h5, .int 0, .int 0, .int 1])), (h6, aI V 1 (fun _ => 0)), (h7, aI V 1 (fun _ => 0)), (h8, aI V 1 (upd (fun _ => 0) 0 1))] := hD
  refine lv_iinc (v := 1) (lv' := [(2, .int 1), (0, .ref h0), (1, .int 7)]) hx hb dX8_reachTo_36 hl (k := 0) rfl (by decide +kernel) (by decide) rfl (fun ls hl => ?_)
  refine lv_goto (tgt := 5) hx hb dX8_reachTo_39 (by decide) ?_
  refine lv_iload_n hx hb dX8_reachTo_5 rfl (lv_at hl 0 rfl) ?_
  refine lv_aload_n hx hb dX8_reachTo_6 rfl (lv_at hl 1 rfl) ?_
  refine va_get (ci := 8) (v := .int 1) (C := RX8) (T := TX8) (N := 17) hx hb hg inX8 hown hK hP 2 rfl rfl 1 (by decide) (hg _ q_4_67) (fun _ h9 => h9) rfl dX8_reachTo_7 ?_
  refine lv_icmp_ge (tgt := 42) hx hb dX8_reachTo_10 (by decide) (fun _ => ?_) (fun c_4 => absurd c_4 (by decide))
  exact fiV hx hb hr hlk hK hP hD hS dX8_reachTo_42 (Nat.le_of_ble_eq_true rfl) (Nat.le_of_ble_eq_true rfl) (rfl)
set_option maxHeartbeats 4000000 in
set_option maxRecDepth 100000 in
theorem c_X9_waysFromNow_8 (l : Launch) (V : GV) (y : Nat → Nat) : Ct l V yX9_waysFromNow (.code yX9_waysFromNow cX9_waysFromNow 2 (some (.object "BeaconDelay$Ways"))) 4 [.ref (y 0), .int 7] [(y 0, .inr (9, [.ref (y 1), .int 0, .ref (y 2), .ref (y 10), .ref (y 19), .ref (y 25), .ref (y 26), .ref (y 30), .ref (y 31), .ref (y 32), .null, .null, .int 0, .int 0, .int 0])), (y 2, .inr (1, [.int 0, .int 0, .int 0, .int 0, .int 0, .int 0, .ref (y 3), .ref (y 4), .ref (y 5), .ref (y 6), .ref (y 7), .ref (y 8), .ref (y 9), .int 0, .int 0, .int 0, .int 0, .int 0]))] 10 32 (QR V (fun (r : Nat) (w : va_W) => (∃ (q_1 : Nat) (q_2 : Nat) (q_3 : Nat) (q_4 : Nat) (q_5 : Nat) (q_6 : Nat) (q_7 : Nat) (q_8 : Nat) (q_9 : Nat) (q_10 : Nat), q_1 = r ∧ w = [(y 0, .inr (9, [.ref (y 1), .int 0, .ref (y 2), .ref (y 10), .ref (y 19), .ref (y 25), .ref (y 26), .ref (y 30), .ref (y 31), .ref (y 32), .ref q_1, .null, .int 0, .int 0, .int 0])), (y 2, .inr (1, [.int 0, .int 0, .int 0, .int 0, .int 0, .int 0, .ref (y 3), .ref (y 4), .ref (y 5), .ref (y 6), .ref (y 7), .ref (y 8), .ref (y 9), .int 0, .int 0, .int 0, .int 0, .int 0])), (q_8, aI V 1 (fun _ => 0)), (q_9, aI V 1 (fun _ => 0)), (q_10, aI V 1 (fun _ => 0)), (q_6, aI V 1 (fun _ => 0)), (q_2, aI V 4 (fun _ => 0)), (q_7, aI V 4 (fun _ => 0)), (q_1, .inr (8, [.int 0, .int 1, .ref q_3, .ref q_4, .ref q_9, .int 1, .int 1, .ref (y 19), .ref q_5, .ref q_6, .ref q_7, .ref q_8, .ref q_2, .ref q_10, .int 0, .int 0, .int 1])), (q_3, aI V 1 (fun _ => 0)), (q_4, aI V 1 (fun _ => 0)), (q_5, aI V 1 (upd (fun _ => 0) 0 1))]))) := by
  refine Ct.of (by decide) (Nat.le_of_ble_eq_true rfl) (fun p e s m below meth c A ls hx hb hr hml hown hlk hnm hg hP hK hD hE hA hS hl => ?_)
  have hl : lv_has ls 2 [(0, .ref (y 0)), (1, .int 7)] := hl
  refine lv_aload_n hx hb dX9_waysFromNow_0 rfl (lv_at hl 0 rfl) ?_
  refine va_get (ci := 9) (v := .null) (C := RX9) (T := TX9) (N := 15) hx hb hg inX9 hown hK hP 0 rfl rfl 10 (by decide) (hg _ q_2_46) (fun _ h9 => h9) rfl dX9_waysFromNow_1 ?_
  refine lv_ifnullN (tgt := 24) hx hb dX9_waysFromNow_4 (by decide) ?_
  refine lv_aload_n hx hb dX9_waysFromNow_24 rfl (lv_at hl 0 rfl) ?_
  refine va_new (ci := 8) (fs := [.int 0, .int 0, .null, .null, .null, .int 0, .int 0, .null, .null, .null, .null, .null, .null, .null, .int 0, .int 0, .int 0]) (C := RX8) (T := TX8) (N := 17) hx hb hg inX8 tyX8 tyX8_ok hown (hg _ q_4_56) (hg _ q_4_57) (hg _ q_1_18) hK hP hD hS hA rfl dfX8 (Nat.le_of_ble_eq_true rfl) (Nat.le_of_ble_eq_true rfl) dX9_waysFromNow_25 (fun q_1 H hP hD hS => ?_)
  refine W.widen (k := 1) (n := 17) (Nat.le_of_ble_eq_true rfl) (Nat.le_of_ble_eq_true rfl) ?_
  have hP : va_P V.1 vwCl [(y 0, .inr (9, [.ref (y 1), .int 0, .ref (y 2), .ref (y 10), .ref (y 19), .ref (y 25), .ref (y 26), .ref (y 30), .ref (y 31), .ref (y 32), .null, .null, .int 0, .int 0, .int 0])), (y 2, .inr (1, [.int 0, .int 0, .int 0, .int 0, .int 0, .int 0, .ref (y 3), .ref (y 4), .ref (y 5), .ref (y 6), .ref (y 7), .ref (y 8), .ref (y 9), .int 0, .int 0, .int 0, .int 0, .int 0])), (q_1, .inr (8, [.int 0, .int 0, .null, .null, .null, .int 0, .int 0, .null, .null, .null, .null, .null, .null, .null, .int 0, .int 0, .int 0]))] H := hP
  have hD : va_D A [(y 0, .inr (9, [.ref (y 1), .int 0, .ref (y 2), .ref (y 10), .ref (y 19), .ref (y 25), .ref (y 26), .ref (y 30), .ref (y 31), .ref (y 32), .null, .null, .int 0, .int 0, .int 0])), (y 2, .inr (1, [.int 0, .int 0, .int 0, .int 0, .int 0, .int 0, .ref (y 3), .ref (y 4), .ref (y 5), .ref (y 6), .ref (y 7), .ref (y 8), .ref (y 9), .int 0, .int 0, .int 0, .int 0, .int 0])), (q_1, .inr (8, [.int 0, .int 0, .null, .null, .null, .int 0, .int 0, .null, .null, .null, .null, .null, .null, .null, .int 0, .int 0, .int 0]))] := hD
  refine lv_dup hx hb dX9_waysFromNow_28 rfl ?_
  refine lv_aload_n hx hb dX9_waysFromNow_29 rfl (lv_at hl 0 rfl) ?_
  refine va_get (ci := 9) (v := .ref (y 19)) (C := RX9) (T := TX9) (N := 15) hx hb hg inX9 hown hK hP 0 rfl rfl 4 (by decide) (hg _ q_2_40) (fun _ h9 => h9) rfl dX9_waysFromNow_30 ?_
  refine lv_aload_n hx hb dX9_waysFromNow_33 rfl (lv_at hl 0 rfl) ?_
  refine va_get (ci := 9) (v := .ref (y 2)) (C := RX9) (T := TX9) (N := 15) hx hb hg inX9 hown hK hP 0 rfl rfl 2 (by decide) (hg _ q_2_38) (fun _ h9 => h9) rfl dX9_waysFromNow_34 ?_
  refine va_get (ci := 1) (v := .int 0) (C := RX1) (T := TX1) (N := 18) hx hb hg inX1 hown hK hP 1 rfl rfl 1 (by decide) (hg _ q_1_41) (fun _ h9 => h9) rfl dX9_waysFromNow_37 ?_
  refine jnV (wr := [(y 0, .inr (9, [.ref (y 1), .int 0, .ref (y 2), .ref (y 10), .ref (y 19), .ref (y 25), .ref (y 26), .ref (y 30), .ref (y 31), .ref (y 32), .null, .null, .int 0, .int 0, .int 0])), (y 2, .inr (1, [.int 0, .int 0, .int 0, .int 0, .int 0, .int 0, .ref (y 3), .ref (y 4), .ref (y 5), .ref (y 6), .ref (y 7), .ref (y 8), .ref (y 9), .int 0, .int 0, .int 0, .int 0, .int 0]))]) (rnI (rest := [.ref q_1, .ref (y 0)]) ⟨hx, hb, hml, hown, hg⟩ (c_X8_init_0 l V y q_1) mt_X8_init q_4_58 ⟨Nat.le_of_ble_eq_true rfl, Nat.le_of_ble_eq_true rfl⟩ hK hP hD hS hA hE [2] rfl rfl rfl hl.1 rfl (Nat.le_of_ble_eq_true rfl) dX9_waysFromNow_40 ⟨Nat.le_of_ble_eq_true rfl, Nat.le_of_ble_eq_true rfl⟩) hP hD hS hA [2] [0, 1] rfl rfl rfl (by decide) (fun  w H locs hw hP hD hS => ?_)
  refine W.widen (k := 10) (n := 32) (Nat.le_of_ble_eq_true rfl) (Nat.le_of_ble_eq_true rfl) ?_
  obtain ⟨q_2, q_3, q_4, q_5, q_6, q_7, q_8, q_9, q_10, rfl⟩ := hw
  have hP : va_P V.1 vwCl [(y 0, .inr (9, [.ref (y 1), .int 0, .ref (y 2), .ref (y 10), .ref (y 19), .ref (y 25), .ref (y 26), .ref (y 30), .ref (y 31), .ref (y 32), .null, .null, .int 0, .int 0, .int 0])), (y 2, .inr (1, [.int 0, .int 0, .int 0, .int 0, .int 0, .int 0, .ref (y 3), .ref (y 4), .ref (y 5), .ref (y 6), .ref (y 7), .ref (y 8), .ref (y 9), .int 0, .int 0, .int 0, .int 0, .int 0])), (q_1, .inr (8, [.int 0, .int 1, .ref q_3, .ref q_4, .ref q_9, .int 0, .int 0, .ref (y 19), .ref q_5, .ref q_6, .ref q_7, .ref q_8, .ref q_2, .ref q_10, .int 0, .int 0, .int 0])), (q_2, aI V 4 (fun _ => 0)), (q_3, aI V 1 (fun _ => 0)), (q_4, aI V 1 (fun _ => 0)), (q_5, aI V 1 (fun _ => 0)), (q_6, aI V 1 (fun _ => 0)), (q_7, aI V 4 (fun _ => 0)), (q_8, aI V 1 (fun _ => 0)), (q_9, aI V 1 (fun _ => 0)), (q_10, aI V 1 (fun _ => 0))] H := hP
  have hD : va_D A [(y 0, .inr (9, [.ref (y 1), .int 0, .ref (y 2), .ref (y 10), .ref (y 19), .ref (y 25), .ref (y 26), .ref (y 30), .ref (y 31), .ref (y 32), .null, .null, .int 0, .int 0, .int 0])), (y 2, .inr (1, [.int 0, .int 0, .int 0, .int 0, .int 0, .int 0, .ref (y 3), .ref (y 4), .ref (y 5), .ref (y 6), .ref (y 7), .ref (y 8), .ref (y 9), .int 0, .int 0, .int 0, .int 0, .int 0])), (q_1, .inr (8, [.int 0, .int 1, .ref q_3, .ref q_4, .ref q_9, .int 0, .int 0, .ref (y 19), .ref q_5, .ref q_6, .ref q_7, .ref q_8, .ref q_2, .ref q_10, .int 0, .int 0, .int 0])), (q_2, aI V 4 (fun _ => 0)), (q_3, aI V 1 (fun _ => 0)), (q_4, aI V 1 (fun _ => 0)), (q_5, aI V 1 (fun _ => 0)), (q_6, aI V 1 (fun _ => 0)), (q_7, aI V 4 (fun _ => 0)), (q_8, aI V 1 (fun _ => 0)), (q_9, aI V 1 (fun _ => 0)), (q_10, aI V 1 (fun _ => 0))] := hD
  refine va_put (ci := 9) (v := .ref q_1) (ty := (.object "BeaconDelay$Ways")) (C := RX9) (T := TX9) (N := 15) hx hb hg inX9 tyX9 tyX9_ok nmX9 hown hK hP hD hS 0 rfl rfl 10 (by decide) (hg _ q_2_46) (fun _ h9 => h9) rfl (by decide +kernel) rfl rfl (Nat.le_of_ble_eq_true rfl) dX9_waysFromNow_43 (fun H locs hP hD hS => ?_)
  have hP : va_P V.1 vwCl [(y 0, .inr (9, [.ref (y 1), .int 0, .ref (y 2), .ref (y 10), .ref (y 19), .ref (y 25), .ref (y 26), .ref (y 30), .ref (y 31), .ref (y 32), .ref q_1, .null, .int 0, .int 0, .int 0])), (y 2, .inr (1, [.int 0, .int 0, .int 0, .int 0, .int 0, .int 0, .ref (y 3), .ref (y 4), .ref (y 5), .ref (y 6), .ref (y 7), .ref (y 8), .ref (y 9), .int 0, .int 0, .int 0, .int 0, .int 0])), (q_1, .inr (8, [.int 0, .int 1, .ref q_3, .ref q_4, .ref q_9, .int 0, .int 0, .ref (y 19), .ref q_5, .ref q_6, .ref q_7, .ref q_8, .ref q_2, .ref q_10, .int 0, .int 0, .int 0])), (q_2, aI V 4 (fun _ => 0)), (q_3, aI V 1 (fun _ => 0)), (q_4, aI V 1 (fun _ => 0)), (q_5, aI V 1 (fun _ => 0)), (q_6, aI V 1 (fun _ => 0)), (q_7, aI V 4 (fun _ => 0)), (q_8, aI V 1 (fun _ => 0)), (q_9, aI V 1 (fun _ => 0)), (q_10, aI V 1 (fun _ => 0))] H := hP
  have hD : va_D A [(y 0, .inr (9, [.ref (y 1), .int 0, .ref (y 2), .ref (y 10), .ref (y 19), .ref (y 25), .ref (y 26), .ref (y 30), .ref (y 31), .ref (y 32), .ref q_1, .null, .int 0, .int 0, .int 0])), (y 2, .inr (1, [.int 0, .int 0, .int 0, .int 0, .int 0, .int 0, .ref (y 3), .ref (y 4), .ref (y 5), .ref (y 6), .ref (y 7), .ref (y 8), .ref (y 9), .int 0, .int 0, .int 0, .int 0, .int 0])), (q_1, .inr (8, [.int 0, .int 1, .ref q_3, .ref q_4, .ref q_9, .int 0, .int 0, .ref (y 19), .ref q_5, .ref q_6, .ref q_7, .ref q_8, .ref q_2, .ref q_10, .int 0, .int 0, .int 0])), (q_2, aI V 4 (fun _ => 0)), (q_3, aI V 1 (fun _ => 0)), (q_4, aI V 1 (fun _ => 0)), (q_5, aI V 1 (fun _ => 0)), (q_6, aI V 1 (fun _ => 0)), (q_7, aI V 4 (fun _ => 0)), (q_8, aI V 1 (fun _ => 0)), (q_9, aI V 1 (fun _ => 0)), (q_10, aI V 1 (fun _ => 0))] := hD
  refine lv_aload_n hx hb dX9_waysFromNow_46 rfl (lv_at hl 0 rfl) ?_
  refine va_get (ci := 9) (v := .ref q_1) (C := RX9) (T := TX9) (N := 15) hx hb hg inX9 hown hK hP 0 rfl rfl 10 (by decide) (hg _ q_2_46) (fun _ h9 => h9) rfl dX9_waysFromNow_47 ?_
  refine lv_aload_n hx hb dX9_waysFromNow_50 rfl (lv_at hl 0 rfl) ?_
  refine va_get (ci := 9) (v := .ref (y 2)) (C := RX9) (T := TX9) (N := 15) hx hb hg inX9 hown hK hP 0 rfl rfl 2 (by decide) (hg _ q_2_38) (fun _ h9 => h9) rfl dX9_waysFromNow_51 ?_
  refine va_get (ci := 1) (v := .int 0) (C := RX1) (T := TX1) (N := 18) hx hb hg inX1 hown hK hP 1 rfl rfl 1 (by decide) (hg _ q_1_41) (fun _ h9 => h9) rfl dX9_waysFromNow_54 ?_
  refine lv_aload_n hx hb dX9_waysFromNow_57 rfl (lv_at hl 0 rfl) ?_
  refine va_get (ci := 9) (v := .int 0) (C := RX9) (T := TX9) (N := 15) hx hb hg inX9 hown hK hP 0 rfl rfl 12 (by decide) (hg _ q_2_48) (fun _ h9 => h9) rfl dX9_waysFromNow_58 ?_
  refine lv_aload_n hx hb dX9_waysFromNow_61 rfl (lv_at hl 0 rfl) ?_
  refine va_get (ci := 9) (v := .int 0) (C := RX9) (T := TX9) (N := 15) hx hb hg inX9 hown hK hP 0 rfl rfl 13 (by decide) (hg _ q_2_49) (fun _ h9 => h9) rfl dX9_waysFromNow_62 ?_
  refine jnV (wr := [(y 0, .inr (9, [.ref (y 1), .int 0, .ref (y 2), .ref (y 10), .ref (y 19), .ref (y 25), .ref (y 26), .ref (y 30), .ref (y 31), .ref (y 32), .ref q_1, .null, .int 0, .int 0, .int 0])), (y 2, .inr (1, [.int 0, .int 0, .int 0, .int 0, .int 0, .int 0, .ref (y 3), .ref (y 4), .ref (y 5), .ref (y 6), .ref (y 7), .ref (y 8), .ref (y 9), .int 0, .int 0, .int 0, .int 0, .int 0])), (q_2, aI V 4 (fun _ => 0)), (q_7, aI V 4 (fun _ => 0)), (q_8, aI V 1 (fun _ => 0)), (q_9, aI V 1 (fun _ => 0)), (q_10, aI V 1 (fun _ => 0))]) (rnV (rest := []) ⟨hx, hb, hml, hown, hg⟩ (c_X8_begin_0 l V y q_1 q_3 q_4 q_9 q_5 q_6 q_7 q_8 q_2 q_10) mt_X8_begin q_4_126 ⟨Nat.le_of_ble_eq_true rfl, Nat.le_of_ble_eq_true rfl⟩ hK hP hD hS hA hE [2, 4, 5, 6, 7] rfl rfl 2 rfl rfl rfl rfl hl.1 rfl (Nat.le_of_ble_eq_true rfl) dX9_waysFromNow_65 ⟨Nat.le_of_ble_eq_true rfl, Nat.le_of_ble_eq_true rfl⟩) hP hD hS hA [2, 4, 5, 6, 7] [0, 1, 3, 8, 9, 10, 11] rfl rfl rfl (by decide) (fun  w H locs hw hP hD hS => ?_)
  subst hw
  have hP : va_P V.1 vwCl [(y 0, .inr (9, [.ref (y 1), .int 0, .ref (y 2), .ref (y 10), .ref (y 19), .ref (y 25), .ref (y 26), .ref (y 30), .ref (y 31), .ref (y 32), .ref q_1, .null, .int 0, .int 0, .int 0])), (y 2, .inr (1, [.int 0, .int 0, .int 0, .int 0, .int 0, .int 0, .ref (y 3), .ref (y 4), .ref (y 5), .ref (y 6), .ref (y 7), .ref (y 8), .ref (y 9), .int 0, .int 0, .int 0, .int 0, .int 0])), (q_2, aI V 4 (fun _ => 0)), (q_7, aI V 4 (fun _ => 0)), (q_8, aI V 1 (fun _ => 0)), (q_9, aI V 1 (fun _ => 0)), (q_10, aI V 1 (fun _ => 0)), (q_1, .inr (8, [.int 0, .int 1, .ref q_3, .ref q_4, .ref q_9, .int 1, .int 1, .ref (y 19), .ref q_5, .ref q_6, .ref q_7, .ref q_8, .ref q_2, .ref q_10, .int 0, .int 0, .int 0])), (q_3, aI V 1 (fun _ => 0)), (q_4, aI V 1 (fun _ => 0)), (q_5, aI V 1 (upd (fun _ => 0) 0 1)), (q_6, aI V 1 (fun _ => 0))] H := hP
  have hD : va_D A [(y 0, .inr (9, [.ref (y 1), .int 0, .ref (y 2), .ref (y 10), .ref (y 19), .ref (y 25), .ref (y 26), .ref (y 30), .ref (y 31), .ref (y 32), .ref q_1, .null, .int 0, .int 0, .int 0])), (y 2, .inr (1, [.int 0, .int 0, .int 0, .int 0, .int 0, .int 0, .ref (y 3), .ref (y 4), .ref (y 5), .ref (y 6), .ref (y 7), .ref (y 8), .ref (y 9), .int 0, .int 0, .int 0, .int 0, .int 0])), (q_2, aI V 4 (fun _ => 0)), (q_7, aI V 4 (fun _ => 0)), (q_8, aI V 1 (fun _ => 0)), (q_9, aI V 1 (fun _ => 0)), (q_10, aI V 1 (fun _ => 0)), (q_1, .inr (8, [.int 0, .int 1, .ref q_3, .ref q_4, .ref q_9, .int 1, .int 1, .ref (y 19), .ref q_5, .ref q_6, .ref q_7, .ref q_8, .ref q_2, .ref q_10, .int 0, .int 0, .int 0])), (q_3, aI V 1 (fun _ => 0)), (q_4, aI V 1 (fun _ => 0)), (q_5, aI V 1 (upd (fun _ => 0) 0 1)), (q_6, aI V 1 (fun _ => 0))] := hD
  refine lv_aload_n hx hb dX9_waysFromNow_68 rfl (lv_at hl 0 rfl) ?_
  refine va_get (ci := 9) (v := .ref q_1) (C := RX9) (T := TX9) (N := 15) hx hb hg inX9 hown hK hP 0 rfl rfl 10 (by decide) (hg _ q_2_46) (fun _ h9 => h9) rfl dX9_waysFromNow_69 ?_
  refine lv_iload_n hx hb dX9_waysFromNow_72 rfl (lv_at hl 1 rfl) ?_
  refine jnV (wr := [(y 0, .inr (9, [.ref (y 1), .int 0, .ref (y 2), .ref (y 10), .ref (y 19), .ref (y 25), .ref (y 26), .ref (y 30), .ref (y 31), .ref (y 32), .ref q_1, .null, .int 0, .int 0, .int 0])), (y 2, .inr (1, [.int 0, .int 0, .int 0, .int 0, .int 0, .int 0, .ref (y 3), .ref (y 4), .ref (y 5), .ref (y 6), .ref (y 7), .ref (y 8), .ref (y 9), .int 0, .int 0, .int 0, .int 0, .int 0])), (q_8, aI V 1 (fun _ => 0)), (q_9, aI V 1 (fun _ => 0)), (q_10, aI V 1 (fun _ => 0)), (q_6, aI V 1 (fun _ => 0))]) (rnV (rest := []) ⟨hx, hb, hml, hown, hg⟩ (c_X8_reachTo_10 l V y q_1 q_2 q_7 q_8 q_9 q_10 q_3 q_4 q_5 q_6) mt_X8_reachTo q_4_136 ⟨Nat.le_of_ble_eq_true rfl, Nat.le_of_ble_eq_true rfl⟩ hK hP hD hS hA hE [2, 3, 7, 8, 9, 10] rfl rfl 7 rfl rfl rfl rfl hl.1 rfl (Nat.le_of_ble_eq_true rfl) dX9_waysFromNow_73 ⟨Nat.le_of_ble_eq_true rfl, Nat.le_of_ble_eq_true rfl⟩) hP hD hS hA [2, 3, 7, 8, 9, 10] [0, 1, 4, 5, 6, 11] rfl rfl rfl (by decide) (fun  w H locs hw hP hD hS => ?_)
  subst hw
  have hP : va_P V.1 vwCl [(y 0, .inr (9, [.ref (y 1), .int 0, .ref (y 2), .ref (y 10), .ref (y 19), .ref (y 25), .ref (y 26), .ref (y 30), .ref (y 31), .ref (y 32), .ref q_1, .null, .int 0, .int 0, .int 0])), (y 2, .inr (1, [.int 0, .int 0, .int 0, .int 0, .int 0, .int 0, .ref (y 3), .ref (y 4), .ref (y 5), .ref (y 6), .ref (y 7), .ref (y 8), .ref (y 9), .int 0, .int 0, .int 0, .int 0, .int 0])), (q_8, aI V 1 (fun _ => 0)), (q_9, aI V 1 (fun _ => 0)), (q_10, aI V 1 (fun _ => 0)), (q_6, aI V 1 (fun _ => 0)), (q_2, aI V 4 (fun _ => 0)), (q_7, aI V 4 (fun _ => 0)), (q_1, .inr (8, [.int 0, .int 1, .ref q_3, .ref q_4, .ref q_9, .int 1, .int 1, .ref (y 19), .ref q_5, .ref q_6, .ref q_7, .ref q_8, .ref q_2, .ref q_10, .int 0, .int 0, .int 1])), (q_3, aI V 1 (fun _ => 0)), (q_4, aI V 1 (fun _ => 0)), (q_5, aI V 1 (upd (fun _ => 0) 0 1))] H := hP
  have hD : va_D A [(y 0, .inr (9, [.ref (y 1), .int 0, .ref (y 2), .ref (y 10), .ref (y 19), .ref (y 25), .ref (y 26), .ref (y 30), .ref (y 31), .ref (y 32), .ref q_1, .null, .int 0, .int 0, .int 0])), (y 2, .inr (1, [.int 0, .int 0, .int 0, .int 0, .int 0, .int 0, .ref (y 3), .ref (y 4), .ref (y 5), .ref (y 6), .ref (y 7), .ref (y 8), .ref (y 9), .int 0, .int 0, .int 0, .int 0, .int 0])), (q_8, aI V 1 (fun _ => 0)), (q_9, aI V 1 (fun _ => 0)), (q_10, aI V 1 (fun _ => 0)), (q_6, aI V 1 (fun _ => 0)), (q_2, aI V 4 (fun _ => 0)), (q_7, aI V 4 (fun _ => 0)), (q_1, .inr (8, [.int 0, .int 1, .ref q_3, .ref q_4, .ref q_9, .int 1, .int 1, .ref (y 19), .ref q_5, .ref q_6, .ref q_7, .ref q_8, .ref q_2, .ref q_10, .int 0, .int 0, .int 1])), (q_3, aI V 1 (fun _ => 0)), (q_4, aI V 1 (fun _ => 0)), (q_5, aI V 1 (upd (fun _ => 0) 0 1))] := hD
  refine lv_aload_n hx hb dX9_waysFromNow_76 rfl (lv_at hl 0 rfl) ?_
  refine va_get (ci := 9) (v := .ref q_1) (C := RX9) (T := TX9) (N := 15) hx hb hg inX9 hown hK hP 0 rfl rfl 10 (by decide) (hg _ q_2_46) (fun _ h9 => h9) rfl dX9_waysFromNow_77 ?_
  exact fiR (Or.inl ⟨_, rfl⟩) hx hb hr hlk hK hP hD hS dX9_waysFromNow_80 (Nat.le_of_ble_eq_true rfl) (Nat.le_of_ble_eq_true rfl) (⟨q_1, q_2, q_3, q_4, q_5, q_6, q_7, q_8, q_9, q_10, rfl, rfl⟩)
set_option maxHeartbeats 4000000 in
set_option maxRecDepth 100000 in
theorem c_J7_fill_fda19_6 (l : Launch) (V : GV) (h0 : Nat) : Ct l V yJ7_fill_fda19 (.code yJ7_fill_fda19 cJ7_fill_fda19 5 none) 2 [.ref h0, .int 0, .int 1, .int 0] [(h0, aI V 1 (upd (fun _ => 0) 0 100000))] 0 0 (QV V (fun (w : va_W) => (w = [(h0, aI V 1 (fun _ => 0))]))) := by
  refine Ct.of (by decide) (Nat.le_of_ble_eq_true rfl) (fun p e s m below meth c A ls hx hb hr hml hown hlk hnm hg hP hK hD hE hA hS hl => ?_)
  have hl : lv_has ls 5 [(0, .ref h0), (1, .int 0), (2, .int 1), (3, .int 0)] := hl
  refine lv_aload_n hx hb dJ7_fill_fda19_0 rfl (lv_at hl 0 rfl) ?_
  refine va_alen (v := 1) hx hb hK hP 0 0 rfl rfl (by decide) dJ7_fill_fda19_1 ?_
  refine lv_iload_n hx hb dJ7_fill_fda19_2 rfl (lv_at hl 1 rfl) ?_
  refine lv_iload_n hx hb dJ7_fill_fda19_3 rfl (lv_at hl 2 rfl) ?_
  refine jnV (wr := [(h0, aI V 1 (upd (fun _ => 0) 0 100000))]) (rnS (rest := []) ⟨hx, hb, hml, hown, hg⟩ (c_J7_rangeCheck_23922_0 l V) mt_J7_rangeCheck_23922 q_4_175 ⟨Nat.le_of_ble_eq_true rfl, Nat.le_of_ble_eq_true rfl⟩ hK hP hD hS hA hE [] rfl rfl rfl hl.1 rfl (Nat.le_of_ble_eq_true rfl) dJ7_fill_fda19_4 ⟨Nat.le_of_ble_eq_true rfl, Nat.le_of_ble_eq_true rfl⟩) hP hD hS hA [] [0] rfl rfl rfl (by decide) (fun  w H locs hw hP hD hS => ?_)
  subst hw
  have hP : va_P V.1 vwCl [(h0, aI V 1 (upd (fun _ => 0) 0 100000))] H := hP
  have hD : va_D A [(h0, aI V 1 (upd (fun _ => 0) 0 100000))] := hD
  refine lv_iload_n hx hb dJ7_fill_fda19_7 rfl (lv_at hl 1 rfl) ?_
  refine lv_istore (lv' := [(4, .int 0), (0, .ref h0), (1, .int 0), (2, .int 1), (3, .int 0)]) hx hb dJ7_fill_fda19_8 hl (by decide) rfl (fun ls hl => ?_)
  refine lv_iload hx hb dJ7_fill_fda19_10 (lv_at hl 0 rfl) ?_
  refine lv_iload_n hx hb dJ7_fill_fda19_12 rfl (lv_at hl 3 rfl) ?_
  refine lv_icmp_ge (tgt := 27) hx hb dJ7_fill_fda19_13 (by decide) (fun c_1 => absurd c_1 (by decide)) (fun _ => ?_)
  refine lv_aload_n hx hb dJ7_fill_fda19_16 rfl (lv_at hl 1 rfl) ?_
  refine lv_iload hx hb dJ7_fill_fda19_17 (lv_at hl 0 rfl) ?_
  refine lv_iload_n hx hb dJ7_fill_fda19_19 rfl (lv_at hl 4 rfl) ?_
  refine va_iast hx hb hK hP hD hS 0 0 rfl rfl (vin (by decide +kernel)) dJ7_fill_fda19_20 (fun H locs hP hD hS => ?_)
  have hP : va_P V.1 vwCl [(h0, aI V 1 (upd (upd (fun _ => 0) 0 100000) 0 0))] H := hP
  have hD : va_D A [(h0, aI V 1 (upd (upd (fun _ => 0) 0 100000) 0 0))] := hD
  have hP : va_P V.1 vwCl [(h0, aI V 1 (fun _ => 0))] H := by rw [updup, upd0] at hP; exact hP
  have hD : va_D A [(h0, aI V 1 (fun _ => 0))] := by rw [updup, upd0] at hD; exact hD
  refine lv_iinc (v := 1) (lv' := [(4, .int 1), (0, .ref h0), (1, .int 0), (2, .int 1), (3, .int 0)]) hx hb dJ7_fill_fda19_21 hl (k := 0) rfl (by decide +kernel) (by decide) rfl (fun ls hl => ?_)
  refine lv_goto (tgt := 10) hx hb dJ7_fill_fda19_24 (by decide) ?_
  refine lv_iload hx hb dJ7_fill_fda19_10 (lv_at hl 0 rfl) ?_
  refine lv_iload_n hx hb dJ7_fill_fda19_12 rfl (lv_at hl 3 rfl) ?_
  refine lv_icmp_ge (tgt := 27) hx hb dJ7_fill_fda19_13 (by decide) (fun _ => ?_) (fun c_2 => absurd c_2 (by decide))
  exact fiV hx hb hr hlk hK hP hD hS dJ7_fill_fda19_27 (Nat.le_of_ble_eq_true rfl) (Nat.le_of_ble_eq_true rfl) (rfl)
set_option maxHeartbeats 4000000 in
set_option maxRecDepth 100000 in
theorem c_X8_spreadOneNight_12 (l : Launch) (V : GV) (y : Nat → Nat) (h0 : Nat) (h1 : Nat) (h2 : Nat) (h3 : Nat) (h4 : Nat) (h5 : Nat) (h6 : Nat) (h7 : Nat) (h8 : Nat) (h9 : Nat) : Ct l V yX8_spreadOneNight (.code yX8_spreadOneNight cX8_spreadOneNight 5 none) 3 [.ref h0, .int 6, .int 10] [(h6, aI V 1 (upd (fun _ => 0) 0 100000)), (h7, aI V 4 (fun _ => 0)), (h8, aI V 1 (fun _ => 0)), (h9, aI V 1 (upd (fun _ => 0) 0 1000000)), (h0, .inr (8, [.int 0, .int 1, .ref h4, .ref h8, .ref h9, .int 1, .int 1, .ref (y 19), .ref h5, .ref h2, .ref h7, .ref h1, .ref h3, .ref h6, .int 0, .int 0, .int 1]))] 0 0 (QV V (fun (w : va_W) => (w = [(h6, aI V 1 (upd (fun _ => 0) 0 10000000)), (h7, aI V 4 (fun _ => 0)), (h8, aI V 1 (fun _ => 0)), (h9, aI V 1 (upd (fun _ => 0) 0 1000000)), (h0, .inr (8, [.int 0, .int 1, .ref h4, .ref h8, .ref h6, .int 1, .int 1, .ref (y 19), .ref h5, .ref h2, .ref h7, .ref h1, .ref h3, .ref h9, .int 0, .int 0, .int 1]))]))) := by
  refine Ct.of (by decide) (Nat.le_of_ble_eq_true rfl) (fun p e s m below meth c A ls hx hb hr hml hown hlk hnm hg hP hK hD hE hA hS hl => ?_)
  have hl : lv_has ls 5 [(0, .ref h0), (1, .int 6), (2, .int 10)] := hl
  refine lv_aload_n hx hb dX8_spreadOneNight_0 rfl (lv_at hl 0 rfl) ?_
  refine va_get (ci := 8) (v := .ref h6) (C := RX8) (T := TX8) (N := 17) hx hb hg inX8 hown hK hP 4 rfl rfl 13 (by decide) (hg _ q_4_87) (fun _ h9 => h9) rfl dX8_spreadOneNight_1 ?_
  refine lv_iconst (v := 0) hx hb dX8_spreadOneNight_4 (by decide) ?_
  refine lv_aload_n hx hb dX8_spreadOneNight_5 rfl (lv_at hl 0 rfl) ?_
  refine va_get (ci := 8) (v := .int 1) (C := RX8) (T := TX8) (N := 17) hx hb hg inX8 hown hK hP 4 rfl rfl 5 (by decide) (hg _ q_4_76) (fun _ h9 => h9) rfl dX8_spreadOneNight_6 ?_
  refine lv_iconst (v := 0) hx hb dX8_spreadOneNight_9 (by decide) ?_
  refine jnV (wr := [(h7, aI V 4 (fun _ => 0)), (h8, aI V 1 (fun _ => 0)), (h9, aI V 1 (upd (fun _ => 0) 0 1000000)), (h0, .inr (8, [.int 0, .int 1, .ref h4, .ref h8, .ref h9, .int 1, .int 1, .ref (y 19), .ref h5, .ref h2, .ref h7, .ref h1, .ref h3, .ref h6, .int 0, .int 0, .int 1]))]) (rnS (rest := []) ⟨hx, hb, hml, hown, hg⟩ (c_J7_fill_fda19_6 l V h6) mt_J7_fill_fda19 q_4_172 ⟨Nat.le_of_ble_eq_true rfl, Nat.le_of_ble_eq_true rfl⟩ hK hP hD hS hA hE [0] rfl rfl rfl hl.1 rfl (Nat.le_of_ble_eq_true rfl) dX8_spreadOneNight_10 ⟨Nat.le_of_ble_eq_true rfl, Nat.le_of_ble_eq_true rfl⟩) hP hD hS hA [0] [1, 2, 3, 4] rfl rfl rfl (by decide) (fun  w H locs hw hP hD hS => ?_)
  subst hw
  have hP : va_P V.1 vwCl [(h7, aI V 4 (fun _ => 0)), (h8, aI V 1 (fun _ => 0)), (h9, aI V 1 (upd (fun _ => 0) 0 1000000)), (h0, .inr (8, [.int 0, .int 1, .ref h4, .ref h8, .ref h9, .int 1, .int 1, .ref (y 19), .ref h5, .ref h2, .ref h7, .ref h1, .ref h3, .ref h6, .int 0, .int 0, .int 1])), (h6, aI V 1 (fun _ => 0))] H := hP
  have hD : va_D A [(h7, aI V 4 (fun _ => 0)), (h8, aI V 1 (fun _ => 0)), (h9, aI V 1 (upd (fun _ => 0) 0 1000000)), (h0, .inr (8, [.int 0, .int 1, .ref h4, .ref h8, .ref h9, .int 1, .int 1, .ref (y 19), .ref h5, .ref h2, .ref h7, .ref h1, .ref h3, .ref h6, .int 0, .int 0, .int 1])), (h6, aI V 1 (fun _ => 0))] := hD
  refine lv_iconst (v := 0) hx hb dX8_spreadOneNight_13 (by decide) ?_
  refine lv_istore_n (lv' := [(3, .int 0), (0, .ref h0), (1, .int 6), (2, .int 10)]) hx hb dX8_spreadOneNight_14 rfl hl (by decide) rfl (fun ls hl => ?_)
  refine lv_iload_n hx hb dX8_spreadOneNight_15 rfl (lv_at hl 0 rfl) ?_
  refine lv_aload_n hx hb dX8_spreadOneNight_16 rfl (lv_at hl 1 rfl) ?_
  refine va_get (ci := 8) (v := .int 1) (C := RX8) (T := TX8) (N := 17) hx hb hg inX8 hown hK hP 3 rfl rfl 16 (by decide) (hg _ q_4_90) (fun _ h9 => h9) rfl dX8_spreadOneNight_17 ?_
  refine lv_icmp_ge (tgt := 109) hx hb dX8_spreadOneNight_20 (by decide) (fun c_1 => absurd c_1 (by decide)) (fun _ => ?_)
  refine lv_aload_n hx hb dX8_spreadOneNight_23 rfl (lv_at hl 1 rfl) ?_
  refine va_get (ci := 8) (v := .ref h8) (C := RX8) (T := TX8) (N := 17) hx hb hg inX8 hown hK hP 3 rfl rfl 3 (by decide) (hg _ q_4_72) (fun _ h9 => h9) rfl dX8_spreadOneNight_24 ?_
  refine lv_iload_n hx hb dX8_spreadOneNight_27 rfl (lv_at hl 0 rfl) ?_
  refine va_iald hx hb hK hP 1 0 rfl rfl (vin (by decide +kernel)) dX8_spreadOneNight_28 ?_
  refine tpi (y := 0) (rfl) ?_
  refine lv_iload_n hx hb dX8_spreadOneNight_29 rfl (lv_at hl 2 rfl) ?_
  refine lv_icmp_gt (tgt := 109) hx hb dX8_spreadOneNight_30 (by decide) (fun c_2 => absurd c_2 (by decide)) (fun _ => ?_)
  refine lv_aload_n hx hb dX8_spreadOneNight_33 rfl (lv_at hl 1 rfl) ?_
  refine va_get (ci := 8) (v := .ref h9) (C := RX8) (T := TX8) (N := 17) hx hb hg inX8 hown hK hP 3 rfl rfl 4 (by decide) (hg _ q_4_74) (fun _ h9 => h9) rfl dX8_spreadOneNight_34 ?_
  refine lv_iload_n hx hb dX8_spreadOneNight_37 rfl (lv_at hl 0 rfl) ?_
  refine va_iald hx hb hK hP 2 0 rfl rfl (vin (by decide +kernel)) dX8_spreadOneNight_38 ?_
  refine tpi (y := 1000000) (rfl) ?_
  refine lv_if_eq (tgt := 103) hx hb dX8_spreadOneNight_39 (by decide) (fun c_3 => absurd c_3 (by decide)) (fun _ => ?_)
  refine lv_aload_n hx hb dX8_spreadOneNight_42 rfl (lv_at hl 1 rfl) ?_
  refine va_get (ci := 8) (v := .ref h6) (C := RX8) (T := TX8) (N := 17) hx hb hg inX8 hown hK hP 3 rfl rfl 13 (by decide) (hg _ q_4_87) (fun _ h9 => h9) rfl dX8_spreadOneNight_43 ?_
  refine lv_aload_n hx hb dX8_spreadOneNight_46 rfl (lv_at hl 1 rfl) ?_
  refine lv_iload_n hx hb dX8_spreadOneNight_47 rfl (lv_at hl 0 rfl) ?_
  refine lv_iconst (v := 0) hx hb dX8_spreadOneNight_48 (by decide) ?_
  refine jnI (wr := [(h8, aI V 1 (fun _ => 0)), (h9, aI V 1 (upd (fun _ => 0) 0 1000000)), (h6, aI V 1 (fun _ => 0))]) (rnV (rest := [.ref h6]) ⟨hx, hb, hml, hown, hg⟩ (c_X8_behind_2 l V y h0 h7 h8 h9 h4 h5 h2 h1 h3 h6) mt_X8_behind q_4_182 ⟨Nat.le_of_ble_eq_true rfl, Nat.le_of_ble_eq_true rfl⟩ hK hP hD hS hA hE [0, 3] rfl rfl 3 rfl rfl rfl rfl hl.1 rfl (Nat.le_of_ble_eq_true rfl) dX8_spreadOneNight_49 ⟨Nat.le_of_ble_eq_true rfl, Nat.le_of_ble_eq_true rfl⟩) hP hD hS hA [0, 3] [1, 2, 4] rfl rfl rfl (by decide) (fun r_4 w H locs hw hP hD hS => ?_)
  obtain ⟨rfl, rfl⟩ := hw
  have hP : va_P V.1 vwCl [(h8, aI V 1 (fun _ => 0)), (h9, aI V 1 (upd (fun _ => 0) 0 1000000)), (h6, aI V 1 (fun _ => 0)), (h7, aI V 4 (fun _ => 0)), (h0, .inr (8, [.int 0, .int 1, .ref h4, .ref h8, .ref h9, .int 1, .int 1, .ref (y 19), .ref h5, .ref h2, .ref h7, .ref h1, .ref h3, .ref h6, .int 0, .int 0, .int 1]))] H := hP
  have hD : va_D A [(h8, aI V 1 (fun _ => 0)), (h9, aI V 1 (upd (fun _ => 0) 0 1000000)), (h6, aI V 1 (fun _ => 0)), (h7, aI V 4 (fun _ => 0)), (h0, .inr (8, [.int 0, .int 1, .ref h4, .ref h8, .ref h9, .int 1, .int 1, .ref (y 19), .ref h5, .ref h2, .ref h7, .ref h1, .ref h3, .ref h6, .int 0, .int 0, .int 1]))] := hD
  refine lv_dup2_11 hx hb dX8_spreadOneNight_52 rfl rfl ?_
  refine va_iald hx hb hK hP 2 0 rfl rfl (vin (by decide +kernel)) dX8_spreadOneNight_53 ?_
  refine tpi (y := 0) (rfl) ?_
  refine lv_aload_n hx hb dX8_spreadOneNight_54 rfl (lv_at hl 1 rfl) ?_
  refine va_get (ci := 8) (v := .ref h9) (C := RX8) (T := TX8) (N := 17) hx hb hg inX8 hown hK hP 4 rfl rfl 4 (by decide) (hg _ q_4_74) (fun _ h9 => h9) rfl dX8_spreadOneNight_55 ?_
  refine lv_iload_n hx hb dX8_spreadOneNight_58 rfl (lv_at hl 0 rfl) ?_
  refine va_iald hx hb hK hP 1 0 rfl rfl (vin (by decide +kernel)) dX8_spreadOneNight_59 ?_
  refine tpi (y := 1000000) (rfl) ?_
  refine lv_iload_n hx hb dX8_spreadOneNight_60 rfl (lv_at hl 3 rfl) ?_
  refine lv_imul hx hb dX8_spreadOneNight_61 ?_
  refine tpi (y := 10000000) (by decide +kernel) ?_
  refine lv_iadd hx hb dX8_spreadOneNight_62 ?_
  refine tpi (y := 10000000) (by decide +kernel) ?_
  refine va_iast hx hb hK hP hD hS 2 0 rfl rfl (vin (by decide +kernel)) dX8_spreadOneNight_63 (fun H locs hP hD hS => ?_)
  have hP : va_P V.1 vwCl [(h8, aI V 1 (fun _ => 0)), (h9, aI V 1 (upd (fun _ => 0) 0 1000000)), (h6, aI V 1 (upd (fun _ => 0) 0 10000000)), (h7, aI V 4 (fun _ => 0)), (h0, .inr (8, [.int 0, .int 1, .ref h4, .ref h8, .ref h9, .int 1, .int 1, .ref (y 19), .ref h5, .ref h2, .ref h7, .ref h1, .ref h3, .ref h6, .int 0, .int 0, .int 1]))] H := hP
  have hD : va_D A [(h8, aI V 1 (fun _ => 0)), (h9, aI V 1 (upd (fun _ => 0) 0 1000000)), (h6, aI V 1 (upd (fun _ => 0) 0 10000000)), (h7, aI V 4 (fun _ => 0)), (h0, .inr (8, [.int 0, .int 1, .ref h4, .ref h8, .ref h9, .int 1, .int 1, .ref (y 19), .ref h5, .ref h2, .ref h7, .ref h1, .ref h3, .ref h6, .int 0, .int 0, .int 1]))] := hD
  refine lv_iconst (v := 1) hx hb dX8_spreadOneNight_64 (by decide) ?_
  refine lv_istore (lv' := [(4, .int 1), (3, .int 0), (0, .ref h0), (1, .int 6), (2, .int 10)]) hx hb dX8_spreadOneNight_65 hl (by decide) rfl (fun ls hl => ?_)
  refine lv_iload hx hb dX8_spreadOneNight_67 (lv_at hl 0 rfl) ?_
  refine lv_aload_n hx hb dX8_spreadOneNight_69 rfl (lv_at hl 2 rfl) ?_
  refine va_get (ci := 8) (v := .int 1) (C := RX8) (T := TX8) (N := 17) hx hb hg inX8 hown hK hP 4 rfl rfl 6 (by decide) (hg _ q_4_80) (fun _ h9 => h9) rfl dX8_spreadOneNight_70 ?_
  refine lv_icmp_ge (tgt := 103) hx hb dX8_spreadOneNight_73 (by decide) (fun _ => ?_) (fun c_5 => absurd c_5 (by decide))
  refine lv_iinc (v := 1) (lv' := [(3, .int 1), (4, .int 1), (0, .ref h0), (1, .int 6), (2, .int 10)]) hx hb dX8_spreadOneNight_103 hl (k := 1) rfl (by decide +kernel) (by decide) rfl (fun ls hl => ?_)
  refine lv_goto (tgt := 15) hx hb dX8_spreadOneNight_106 (by decide) ?_
  refine lv_iload_n hx hb dX8_spreadOneNight_15 rfl (lv_at hl 0 rfl) ?_
  refine lv_aload_n hx hb dX8_spreadOneNight_16 rfl (lv_at hl 2 rfl) ?_
  refine va_get (ci := 8) (v := .int 1) (C := RX8) (T := TX8) (N := 17) hx hb hg inX8 hown hK hP 4 rfl rfl 16 (by decide) (hg _ q_4_90) (fun _ h9 => h9) rfl dX8_spreadOneNight_17 ?_
  refine lv_icmp_ge (tgt := 109) hx hb dX8_spreadOneNight_20 (by decide) (fun _ => ?_) (fun c_6 => absurd c_6 (by decide))
  refine lv_aload_n hx hb dX8_spreadOneNight_109 rfl (lv_at hl 2 rfl) ?_
  refine va_get (ci := 8) (v := .ref h9) (C := RX8) (T := TX8) (N := 17) hx hb hg inX8 hown hK hP 4 rfl rfl 4 (by decide) (hg _ q_4_74) (fun _ h9 => h9) rfl dX8_spreadOneNight_110 ?_
  refine lv_astore_n (lv' := [(3, .ref h9), (4, .int 1), (0, .ref h0), (1, .int 6), (2, .int 10)]) hx hb dX8_spreadOneNight_113 rfl hl (by decide) rfl (fun ls hl => ?_)
  refine lv_aload_n hx hb dX8_spreadOneNight_114 rfl (lv_at hl 2 rfl) ?_
  refine lv_aload_n hx hb dX8_spreadOneNight_115 rfl (lv_at hl 2 rfl) ?_
  refine va_get (ci := 8) (v := .ref h6) (C := RX8) (T := TX8) (N := 17) hx hb hg inX8 hown hK hP 4 rfl rfl 13 (by decide) (hg _ q_4_87) (fun _ h9 => h9) rfl dX8_spreadOneNight_116 ?_
  refine va_put (ci := 8) (v := .ref h6) (ty := (.array .int)) (C := RX8) (T := TX8) (N := 17) hx hb hg inX8 tyX8 tyX8_ok nmX8 hown hK hP hD hS 4 rfl rfl 4 (by decide) (hg _ q_4_74) (fun _ h9 => h9) rfl (by decide +kernel) rfl rfl (Nat.le_of_ble_eq_true rfl) dX8_spreadOneNight_119 (fun H locs hP hD hS => ?_)
  have hP : va_P V.1 vwCl [(h8, aI V 1 (fun _ => 0)), (h9, aI V 1 (upd (fun _ => 0) 0 1000000)), (h6, aI V 1 (upd (fun _ => 0) 0 10000000)), (h7, aI V 4 (fun _ => 0)), (h0, .inr (8, [.int 0, .int 1, .ref h4, .ref h8, .ref h6, .int 1, .int 1, .ref (y 19), .ref h5, .ref h2, .ref h7, .ref h1, .ref h3, .ref h6, .int 0, .int 0, .int 1]))] H := hP
  have hD : va_D A [(h8, aI V 1 (fun _ => 0)), (h9, aI V 1 (upd (fun _ => 0) 0 1000000)), (h6, aI V 1 (upd (fun _ => 0) 0 10000000)), (h7, aI V 4 (fun _ => 0)), (h0, .inr (8, [.int 0, .int 1, .ref h4, .ref h8, .ref h6, .int 1, .int 1, .ref (y 19), .ref h5, .ref h2, .ref h7, .ref h1, .ref h3, .ref h6, .int 0, .int 0, .int 1]))] := hD
  refine lv_aload_n hx hb dX8_spreadOneNight_122 rfl (lv_at hl 2 rfl) ?_
  refine lv_aload_n hx hb dX8_spreadOneNight_123 rfl (lv_at hl 0 rfl) ?_
  refine va_put (ci := 8) (v := .ref h9) (ty := (.array .int)) (C := RX8) (T := TX8) (N := 17) hx hb hg inX8 tyX8 tyX8_ok nmX8 hown hK hP hD hS 4 rfl rfl 13 (by decide) (hg _ q_4_87) (fun _ h9 => h9) rfl (by decide +kernel) rfl rfl (Nat.le_of_ble_eq_true rfl) dX8_spreadOneNight_124 (fun H locs hP hD hS => ?_)
  have hP : va_P V.1 vwCl [(h8, aI V 1 (fun _ => 0)), (h9, aI V 1 (upd (fun _ => 0) 0 1000000)), (h6, aI V 1 (upd (fun _ => 0) 0 10000000)), (h7, aI V 4 (fun _ => 0)), (h0, .inr (8, [.int 0, .int 1, .ref h4, .ref h8, .ref h6, .int 1, .int 1, .ref (y 19), .ref h5, .ref h2, .ref h7, .ref h1, .ref h3, .ref h9, .int 0, .int 0, .int 1]))] H := hP
  have hD : va_D A [(h8, aI V 1 (fun _ => 0)), (h9, aI V 1 (upd (fun _ => 0) 0 1000000)), (h6, aI V 1 (upd (fun _ => 0) 0 10000000)), (h7, aI V 4 (fun _ => 0)), (h0, .inr (8, [.int 0, .int 1, .ref h4, .ref h8, .ref h6, .int 1, .int 1, .ref (y 19), .ref h5, .ref h2, .ref h7, .ref h1, .ref h3, .ref h9, .int 0, .int 0, .int 1]))] := hD
  have hP := subP (ws' := [(h6, aI V 1 (upd (fun _ => 0) 0 10000000)), (h7, aI V 4 (fun _ => 0)), (h8, aI V 1 (fun _ => 0)), (h9, aI V 1 (upd (fun _ => 0) 0 1000000)), (h0, .inr (8, [.int 0, .int 1, .ref h4, .ref h8, .ref h6, .int 1, .int 1, .ref (y 19), .ref h5, .ref h2, .ref h7, .ref h1, .ref h3, .ref h9, .int 0, .int 0, .int 1]))]) hP [2, 3, 0, 1, 4] rfl
  have hD := hD.sub (ws' := [(h6, aI V 1 (upd (fun _ => 0) 0 10000000)), (h7, aI V 4 (fun _ => 0)), (h8, aI V 1 (fun _ => 0)), (h9, aI V 1 (upd (fun _ => 0) 0 1000000)), (h0, .inr (8, [.int 0, .int 1, .ref h4, .ref h8, .ref h6, .int 1, .int 1, .ref (y 19), .ref h5, .ref h2, .ref h7, .ref h1, .ref h3, .ref h9, .int 0, .int 0, .int 1]))]) [2, 3, 0, 1, 4] rfl rfl
  exact fiV hx hb hr hlk hK hP hD hS dX8_spreadOneNight_127 (Nat.le_of_ble_eq_true rfl) (Nat.le_of_ble_eq_true rfl) (rfl)
set_option maxHeartbeats 4000000 in
set_option maxRecDepth 100000 in
theorem c_X8_spreadOneNight_13 (l : Launch) (V : GV) (y : Nat → Nat) (h0 : Nat) (h1 : Nat) (h2 : Nat) (h3 : Nat) (h4 : Nat) (h5 : Nat) (h6 : Nat) (h7 : Nat) (h8 : Nat) (h9 : Nat) : Ct l V yX8_spreadOneNight (.code yX8_spreadOneNight cX8_spreadOneNight 5 none) 3 [.ref h0, .int 6, .int 10] [(h1, aI V 1 (upd (fun _ => 0) 0 100000)), (h2, aI V 4 (fun _ => 0)), (h3, aI V 1 (fun _ => 0)), (h4, aI V 1 (upd (fun _ => 0) 0 1000000)), (h0, .inr (8, [.int 0, .int 1, .ref h5, .ref h3, .ref h4, .int 1, .int 1, .ref (y 19), .ref h6, .ref h7, .ref h2, .ref h8, .ref h9, .ref h1, .int 0, .int 0, .int 1]))] 0 0 (QV V (fun (w : va_W) => (w = [(h1, aI V 1 (upd (fun _ => 0) 0 10000000)), (h2, aI V 4 (fun _ => 0)), (h3, aI V 1 (fun _ => 0)), (h4, aI V 1 (upd (fun _ => 0) 0 1000000)), (h0, .inr (8, [.int 0, .int 1, .ref h5, .ref h3, .ref h1, .int 1, .int 1, .ref (y 19), .ref h6, .ref h7, .ref h2, .ref h8, .ref h9, .ref h4, .int 0, .int 0, .int 1]))]))) := by
  refine Ct.of (by decide) (Nat.le_of_ble_eq_true rfl) (fun p e s m below meth c A ls hx hb hr hml hown hlk hnm hg hP hK hD hE hA hS hl => ?_)
  have hl : lv_has ls 5 [(0, .ref h0), (1, .int 6), (2, .int 10)] := hl
  refine lv_aload_n hx hb dX8_spreadOneNight_0 rfl (lv_at hl 0 rfl) ?_
  refine va_get (ci := 8) (v := .ref h1) (C := RX8) (T := TX8) (N := 17) hx hb hg inX8 hown hK hP 4 rfl rfl 13 (by decide) (hg _ q_4_87) (fun _ h9 => h9) rfl dX8_spreadOneNight_1 ?_
  refine lv_iconst (v := 0) hx hb dX8_spreadOneNight_4 (by decide) ?_
  refine lv_aload_n hx hb dX8_spreadOneNight_5 rfl (lv_at hl 0 rfl) ?_
  refine va_get (ci := 8) (v := .int 1) (C := RX8) (T := TX8) (N := 17) hx hb hg inX8 hown hK hP 4 rfl rfl 5 (by decide) (hg _ q_4_76) (fun _ h9 => h9) rfl dX8_spreadOneNight_6 ?_
  refine lv_iconst (v := 0) hx hb dX8_spreadOneNight_9 (by decide) ?_
  refine jnV (wr := [(h2, aI V 4 (fun _ => 0)), (h3, aI V 1 (fun _ => 0)), (h4, aI V 1 (upd (fun _ => 0) 0 1000000)), (h0, .inr (8, [.int 0, .int 1, .ref h5, .ref h3, .ref h4, .int 1, .int 1, .ref (y 19), .ref h6, .ref h7, .ref h2, .ref h8, .ref h9, .ref h1, .int 0, .int 0, .int 1]))]) (rnS (rest := []) ⟨hx, hb, hml, hown, hg⟩ (c_J7_fill_fda19_6 l V h1) mt_J7_fill_fda19 q_4_172 ⟨Nat.le_of_ble_eq_true rfl, Nat.le_of_ble_eq_true rfl⟩ hK hP hD hS hA hE [0] rfl rfl rfl hl.1 rfl (Nat.le_of_ble_eq_true rfl) dX8_spreadOneNight_10 ⟨Nat.le_of_ble_eq_true rfl, Nat.le_of_ble_eq_true rfl⟩) hP hD hS hA [0] [1, 2, 3, 4] rfl rfl rfl (by decide) (fun  w H locs hw hP hD hS => ?_)
  subst hw
  have hP : va_P V.1 vwCl [(h2, aI V 4 (fun _ => 0)), (h3, aI V 1 (fun _ => 0)), (h4, aI V 1 (upd (fun _ => 0) 0 1000000)), (h0, .inr (8, [.int 0, .int 1, .ref h5, .ref h3, .ref h4, .int 1, .int 1, .ref (y 19), .ref h6, .ref h7, .ref h2, .ref h8, .ref h9, .ref h1, .int 0, .int 0, .int 1])), (h1, aI V 1 (fun _ => 0))] H := hP
  have hD : va_D A [(h2, aI V 4 (fun _ => 0)), (h3, aI V 1 (fun _ => 0)), (h4, aI V 1 (upd (fun _ => 0) 0 1000000)), (h0, .inr (8, [.int 0, .int 1, .ref h5, .ref h3, .ref h4, .int 1, .int 1, .ref (y 19), .ref h6, .ref h7, .ref h2, .ref h8, .ref h9, .ref h1, .int 0, .int 0, .int 1])), (h1, aI V 1 (fun _ => 0))] := hD
  refine lv_iconst (v := 0) hx hb dX8_spreadOneNight_13 (by decide) ?_
  refine lv_istore_n (lv' := [(3, .int 0), (0, .ref h0), (1, .int 6), (2, .int 10)]) hx hb dX8_spreadOneNight_14 rfl hl (by decide) rfl (fun ls hl => ?_)
  refine lv_iload_n hx hb dX8_spreadOneNight_15 rfl (lv_at hl 0 rfl) ?_
  refine lv_aload_n hx hb dX8_spreadOneNight_16 rfl (lv_at hl 1 rfl) ?_
  refine va_get (ci := 8) (v := .int 1) (C := RX8) (T := TX8) (N := 17) hx hb hg inX8 hown hK hP 3 rfl rfl 16 (by decide) (hg _ q_4_90) (fun _ h9 => h9) rfl dX8_spreadOneNight_17 ?_
  refine lv_icmp_ge (tgt := 109) hx hb dX8_spreadOneNight_20 (by decide) (fun c_1 => absurd c_1 (by decide)) (fun _ => ?_)
  refine lv_aload_n hx hb dX8_spreadOneNight_23 rfl (lv_at hl 1 rfl) ?_
  refine va_get (ci := 8) (v := .ref h3) (C := RX8) (T := TX8) (N := 17) hx hb hg inX8 hown hK hP 3 rfl rfl 3 (by decide) (hg _ q_4_72) (fun _ h9 => h9) rfl dX8_spreadOneNight_24 ?_
  refine lv_iload_n hx hb dX8_spreadOneNight_27 rfl (lv_at hl 0 rfl) ?_
  refine va_iald hx hb hK hP 1 0 rfl rfl (vin (by decide +kernel)) dX8_spreadOneNight_28 ?_
  refine tpi (y := 0) (rfl) ?_
  refine lv_iload_n hx hb dX8_spreadOneNight_29 rfl (lv_at hl 2 rfl) ?_
  refine lv_icmp_gt (tgt := 109) hx hb dX8_spreadOneNight_30 (by decide) (fun c_2 => absurd c_2 (by decide)) (fun _ => ?_)
  refine lv_aload_n hx hb dX8_spreadOneNight_33 rfl (lv_at hl 1 rfl) ?_
  refine va_get (ci := 8) (v := .ref h4) (C := RX8) (T := TX8) (N := 17) hx hb hg inX8 hown hK hP 3 rfl rfl 4 (by decide) (hg _ q_4_74) (fun _ h9 => h9) rfl dX8_spreadOneNight_34 ?_
  refine lv_iload_n hx hb dX8_spreadOneNight_37 rfl (lv_at hl 0 rfl) ?_
  refine va_iald hx hb hK hP 2 0 rfl rfl (vin (by decide +kernel)) dX8_spreadOneNight_38 ?_
  refine tpi (y := 1000000) (rfl) ?_
  refine lv_if_eq (tgt := 103) hx hb dX8_spreadOneNight_39 (by decide) (fun c_3 => absurd c_3 (by decide)) (fun _ => ?_)
  refine lv_aload_n hx hb dX8_spreadOneNight_42 rfl (lv_at hl 1 rfl) ?_
  refine va_get (ci := 8) (v := .ref h1) (C := RX8) (T := TX8) (N := 17) hx hb hg inX8 hown hK hP 3 rfl rfl 13 (by decide) (hg _ q_4_87) (fun _ h9 => h9) rfl dX8_spreadOneNight_43 ?_
  refine lv_aload_n hx hb dX8_spreadOneNight_46 rfl (lv_at hl 1 rfl) ?_
  refine lv_iload_n hx hb dX8_spreadOneNight_47 rfl (lv_at hl 0 rfl) ?_
  refine lv_iconst (v := 0) hx hb dX8_spreadOneNight_48 (by decide) ?_
  refine jnI (wr := [(h3, aI V 1 (fun _ => 0)), (h4, aI V 1 (upd (fun _ => 0) 0 1000000)), (h1, aI V 1 (fun _ => 0))]) (rnV (rest := [.ref h1]) ⟨hx, hb, hml, hown, hg⟩ (c_X8_behind_2 l V y h0 h2 h3 h4 h5 h6 h7 h8 h9 h1) mt_X8_behind q_4_182 ⟨Nat.le_of_ble_eq_true rfl, Nat.le_of_ble_eq_true rfl⟩ hK hP hD hS hA hE [0, 3] rfl rfl 3 rfl rfl rfl rfl hl.1 rfl (Nat.le_of_ble_eq_true rfl) dX8_spreadOneNight_49 ⟨Nat.le_of_ble_eq_true rfl, Nat.le_of_ble_eq_true rfl⟩) hP hD hS hA [0, 3] [1, 2, 4] rfl rfl rfl (by decide) (fun r_4 w H locs hw hP hD hS => ?_)
  obtain ⟨rfl, rfl⟩ := hw
  have hP : va_P V.1 vwCl [(h3, aI V 1 (fun _ => 0)), (h4, aI V 1 (upd (fun _ => 0) 0 1000000)), (h1, aI V 1 (fun _ => 0)), (h2, aI V 4 (fun _ => 0)), (h0, .inr (8, [.int 0, .int 1, .ref h5, .ref h3, .ref h4, .int 1, .int 1, .ref (y 19), .ref h6, .ref h7, .ref h2, .ref h8, .ref h9, .ref h1, .int 0, .int 0, .int 1]))] H := hP
  have hD : va_D A [(h3, aI V 1 (fun _ => 0)), (h4, aI V 1 (upd (fun _ => 0) 0 1000000)), (h1, aI V 1 (fun _ => 0)), (h2, aI V 4 (fun _ => 0)), (h0, .inr (8, [.int 0, .int 1, .ref h5, .ref h3, .ref h4, .int 1, .int 1, .ref (y 19), .ref h6, .ref h7, .ref h2, .ref h8, .ref h9, .ref h1, .int 0, .int 0, .int 1]))] := hD
  refine lv_dup2_11 hx hb dX8_spreadOneNight_52 rfl rfl ?_
  refine va_iald hx hb hK hP 2 0 rfl rfl (vin (by decide +kernel)) dX8_spreadOneNight_53 ?_
  refine tpi (y := 0) (rfl) ?_
  refine lv_aload_n hx hb dX8_spreadOneNight_54 rfl (lv_at hl 1 rfl) ?_
  refine va_get (ci := 8) (v := .ref h4) (C := RX8) (T := TX8) (N := 17) hx hb hg inX8 hown hK hP 4 rfl rfl 4 (by decide) (hg _ q_4_74) (fun _ h9 => h9) rfl dX8_spreadOneNight_55 ?_
  refine lv_iload_n hx hb dX8_spreadOneNight_58 rfl (lv_at hl 0 rfl) ?_
  refine va_iald hx hb hK hP 1 0 rfl rfl (vin (by decide +kernel)) dX8_spreadOneNight_59 ?_
  refine tpi (y := 1000000) (rfl) ?_
  refine lv_iload_n hx hb dX8_spreadOneNight_60 rfl (lv_at hl 3 rfl) ?_
  refine lv_imul hx hb dX8_spreadOneNight_61 ?_
  refine tpi (y := 10000000) (by decide +kernel) ?_
  refine lv_iadd hx hb dX8_spreadOneNight_62 ?_
  refine tpi (y := 10000000) (by decide +kernel) ?_
  refine va_iast hx hb hK hP hD hS 2 0 rfl rfl (vin (by decide +kernel)) dX8_spreadOneNight_63 (fun H locs hP hD hS => ?_)
  have hP : va_P V.1 vwCl [(h3, aI V 1 (fun _ => 0)), (h4, aI V 1 (upd (fun _ => 0) 0 1000000)), (h1, aI V 1 (upd (fun _ => 0) 0 10000000)), (h2, aI V 4 (fun _ => 0)), (h0, .inr (8, [.int 0, .int 1, .ref h5, .ref h3, .ref h4, .int 1, .int 1, .ref (y 19), .ref h6, .ref h7, .ref h2, .ref h8, .ref h9, .ref h1, .int 0, .int 0, .int 1]))] H := hP
  have hD : va_D A [(h3, aI V 1 (fun _ => 0)), (h4, aI V 1 (upd (fun _ => 0) 0 1000000)), (h1, aI V 1 (upd (fun _ => 0) 0 10000000)), (h2, aI V 4 (fun _ => 0)), (h0, .inr (8, [.int 0, .int 1, .ref h5, .ref h3, .ref h4, .int 1, .int 1, .ref (y 19), .ref h6, .ref h7, .ref h2, .ref h8, .ref h9, .ref h1, .int 0, .int 0, .int 1]))] := hD
  refine lv_iconst (v := 1) hx hb dX8_spreadOneNight_64 (by decide) ?_
  refine lv_istore (lv' := [(4, .int 1), (3, .int 0), (0, .ref h0), (1, .int 6), (2, .int 10)]) hx hb dX8_spreadOneNight_65 hl (by decide) rfl (fun ls hl => ?_)
  refine lv_iload hx hb dX8_spreadOneNight_67 (lv_at hl 0 rfl) ?_
  refine lv_aload_n hx hb dX8_spreadOneNight_69 rfl (lv_at hl 2 rfl) ?_
  refine va_get (ci := 8) (v := .int 1) (C := RX8) (T := TX8) (N := 17) hx hb hg inX8 hown hK hP 4 rfl rfl 6 (by decide) (hg _ q_4_80) (fun _ h9 => h9) rfl dX8_spreadOneNight_70 ?_
  refine lv_icmp_ge (tgt := 103) hx hb dX8_spreadOneNight_73 (by decide) (fun _ => ?_) (fun c_5 => absurd c_5 (by decide))
  refine lv_iinc (v := 1) (lv' := [(3, .int 1), (4, .int 1), (0, .ref h0), (1, .int 6), (2, .int 10)]) hx hb dX8_spreadOneNight_103 hl (k := 1) rfl (by decide +kernel) (by decide) rfl (fun ls hl => ?_)
  refine lv_goto (tgt := 15) hx hb dX8_spreadOneNight_106 (by decide) ?_
  refine lv_iload_n hx hb dX8_spreadOneNight_15 rfl (lv_at hl 0 rfl) ?_
  refine lv_aload_n hx hb dX8_spreadOneNight_16 rfl (lv_at hl 2 rfl) ?_
  refine va_get (ci := 8) (v := .int 1) (C := RX8) (T := TX8) (N := 17) hx hb hg inX8 hown hK hP 4 rfl rfl 16 (by decide) (hg _ q_4_90) (fun _ h9 => h9) rfl dX8_spreadOneNight_17 ?_
  refine lv_icmp_ge (tgt := 109) hx hb dX8_spreadOneNight_20 (by decide) (fun _ => ?_) (fun c_6 => absurd c_6 (by decide))
  refine lv_aload_n hx hb dX8_spreadOneNight_109 rfl (lv_at hl 2 rfl) ?_
  refine va_get (ci := 8) (v := .ref h4) (C := RX8) (T := TX8) (N := 17) hx hb hg inX8 hown hK hP 4 rfl rfl 4 (by decide) (hg _ q_4_74) (fun _ h9 => h9) rfl dX8_spreadOneNight_110 ?_
  refine lv_astore_n (lv' := [(3, .ref h4), (4, .int 1), (0, .ref h0), (1, .int 6), (2, .int 10)]) hx hb dX8_spreadOneNight_113 rfl hl (by decide) rfl (fun ls hl => ?_)
  refine lv_aload_n hx hb dX8_spreadOneNight_114 rfl (lv_at hl 2 rfl) ?_
  refine lv_aload_n hx hb dX8_spreadOneNight_115 rfl (lv_at hl 2 rfl) ?_
  refine va_get (ci := 8) (v := .ref h1) (C := RX8) (T := TX8) (N := 17) hx hb hg inX8 hown hK hP 4 rfl rfl 13 (by decide) (hg _ q_4_87) (fun _ h9 => h9) rfl dX8_spreadOneNight_116 ?_
  refine va_put (ci := 8) (v := .ref h1) (ty := (.array .int)) (C := RX8) (T := TX8) (N := 17) hx hb hg inX8 tyX8 tyX8_ok nmX8 hown hK hP hD hS 4 rfl rfl 4 (by decide) (hg _ q_4_74) (fun _ h9 => h9) rfl (by decide +kernel) rfl rfl (Nat.le_of_ble_eq_true rfl) dX8_spreadOneNight_119 (fun H locs hP hD hS => ?_)
  have hP : va_P V.1 vwCl [(h3, aI V 1 (fun _ => 0)), (h4, aI V 1 (upd (fun _ => 0) 0 1000000)), (h1, aI V 1 (upd (fun _ => 0) 0 10000000)), (h2, aI V 4 (fun _ => 0)), (h0, .inr (8, [.int 0, .int 1, .ref h5, .ref h3, .ref h1, .int 1, .int 1, .ref (y 19), .ref h6, .ref h7, .ref h2, .ref h8, .ref h9, .ref h1, .int 0, .int 0, .int 1]))] H := hP
  have hD : va_D A [(h3, aI V 1 (fun _ => 0)), (h4, aI V 1 (upd (fun _ => 0) 0 1000000)), (h1, aI V 1 (upd (fun _ => 0) 0 10000000)), (h2, aI V 4 (fun _ => 0)), (h0, .inr (8, [.int 0, .int 1, .ref h5, .ref h3, .ref h1, .int 1, .int 1, .ref (y 19), .ref h6, .ref h7, .ref h2, .ref h8, .ref h9, .ref h1, .int 0, .int 0, .int 1]))] := hD
  refine lv_aload_n hx hb dX8_spreadOneNight_122 rfl (lv_at hl 2 rfl) ?_
  refine lv_aload_n hx hb dX8_spreadOneNight_123 rfl (lv_at hl 0 rfl) ?_
  refine va_put (ci := 8) (v := .ref h4) (ty := (.array .int)) (C := RX8) (T := TX8) (N := 17) hx hb hg inX8 tyX8 tyX8_ok nmX8 hown hK hP hD hS 4 rfl rfl 13 (by decide) (hg _ q_4_87) (fun _ h9 => h9) rfl (by decide +kernel) rfl rfl (Nat.le_of_ble_eq_true rfl) dX8_spreadOneNight_124 (fun H locs hP hD hS => ?_)
  have hP : va_P V.1 vwCl [(h3, aI V 1 (fun _ => 0)), (h4, aI V 1 (upd (fun _ => 0) 0 1000000)), (h1, aI V 1 (upd (fun _ => 0) 0 10000000)), (h2, aI V 4 (fun _ => 0)), (h0, .inr (8, [.int 0, .int 1, .ref h5, .ref h3, .ref h1, .int 1, .int 1, .ref (y 19), .ref h6, .ref h7, .ref h2, .ref h8, .ref h9, .ref h4, .int 0, .int 0, .int 1]))] H := hP
  have hD : va_D A [(h3, aI V 1 (fun _ => 0)), (h4, aI V 1 (upd (fun _ => 0) 0 1000000)), (h1, aI V 1 (upd (fun _ => 0) 0 10000000)), (h2, aI V 4 (fun _ => 0)), (h0, .inr (8, [.int 0, .int 1, .ref h5, .ref h3, .ref h1, .int 1, .int 1, .ref (y 19), .ref h6, .ref h7, .ref h2, .ref h8, .ref h9, .ref h4, .int 0, .int 0, .int 1]))] := hD
  have hP := subP (ws' := [(h1, aI V 1 (upd (fun _ => 0) 0 10000000)), (h2, aI V 4 (fun _ => 0)), (h3, aI V 1 (fun _ => 0)), (h4, aI V 1 (upd (fun _ => 0) 0 1000000)), (h0, .inr (8, [.int 0, .int 1, .ref h5, .ref h3, .ref h1, .int 1, .int 1, .ref (y 19), .ref h6, .ref h7, .ref h2, .ref h8, .ref h9, .ref h4, .int 0, .int 0, .int 1]))]) hP [2, 3, 0, 1, 4] rfl
  have hD := hD.sub (ws' := [(h1, aI V 1 (upd (fun _ => 0) 0 10000000)), (h2, aI V 4 (fun _ => 0)), (h3, aI V 1 (fun _ => 0)), (h4, aI V 1 (upd (fun _ => 0) 0 1000000)), (h0, .inr (8, [.int 0, .int 1, .ref h5, .ref h3, .ref h1, .int 1, .int 1, .ref (y 19), .ref h6, .ref h7, .ref h2, .ref h8, .ref h9, .ref h4, .int 0, .int 0, .int 1]))]) [2, 3, 0, 1, 4] rfl rfl
  exact fiV hx hb hr hlk hK hP hD hS dX8_spreadOneNight_127 (Nat.le_of_ble_eq_true rfl) (Nat.le_of_ble_eq_true rfl) (rfl)
set_option maxHeartbeats 4000000 in
set_option maxRecDepth 100000 in
theorem c_X8_spread_14 (l : Launch) (V : GV) (y : Nat → Nat) (h0 : Nat) (h1 : Nat) (h2 : Nat) (h3 : Nat) (h4 : Nat) (h5 : Nat) (h6 : Nat) (h7 : Nat) (h8 : Nat) (h9 : Nat) : Ct l V yX8_spread (.code yX8_spread cX8_spread 4 none) 4 [.ref h0, .int 7, .int 10] [(h2, aI V 1 (fun _ => 0)), (h3, aI V 1 (fun _ => 0)), (h6, aI V 4 (fun _ => 0)), (h0, .inr (8, [.int 0, .int 1, .ref h7, .ref h8, .ref h2, .int 1, .int 1, .ref (y 19), .ref h9, .ref h4, .ref h6, .ref h1, .ref h5, .ref h3, .int 0, .int 0, .int 1])), (h8, aI V 1 (fun _ => 0))] 0 0 (QV V (fun (w : va_W) => (w = [(h2, aI V 1 (upd (fun _ => 0) 0 1000000)), (h3, aI V 1 (upd (fun _ => 0) 0 10000000)), (h6, aI V 4 (fun _ => 0)), (h0, .inr (8, [.int 0, .int 1, .ref h7, .ref h8, .ref h3, .int 1, .int 1, .ref (y 19), .ref h9, .ref h4, .ref h6, .ref h1, .ref h5, .ref h2, .int 0, .int 0, .int 1])), (h8, aI V 1 (fun _ => 0))]))) := by
  refine Ct.of (by decide) (Nat.le_of_ble_eq_true rfl) (fun p e s m below meth c A ls hx hb hr hml hown hlk hnm hg hP hK hD hE hA hS hl => ?_)
  have hl : lv_has ls 4 [(0, .ref h0), (1, .int 7), (2, .int 10)] := hl
  refine lv_aload_n hx hb dX8_spread_0 rfl (lv_at hl 0 rfl) ?_
  refine jnV (wr := [(h3, aI V 1 (fun _ => 0)), (h6, aI V 4 (fun _ => 0)), (h8, aI V 1 (fun _ => 0))]) (rnV (rest := []) ⟨hx, hb, hml, hown, hg⟩ (c_X8_beginSpread_3 l V y h0 h2 h3 h6 h7 h8 h9 h4 h1 h5) mt_X8_beginSpread q_4_168 ⟨Nat.le_of_ble_eq_true rfl, Nat.le_of_ble_eq_true rfl⟩ hK hP hD hS hA hE [0, 3] rfl rfl 3 rfl rfl rfl rfl hl.1 rfl (Nat.le_of_ble_eq_true rfl) dX8_spread_1 ⟨Nat.le_of_ble_eq_true rfl, Nat.le_of_ble_eq_true rfl⟩) hP hD hS hA [0, 3] [1, 2, 4] rfl rfl rfl (by decide) (fun  w H locs hw hP hD hS => ?_)
  subst hw
  have hP : va_P V.1 vwCl [(h3, aI V 1 (fun _ => 0)), (h6, aI V 4 (fun _ => 0)), (h8, aI V 1 (fun _ => 0)), (h2, aI V 1 (upd (fun _ => 0) 0 1)), (h0, .inr (8, [.int 0, .int 1, .ref h7, .ref h8, .ref h2, .int 1, .int 1, .ref (y 19), .ref h9, .ref h4, .ref h6, .ref h1, .ref h5, .ref h3, .int 0, .int 0, .int 1]))] H := hP
  have hD : va_D A [(h3, aI V 1 (fun _ => 0)), (h6, aI V 4 (fun _ => 0)), (h8, aI V 1 (fun _ => 0)), (h2, aI V 1 (upd (fun _ => 0) 0 1)), (h0, .inr (8, [.int 0, .int 1, .ref h7, .ref h8, .ref h2, .int 1, .int 1, .ref (y 19), .ref h9, .ref h4, .ref h6, .ref h1, .ref h5, .ref h3, .int 0, .int 0, .int 1]))] := hD
  refine lv_iconst (v := 0) hx hb dX8_spread_4 (by decide) ?_
  refine lv_istore_n (lv' := [(3, .int 0), (0, .ref h0), (1, .int 7), (2, .int 10)]) hx hb dX8_spread_5 rfl hl (by decide) rfl (fun ls hl => ?_)
  refine lv_iload_n hx hb dX8_spread_6 rfl (lv_at hl 0 rfl) ?_
  refine lv_iload_n hx hb dX8_spread_7 rfl (lv_at hl 2 rfl) ?_
  refine lv_icmp_ge (tgt := 23) hx hb dX8_spread_8 (by decide) (fun c_1 => absurd c_1 (by decide)) (fun _ => ?_)
  refine lv_aload_n hx hb dX8_spread_11 rfl (lv_at hl 1 rfl) ?_
  refine lv_iload_n hx hb dX8_spread_12 rfl (lv_at hl 0 rfl) ?_
  refine lv_iload_n hx hb dX8_spread_13 rfl (lv_at hl 3 rfl) ?_
  refine jnV (wr := []) (rnV (rest := []) ⟨hx, hb, hml, hown, hg⟩ (c_X8_spreadOneNight_1 l V y h0 h3 h6 h8 h2 h7 h9 h4 h1 h5) mt_X8_spreadOneNight q_4_178 ⟨Nat.le_of_ble_eq_true rfl, Nat.le_of_ble_eq_true rfl⟩ hK hP hD hS hA hE [0, 1, 2, 3, 4] rfl rfl 4 rfl rfl rfl rfl hl.1 rfl (Nat.le_of_ble_eq_true rfl) dX8_spread_14 ⟨Nat.le_of_ble_eq_true rfl, Nat.le_of_ble_eq_true rfl⟩) hP hD hS hA [0, 1, 2, 3, 4] [] rfl rfl rfl (by decide) (fun  w H locs hw hP hD hS => ?_)
  subst hw
  have hP : va_P V.1 vwCl [(h3, aI V 1 (upd (fun _ => 0) 0 10)), (h6, aI V 4 (fun _ => 0)), (h8, aI V 1 (fun _ => 0)), (h2, aI V 1 (upd (fun _ => 0) 0 1)), (h0, .inr (8, [.int 0, .int 1, .ref h7, .ref h8, .ref h3, .int 1, .int 1, .ref (y 19), .ref h9, .ref h4, .ref h6, .ref h1, .ref h5, .ref h2, .int 0, .int 0, .int 1]))] H := hP
  have hD : va_D A [(h3, aI V 1 (upd (fun _ => 0) 0 10)), (h6, aI V 4 (fun _ => 0)), (h8, aI V 1 (fun _ => 0)), (h2, aI V 1 (upd (fun _ => 0) 0 1)), (h0, .inr (8, [.int 0, .int 1, .ref h7, .ref h8, .ref h3, .int 1, .int 1, .ref (y 19), .ref h9, .ref h4, .ref h6, .ref h1, .ref h5, .ref h2, .int 0, .int 0, .int 1]))] := hD
  refine lv_iinc (v := 1) (lv' := [(3, .int 1), (0, .ref h0), (1, .int 7), (2, .int 10)]) hx hb dX8_spread_17 hl (k := 0) rfl (by decide +kernel) (by decide) rfl (fun ls hl => ?_)
  refine lv_goto (tgt := 6) hx hb dX8_spread_20 (by decide) ?_
  refine lv_iload_n hx hb dX8_spread_6 rfl (lv_at hl 0 rfl) ?_
  refine lv_iload_n hx hb dX8_spread_7 rfl (lv_at hl 2 rfl) ?_
  refine lv_icmp_ge (tgt := 23) hx hb dX8_spread_8 (by decide) (fun c_2 => absurd c_2 (by decide)) (fun _ => ?_)
  refine lv_aload_n hx hb dX8_spread_11 rfl (lv_at hl 1 rfl) ?_
  refine lv_iload_n hx hb dX8_spread_12 rfl (lv_at hl 0 rfl) ?_
  refine lv_iload_n hx hb dX8_spread_13 rfl (lv_at hl 3 rfl) ?_
  refine jnV (wr := []) (rnV (rest := []) ⟨hx, hb, hml, hown, hg⟩ (c_X8_spreadOneNight_3 l V y h0 h3 h6 h8 h2 h7 h9 h4 h1 h5) mt_X8_spreadOneNight q_4_178 ⟨Nat.le_of_ble_eq_true rfl, Nat.le_of_ble_eq_true rfl⟩ hK hP hD hS hA hE [0, 1, 2, 3, 4] rfl rfl 4 rfl rfl rfl rfl hl.1 rfl (Nat.le_of_ble_eq_true rfl) dX8_spread_14 ⟨Nat.le_of_ble_eq_true rfl, Nat.le_of_ble_eq_true rfl⟩) hP hD hS hA [0, 1, 2, 3, 4] [] rfl rfl rfl (by decide) (fun  w H locs hw hP hD hS => ?_)
  subst hw
  have hP : va_P V.1 vwCl [(h3, aI V 1 (upd (fun _ => 0) 0 10)), (h6, aI V 4 (fun _ => 0)), (h8, aI V 1 (fun _ => 0)), (h2, aI V 1 (upd (fun _ => 0) 0 100)), (h0, .inr (8, [.int 0, .int 1, .ref h7, .ref h8, .ref h2, .int 1, .int 1, .ref (y 19), .ref h9, .ref h4, .ref h6, .ref h1, .ref h5, .ref h3, .int 0, .int 0, .int 1]))] H := hP
  have hD : va_D A [(h3, aI V 1 (upd (fun _ => 0) 0 10)), (h6, aI V 4 (fun _ => 0)), (h8, aI V 1 (fun _ => 0)), (h2, aI V 1 (upd (fun _ => 0) 0 100)), (h0, .inr (8, [.int 0, .int 1, .ref h7, .ref h8, .ref h2, .int 1, .int 1, .ref (y 19), .ref h9, .ref h4, .ref h6, .ref h1, .ref h5, .ref h3, .int 0, .int 0, .int 1]))] := hD
  refine lv_iinc (v := 2) (lv' := [(3, .int 2), (0, .ref h0), (1, .int 7), (2, .int 10)]) hx hb dX8_spread_17 hl (k := 0) rfl (by decide +kernel) (by decide) rfl (fun ls hl => ?_)
  refine lv_goto (tgt := 6) hx hb dX8_spread_20 (by decide) ?_
  refine lv_iload_n hx hb dX8_spread_6 rfl (lv_at hl 0 rfl) ?_
  refine lv_iload_n hx hb dX8_spread_7 rfl (lv_at hl 2 rfl) ?_
  refine lv_icmp_ge (tgt := 23) hx hb dX8_spread_8 (by decide) (fun c_3 => absurd c_3 (by decide)) (fun _ => ?_)
  refine lv_aload_n hx hb dX8_spread_11 rfl (lv_at hl 1 rfl) ?_
  refine lv_iload_n hx hb dX8_spread_12 rfl (lv_at hl 0 rfl) ?_
  refine lv_iload_n hx hb dX8_spread_13 rfl (lv_at hl 3 rfl) ?_
  refine jnV (wr := []) (rnV (rest := []) ⟨hx, hb, hml, hown, hg⟩ (c_X8_spreadOneNight_5 l V y h0 h3 h6 h8 h2 h7 h9 h4 h1 h5) mt_X8_spreadOneNight q_4_178 ⟨Nat.le_of_ble_eq_true rfl, Nat.le_of_ble_eq_true rfl⟩ hK hP hD hS hA hE [0, 1, 2, 3, 4] rfl rfl 4 rfl rfl rfl rfl hl.1 rfl (Nat.le_of_ble_eq_true rfl) dX8_spread_14 ⟨Nat.le_of_ble_eq_true rfl, Nat.le_of_ble_eq_true rfl⟩) hP hD hS hA [0, 1, 2, 3, 4] [] rfl rfl rfl (by decide) (fun  w H locs hw hP hD hS => ?_)
  subst hw
  have hP : va_P V.1 vwCl [(h3, aI V 1 (upd (fun _ => 0) 0 1000)), (h6, aI V 4 (fun _ => 0)), (h8, aI V 1 (fun _ => 0)), (h2, aI V 1 (upd (fun _ => 0) 0 100)), (h0, .inr (8, [.int 0, .int 1, .ref h7, .ref h8, .ref h3, .int 1, .int 1, .ref (y 19), .ref h9, .ref h4, .ref h6, .ref h1, .ref h5, .ref h2, .int 0, .int 0, .int 1]))] H := hP
  have hD : va_D A [(h3, aI V 1 (upd (fun _ => 0) 0 1000)), (h6, aI V 4 (fun _ => 0)), (h8, aI V 1 (fun _ => 0)), (h2, aI V 1 (upd (fun _ => 0) 0 100)), (h0, .inr (8, [.int 0, .int 1, .ref h7, .ref h8, .ref h3, .int 1, .int 1, .ref (y 19), .ref h9, .ref h4, .ref h6, .ref h1, .ref h5, .ref h2, .int 0, .int 0, .int 1]))] := hD
  refine lv_iinc (v := 3) (lv' := [(3, .int 3), (0, .ref h0), (1, .int 7), (2, .int 10)]) hx hb dX8_spread_17 hl (k := 0) rfl (by decide +kernel) (by decide) rfl (fun ls hl => ?_)
  refine lv_goto (tgt := 6) hx hb dX8_spread_20 (by decide) ?_
  refine lv_iload_n hx hb dX8_spread_6 rfl (lv_at hl 0 rfl) ?_
  refine lv_iload_n hx hb dX8_spread_7 rfl (lv_at hl 2 rfl) ?_
  refine lv_icmp_ge (tgt := 23) hx hb dX8_spread_8 (by decide) (fun c_4 => absurd c_4 (by decide)) (fun _ => ?_)
  refine lv_aload_n hx hb dX8_spread_11 rfl (lv_at hl 1 rfl) ?_
  refine lv_iload_n hx hb dX8_spread_12 rfl (lv_at hl 0 rfl) ?_
  refine lv_iload_n hx hb dX8_spread_13 rfl (lv_at hl 3 rfl) ?_
  refine jnV (wr := []) (rnV (rest := []) ⟨hx, hb, hml, hown, hg⟩ (c_X8_spreadOneNight_7 l V y h0 h3 h6 h8 h2 h7 h9 h4 h1 h5) mt_X8_spreadOneNight q_4_178 ⟨Nat.le_of_ble_eq_true rfl, Nat.le_of_ble_eq_true rfl⟩ hK hP hD hS hA hE [0, 1, 2, 3, 4] rfl rfl 4 rfl rfl rfl rfl hl.1 rfl (Nat.le_of_ble_eq_true rfl) dX8_spread_14 ⟨Nat.le_of_ble_eq_true rfl, Nat.le_of_ble_eq_true rfl⟩) hP hD hS hA [0, 1, 2, 3, 4] [] rfl rfl rfl (by decide) (fun  w H locs hw hP hD hS => ?_)
  subst hw
  have hP : va_P V.1 vwCl [(h3, aI V 1 (upd (fun _ => 0) 0 1000)), (h6, aI V 4 (fun _ => 0)), (h8, aI V 1 (fun _ => 0)), (h2, aI V 1 (upd (fun _ => 0) 0 10000)), (h0, .inr (8, [.int 0, .int 1, .ref h7, .ref h8, .ref h2, .int 1, .int 1, .ref (y 19), .ref h9, .ref h4, .ref h6, .ref h1, .ref h5, .ref h3, .int 0, .int 0, .int 1]))] H := hP
  have hD : va_D A [(h3, aI V 1 (upd (fun _ => 0) 0 1000)), (h6, aI V 4 (fun _ => 0)), (h8, aI V 1 (fun _ => 0)), (h2, aI V 1 (upd (fun _ => 0) 0 10000)), (h0, .inr (8, [.int 0, .int 1, .ref h7, .ref h8, .ref h2, .int 1, .int 1, .ref (y 19), .ref h9, .ref h4, .ref h6, .ref h1, .ref h5, .ref h3, .int 0, .int 0, .int 1]))] := hD
  refine lv_iinc (v := 4) (lv' := [(3, .int 4), (0, .ref h0), (1, .int 7), (2, .int 10)]) hx hb dX8_spread_17 hl (k := 0) rfl (by decide +kernel) (by decide) rfl (fun ls hl => ?_)
  refine lv_goto (tgt := 6) hx hb dX8_spread_20 (by decide) ?_
  refine lv_iload_n hx hb dX8_spread_6 rfl (lv_at hl 0 rfl) ?_
  refine lv_iload_n hx hb dX8_spread_7 rfl (lv_at hl 2 rfl) ?_
  refine lv_icmp_ge (tgt := 23) hx hb dX8_spread_8 (by decide) (fun c_5 => absurd c_5 (by decide)) (fun _ => ?_)
  refine lv_aload_n hx hb dX8_spread_11 rfl (lv_at hl 1 rfl) ?_
  refine lv_iload_n hx hb dX8_spread_12 rfl (lv_at hl 0 rfl) ?_
  refine lv_iload_n hx hb dX8_spread_13 rfl (lv_at hl 3 rfl) ?_
  refine jnV (wr := []) (rnV (rest := []) ⟨hx, hb, hml, hown, hg⟩ (c_X8_spreadOneNight_9 l V y h0 h3 h6 h8 h2 h7 h9 h4 h1 h5) mt_X8_spreadOneNight q_4_178 ⟨Nat.le_of_ble_eq_true rfl, Nat.le_of_ble_eq_true rfl⟩ hK hP hD hS hA hE [0, 1, 2, 3, 4] rfl rfl 4 rfl rfl rfl rfl hl.1 rfl (Nat.le_of_ble_eq_true rfl) dX8_spread_14 ⟨Nat.le_of_ble_eq_true rfl, Nat.le_of_ble_eq_true rfl⟩) hP hD hS hA [0, 1, 2, 3, 4] [] rfl rfl rfl (by decide) (fun  w H locs hw hP hD hS => ?_)
  subst hw
  have hP : va_P V.1 vwCl [(h3, aI V 1 (upd (fun _ => 0) 0 100000)), (h6, aI V 4 (fun _ => 0)), (h8, aI V 1 (fun _ => 0)), (h2, aI V 1 (upd (fun _ => 0) 0 10000)), (h0, .inr (8, [.int 0, .int 1, .ref h7, .ref h8, .ref h3, .int 1, .int 1, .ref (y 19), .ref h9, .ref h4, .ref h6, .ref h1, .ref h5, .ref h2, .int 0, .int 0, .int 1]))] H := hP
  have hD : va_D A [(h3, aI V 1 (upd (fun _ => 0) 0 100000)), (h6, aI V 4 (fun _ => 0)), (h8, aI V 1 (fun _ => 0)), (h2, aI V 1 (upd (fun _ => 0) 0 10000)), (h0, .inr (8, [.int 0, .int 1, .ref h7, .ref h8, .ref h3, .int 1, .int 1, .ref (y 19), .ref h9, .ref h4, .ref h6, .ref h1, .ref h5, .ref h2, .int 0, .int 0, .int 1]))] := hD
  refine lv_iinc (v := 5) (lv' := [(3, .int 5), (0, .ref h0), (1, .int 7), (2, .int 10)]) hx hb dX8_spread_17 hl (k := 0) rfl (by decide +kernel) (by decide) rfl (fun ls hl => ?_)
  refine lv_goto (tgt := 6) hx hb dX8_spread_20 (by decide) ?_
  refine lv_iload_n hx hb dX8_spread_6 rfl (lv_at hl 0 rfl) ?_
  refine lv_iload_n hx hb dX8_spread_7 rfl (lv_at hl 2 rfl) ?_
  refine lv_icmp_ge (tgt := 23) hx hb dX8_spread_8 (by decide) (fun c_6 => absurd c_6 (by decide)) (fun _ => ?_)
  refine lv_aload_n hx hb dX8_spread_11 rfl (lv_at hl 1 rfl) ?_
  refine lv_iload_n hx hb dX8_spread_12 rfl (lv_at hl 0 rfl) ?_
  refine lv_iload_n hx hb dX8_spread_13 rfl (lv_at hl 3 rfl) ?_
  refine jnV (wr := []) (rnV (rest := []) ⟨hx, hb, hml, hown, hg⟩ (c_X8_spreadOneNight_11 l V y h0 h3 h6 h8 h2 h7 h9 h4 h1 h5) mt_X8_spreadOneNight q_4_178 ⟨Nat.le_of_ble_eq_true rfl, Nat.le_of_ble_eq_true rfl⟩ hK hP hD hS hA hE [0, 1, 2, 3, 4] rfl rfl 4 rfl rfl rfl rfl hl.1 rfl (Nat.le_of_ble_eq_true rfl) dX8_spread_14 ⟨Nat.le_of_ble_eq_true rfl, Nat.le_of_ble_eq_true rfl⟩) hP hD hS hA [0, 1, 2, 3, 4] [] rfl rfl rfl (by decide) (fun  w H locs hw hP hD hS => ?_)
  subst hw
  have hP : va_P V.1 vwCl [(h3, aI V 1 (upd (fun _ => 0) 0 100000)), (h6, aI V 4 (fun _ => 0)), (h8, aI V 1 (fun _ => 0)), (h2, aI V 1 (upd (fun _ => 0) 0 1000000)), (h0, .inr (8, [.int 0, .int 1, .ref h7, .ref h8, .ref h2, .int 1, .int 1, .ref (y 19), .ref h9, .ref h4, .ref h6, .ref h1, .ref h5, .ref h3, .int 0, .int 0, .int 1]))] H := hP
  have hD : va_D A [(h3, aI V 1 (upd (fun _ => 0) 0 100000)), (h6, aI V 4 (fun _ => 0)), (h8, aI V 1 (fun _ => 0)), (h2, aI V 1 (upd (fun _ => 0) 0 1000000)), (h0, .inr (8, [.int 0, .int 1, .ref h7, .ref h8, .ref h2, .int 1, .int 1, .ref (y 19), .ref h9, .ref h4, .ref h6, .ref h1, .ref h5, .ref h3, .int 0, .int 0, .int 1]))] := hD
  refine lv_iinc (v := 6) (lv' := [(3, .int 6), (0, .ref h0), (1, .int 7), (2, .int 10)]) hx hb dX8_spread_17 hl (k := 0) rfl (by decide +kernel) (by decide) rfl (fun ls hl => ?_)
  refine lv_goto (tgt := 6) hx hb dX8_spread_20 (by decide) ?_
  refine lv_iload_n hx hb dX8_spread_6 rfl (lv_at hl 0 rfl) ?_
  refine lv_iload_n hx hb dX8_spread_7 rfl (lv_at hl 2 rfl) ?_
  refine lv_icmp_ge (tgt := 23) hx hb dX8_spread_8 (by decide) (fun c_7 => absurd c_7 (by decide)) (fun _ => ?_)
  refine lv_aload_n hx hb dX8_spread_11 rfl (lv_at hl 1 rfl) ?_
  refine lv_iload_n hx hb dX8_spread_12 rfl (lv_at hl 0 rfl) ?_
  refine lv_iload_n hx hb dX8_spread_13 rfl (lv_at hl 3 rfl) ?_
  refine jnV (wr := []) (rnV (rest := []) ⟨hx, hb, hml, hown, hg⟩ (c_X8_spreadOneNight_13 l V y h0 h3 h6 h8 h2 h7 h9 h4 h1 h5) mt_X8_spreadOneNight q_4_178 ⟨Nat.le_of_ble_eq_true rfl, Nat.le_of_ble_eq_true rfl⟩ hK hP hD hS hA hE [0, 1, 2, 3, 4] rfl rfl 4 rfl rfl rfl rfl hl.1 rfl (Nat.le_of_ble_eq_true rfl) dX8_spread_14 ⟨Nat.le_of_ble_eq_true rfl, Nat.le_of_ble_eq_true rfl⟩) hP hD hS hA [0, 1, 2, 3, 4] [] rfl rfl rfl (by decide) (fun  w H locs hw hP hD hS => ?_)
  subst hw
  have hP : va_P V.1 vwCl [(h3, aI V 1 (upd (fun _ => 0) 0 10000000)), (h6, aI V 4 (fun _ => 0)), (h8, aI V 1 (fun _ => 0)), (h2, aI V 1 (upd (fun _ => 0) 0 1000000)), (h0, .inr (8, [.int 0, .int 1, .ref h7, .ref h8, .ref h3, .int 1, .int 1, .ref (y 19), .ref h9, .ref h4, .ref h6, .ref h1, .ref h5, .ref h2, .int 0, .int 0, .int 1]))] H := hP
  have hD : va_D A [(h3, aI V 1 (upd (fun _ => 0) 0 10000000)), (h6, aI V 4 (fun _ => 0)), (h8, aI V 1 (fun _ => 0)), (h2, aI V 1 (upd (fun _ => 0) 0 1000000)), (h0, .inr (8, [.int 0, .int 1, .ref h7, .ref h8, .ref h3, .int 1, .int 1, .ref (y 19), .ref h9, .ref h4, .ref h6, .ref h1, .ref h5, .ref h2, .int 0, .int 0, .int 1]))] := hD
  refine lv_iinc (v := 7) (lv' := [(3, .int 7), (0, .ref h0), (1, .int 7), (2, .int 10)]) hx hb dX8_spread_17 hl (k := 0) rfl (by decide +kernel) (by decide) rfl (fun ls hl => ?_)
  refine lv_goto (tgt := 6) hx hb dX8_spread_20 (by decide) ?_
  refine lv_iload_n hx hb dX8_spread_6 rfl (lv_at hl 0 rfl) ?_
  refine lv_iload_n hx hb dX8_spread_7 rfl (lv_at hl 2 rfl) ?_
  refine lv_icmp_ge (tgt := 23) hx hb dX8_spread_8 (by decide) (fun _ => ?_) (fun c_8 => absurd c_8 (by decide))
  have hP := subP (ws' := [(h2, aI V 1 (upd (fun _ => 0) 0 1000000)), (h3, aI V 1 (upd (fun _ => 0) 0 10000000)), (h6, aI V 4 (fun _ => 0)), (h0, .inr (8, [.int 0, .int 1, .ref h7, .ref h8, .ref h3, .int 1, .int 1, .ref (y 19), .ref h9, .ref h4, .ref h6, .ref h1, .ref h5, .ref h2, .int 0, .int 0, .int 1])), (h8, aI V 1 (fun _ => 0))]) hP [3, 0, 1, 4, 2] rfl
  have hD := hD.sub (ws' := [(h2, aI V 1 (upd (fun _ => 0) 0 1000000)), (h3, aI V 1 (upd (fun _ => 0) 0 10000000)), (h6, aI V 4 (fun _ => 0)), (h0, .inr (8, [.int 0, .int 1, .ref h7, .ref h8, .ref h3, .int 1, .int 1, .ref (y 19), .ref h9, .ref h4, .ref h6, .ref h1, .ref h5, .ref h2, .int 0, .int 0, .int 1])), (h8, aI V 1 (fun _ => 0))]) [3, 0, 1, 4, 2] rfl rfl
  exact fiV hx hb hr hlk hK hP hD hS dX8_spread_23 (Nat.le_of_ble_eq_true rfl) (Nat.le_of_ble_eq_true rfl) (rfl)
set_option maxHeartbeats 4000000 in
set_option maxRecDepth 100000 in
theorem c_X8_spread_15 (l : Launch) (V : GV) (y : Nat → Nat) (h0 : Nat) (h1 : Nat) (h2 : Nat) (h3 : Nat) (h4 : Nat) (h5 : Nat) (h6 : Nat) (h7 : Nat) (h8 : Nat) (h9 : Nat) : Ct l V yX8_spread (.code yX8_spread cX8_spread 4 none) 4 [.ref h0, .int 7, .int 10] [(h1, aI V 1 (fun _ => 0)), (h2, aI V 1 (fun _ => 0)), (h3, aI V 4 (fun _ => 0)), (h0, .inr (8, [.int 0, .int 1, .ref h4, .ref h5, .ref h1, .int 1, .int 1, .ref (y 19), .ref h6, .ref h7, .ref h3, .ref h8, .ref h9, .ref h2, .int 0, .int 0, .int 1])), (h5, aI V 1 (fun _ => 0))] 0 0 (QV V (fun (w : va_W) => (w = [(h1, aI V 1 (upd (fun _ => 0) 0 1000000)), (h2, aI V 1 (upd (fun _ => 0) 0 10000000)), (h3, aI V 4 (fun _ => 0)), (h0, .inr (8, [.int 0, .int 1, .ref h4, .ref h5, .ref h2, .int 1, .int 1, .ref (y 19), .ref h6, .ref h7, .ref h3, .ref h8, .ref h9, .ref h1, .int 0, .int 0, .int 1])), (h5, aI V 1 (fun _ => 0))]))) := by
  refine Ct.of (by decide) (Nat.le_of_ble_eq_true rfl) (fun p e s m below meth c A ls hx hb hr hml hown hlk hnm hg hP hK hD hE hA hS hl => ?_)
  have hl : lv_has ls 4 [(0, .ref h0), (1, .int 7), (2, .int 10)] := hl
  refine lv_aload_n hx hb dX8_spread_0 rfl (lv_at hl 0 rfl) ?_
  refine jnV (wr := [(h2, aI V 1 (fun _ => 0)), (h3, aI V 4 (fun _ => 0)), (h5, aI V 1 (fun _ => 0))]) (rnV (rest := []) ⟨hx, hb, hml, hown, hg⟩ (c_X8_beginSpread_3 l V y h0 h1 h2 h3 h4 h5 h6 h7 h8 h9) mt_X8_beginSpread q_4_168 ⟨Nat.le_of_ble_eq_true rfl, Nat.le_of_ble_eq_true rfl⟩ hK hP hD hS hA hE [0, 3] rfl rfl 3 rfl rfl rfl rfl hl.1 rfl (Nat.le_of_ble_eq_true rfl) dX8_spread_1 ⟨Nat.le_of_ble_eq_true rfl, Nat.le_of_ble_eq_true rfl⟩) hP hD hS hA [0, 3] [1, 2, 4] rfl rfl rfl (by decide) (fun  w H locs hw hP hD hS => ?_)
  subst hw
  have hP : va_P V.1 vwCl [(h2, aI V 1 (fun _ => 0)), (h3, aI V 4 (fun _ => 0)), (h5, aI V 1 (fun _ => 0)), (h1, aI V 1 (upd (fun _ => 0) 0 1)), (h0, .inr (8, [.int 0, .int 1, .ref h4, .ref h5, .ref h1, .int 1, .int 1, .ref (y 19), .ref h6, .ref h7, .ref h3, .ref h8, .ref h9, .ref h2, .int 0, .int 0, .int 1]))] H := hP
  have hD : va_D A [(h2, aI V 1 (fun _ => 0)), (h3, aI V 4 (fun _ => 0)), (h5, aI V 1 (fun _ => 0)), (h1, aI V 1 (upd (fun _ => 0) 0 1)), (h0, .inr (8, [.int 0, .int 1, .ref h4, .ref h5, .ref h1, .int 1, .int 1, .ref (y 19), .ref h6, .ref h7, .ref h3, .ref h8, .ref h9, .ref h2, .int 0, .int 0, .int 1]))] := hD
  refine lv_iconst (v := 0) hx hb dX8_spread_4 (by decide) ?_
  refine lv_istore_n (lv' := [(3, .int 0), (0, .ref h0), (1, .int 7), (2, .int 10)]) hx hb dX8_spread_5 rfl hl (by decide) rfl (fun ls hl => ?_)
  refine lv_iload_n hx hb dX8_spread_6 rfl (lv_at hl 0 rfl) ?_
  refine lv_iload_n hx hb dX8_spread_7 rfl (lv_at hl 2 rfl) ?_
  refine lv_icmp_ge (tgt := 23) hx hb dX8_spread_8 (by decide) (fun c_1 => absurd c_1 (by decide)) (fun _ => ?_)
  refine lv_aload_n hx hb dX8_spread_11 rfl (lv_at hl 1 rfl) ?_
  refine lv_iload_n hx hb dX8_spread_12 rfl (lv_at hl 0 rfl) ?_
  refine lv_iload_n hx hb dX8_spread_13 rfl (lv_at hl 3 rfl) ?_
  refine jnV (wr := []) (rnV (rest := []) ⟨hx, hb, hml, hown, hg⟩ (c_X8_spreadOneNight_1 l V y h0 h2 h3 h5 h1 h4 h6 h7 h8 h9) mt_X8_spreadOneNight q_4_178 ⟨Nat.le_of_ble_eq_true rfl, Nat.le_of_ble_eq_true rfl⟩ hK hP hD hS hA hE [0, 1, 2, 3, 4] rfl rfl 4 rfl rfl rfl rfl hl.1 rfl (Nat.le_of_ble_eq_true rfl) dX8_spread_14 ⟨Nat.le_of_ble_eq_true rfl, Nat.le_of_ble_eq_true rfl⟩) hP hD hS hA [0, 1, 2, 3, 4] [] rfl rfl rfl (by decide) (fun  w H locs hw hP hD hS => ?_)
  subst hw
  have hP : va_P V.1 vwCl [(h2, aI V 1 (upd (fun _ => 0) 0 10)), (h3, aI V 4 (fun _ => 0)), (h5, aI V 1 (fun _ => 0)), (h1, aI V 1 (upd (fun _ => 0) 0 1)), (h0, .inr (8, [.int 0, .int 1, .ref h4, .ref h5, .ref h2, .int 1, .int 1, .ref (y 19), .ref h6, .ref h7, .ref h3, .ref h8, .ref h9, .ref h1, .int 0, .int 0, .int 1]))] H := hP
  have hD : va_D A [(h2, aI V 1 (upd (fun _ => 0) 0 10)), (h3, aI V 4 (fun _ => 0)), (h5, aI V 1 (fun _ => 0)), (h1, aI V 1 (upd (fun _ => 0) 0 1)), (h0, .inr (8, [.int 0, .int 1, .ref h4, .ref h5, .ref h2, .int 1, .int 1, .ref (y 19), .ref h6, .ref h7, .ref h3, .ref h8, .ref h9, .ref h1, .int 0, .int 0, .int 1]))] := hD
  refine lv_iinc (v := 1) (lv' := [(3, .int 1), (0, .ref h0), (1, .int 7), (2, .int 10)]) hx hb dX8_spread_17 hl (k := 0) rfl (by decide +kernel) (by decide) rfl (fun ls hl => ?_)
  refine lv_goto (tgt := 6) hx hb dX8_spread_20 (by decide) ?_
  refine lv_iload_n hx hb dX8_spread_6 rfl (lv_at hl 0 rfl) ?_
  refine lv_iload_n hx hb dX8_spread_7 rfl (lv_at hl 2 rfl) ?_
  refine lv_icmp_ge (tgt := 23) hx hb dX8_spread_8 (by decide) (fun c_2 => absurd c_2 (by decide)) (fun _ => ?_)
  refine lv_aload_n hx hb dX8_spread_11 rfl (lv_at hl 1 rfl) ?_
  refine lv_iload_n hx hb dX8_spread_12 rfl (lv_at hl 0 rfl) ?_
  refine lv_iload_n hx hb dX8_spread_13 rfl (lv_at hl 3 rfl) ?_
  refine jnV (wr := []) (rnV (rest := []) ⟨hx, hb, hml, hown, hg⟩ (c_X8_spreadOneNight_3 l V y h0 h2 h3 h5 h1 h4 h6 h7 h8 h9) mt_X8_spreadOneNight q_4_178 ⟨Nat.le_of_ble_eq_true rfl, Nat.le_of_ble_eq_true rfl⟩ hK hP hD hS hA hE [0, 1, 2, 3, 4] rfl rfl 4 rfl rfl rfl rfl hl.1 rfl (Nat.le_of_ble_eq_true rfl) dX8_spread_14 ⟨Nat.le_of_ble_eq_true rfl, Nat.le_of_ble_eq_true rfl⟩) hP hD hS hA [0, 1, 2, 3, 4] [] rfl rfl rfl (by decide) (fun  w H locs hw hP hD hS => ?_)
  subst hw
  have hP : va_P V.1 vwCl [(h2, aI V 1 (upd (fun _ => 0) 0 10)), (h3, aI V 4 (fun _ => 0)), (h5, aI V 1 (fun _ => 0)), (h1, aI V 1 (upd (fun _ => 0) 0 100)), (h0, .inr (8, [.int 0, .int 1, .ref h4, .ref h5, .ref h1, .int 1, .int 1, .ref (y 19), .ref h6, .ref h7, .ref h3, .ref h8, .ref h9, .ref h2, .int 0, .int 0, .int 1]))] H := hP
  have hD : va_D A [(h2, aI V 1 (upd (fun _ => 0) 0 10)), (h3, aI V 4 (fun _ => 0)), (h5, aI V 1 (fun _ => 0)), (h1, aI V 1 (upd (fun _ => 0) 0 100)), (h0, .inr (8, [.int 0, .int 1, .ref h4, .ref h5, .ref h1, .int 1, .int 1, .ref (y 19), .ref h6, .ref h7, .ref h3, .ref h8, .ref h9, .ref h2, .int 0, .int 0, .int 1]))] := hD
  refine lv_iinc (v := 2) (lv' := [(3, .int 2), (0, .ref h0), (1, .int 7), (2, .int 10)]) hx hb dX8_spread_17 hl (k := 0) rfl (by decide +kernel) (by decide) rfl (fun ls hl => ?_)
  refine lv_goto (tgt := 6) hx hb dX8_spread_20 (by decide) ?_
  refine lv_iload_n hx hb dX8_spread_6 rfl (lv_at hl 0 rfl) ?_
  refine lv_iload_n hx hb dX8_spread_7 rfl (lv_at hl 2 rfl) ?_
  refine lv_icmp_ge (tgt := 23) hx hb dX8_spread_8 (by decide) (fun c_3 => absurd c_3 (by decide)) (fun _ => ?_)
  refine lv_aload_n hx hb dX8_spread_11 rfl (lv_at hl 1 rfl) ?_
  refine lv_iload_n hx hb dX8_spread_12 rfl (lv_at hl 0 rfl) ?_
  refine lv_iload_n hx hb dX8_spread_13 rfl (lv_at hl 3 rfl) ?_
  refine jnV (wr := []) (rnV (rest := []) ⟨hx, hb, hml, hown, hg⟩ (c_X8_spreadOneNight_5 l V y h0 h2 h3 h5 h1 h4 h6 h7 h8 h9) mt_X8_spreadOneNight q_4_178 ⟨Nat.le_of_ble_eq_true rfl, Nat.le_of_ble_eq_true rfl⟩ hK hP hD hS hA hE [0, 1, 2, 3, 4] rfl rfl 4 rfl rfl rfl rfl hl.1 rfl (Nat.le_of_ble_eq_true rfl) dX8_spread_14 ⟨Nat.le_of_ble_eq_true rfl, Nat.le_of_ble_eq_true rfl⟩) hP hD hS hA [0, 1, 2, 3, 4] [] rfl rfl rfl (by decide) (fun  w H locs hw hP hD hS => ?_)
  subst hw
  have hP : va_P V.1 vwCl [(h2, aI V 1 (upd (fun _ => 0) 0 1000)), (h3, aI V 4 (fun _ => 0)), (h5, aI V 1 (fun _ => 0)), (h1, aI V 1 (upd (fun _ => 0) 0 100)), (h0, .inr (8, [.int 0, .int 1, .ref h4, .ref h5, .ref h2, .int 1, .int 1, .ref (y 19), .ref h6, .ref h7, .ref h3, .ref h8, .ref h9, .ref h1, .int 0, .int 0, .int 1]))] H := hP
  have hD : va_D A [(h2, aI V 1 (upd (fun _ => 0) 0 1000)), (h3, aI V 4 (fun _ => 0)), (h5, aI V 1 (fun _ => 0)), (h1, aI V 1 (upd (fun _ => 0) 0 100)), (h0, .inr (8, [.int 0, .int 1, .ref h4, .ref h5, .ref h2, .int 1, .int 1, .ref (y 19), .ref h6, .ref h7, .ref h3, .ref h8, .ref h9, .ref h1, .int 0, .int 0, .int 1]))] := hD
  refine lv_iinc (v := 3) (lv' := [(3, .int 3), (0, .ref h0), (1, .int 7), (2, .int 10)]) hx hb dX8_spread_17 hl (k := 0) rfl (by decide +kernel) (by decide) rfl (fun ls hl => ?_)
  refine lv_goto (tgt := 6) hx hb dX8_spread_20 (by decide) ?_
  refine lv_iload_n hx hb dX8_spread_6 rfl (lv_at hl 0 rfl) ?_
  refine lv_iload_n hx hb dX8_spread_7 rfl (lv_at hl 2 rfl) ?_
  refine lv_icmp_ge (tgt := 23) hx hb dX8_spread_8 (by decide) (fun c_4 => absurd c_4 (by decide)) (fun _ => ?_)
  refine lv_aload_n hx hb dX8_spread_11 rfl (lv_at hl 1 rfl) ?_
  refine lv_iload_n hx hb dX8_spread_12 rfl (lv_at hl 0 rfl) ?_
  refine lv_iload_n hx hb dX8_spread_13 rfl (lv_at hl 3 rfl) ?_
  refine jnV (wr := []) (rnV (rest := []) ⟨hx, hb, hml, hown, hg⟩ (c_X8_spreadOneNight_7 l V y h0 h2 h3 h5 h1 h4 h6 h7 h8 h9) mt_X8_spreadOneNight q_4_178 ⟨Nat.le_of_ble_eq_true rfl, Nat.le_of_ble_eq_true rfl⟩ hK hP hD hS hA hE [0, 1, 2, 3, 4] rfl rfl 4 rfl rfl rfl rfl hl.1 rfl (Nat.le_of_ble_eq_true rfl) dX8_spread_14 ⟨Nat.le_of_ble_eq_true rfl, Nat.le_of_ble_eq_true rfl⟩) hP hD hS hA [0, 1, 2, 3, 4] [] rfl rfl rfl (by decide) (fun  w H locs hw hP hD hS => ?_)
  subst hw
  have hP : va_P V.1 vwCl [(h2, aI V 1 (upd (fun _ => 0) 0 1000)), (h3, aI V 4 (fun _ => 0)), (h5, aI V 1 (fun _ => 0)), (h1, aI V 1 (upd (fun _ => 0) 0 10000)), (h0, .inr (8, [.int 0, .int 1, .ref h4, .ref h5, .ref h1, .int 1, .int 1, .ref (y 19), .ref h6, .ref h7, .ref h3, .ref h8, .ref h9, .ref h2, .int 0, .int 0, .int 1]))] H := hP
  have hD : va_D A [(h2, aI V 1 (upd (fun _ => 0) 0 1000)), (h3, aI V 4 (fun _ => 0)), (h5, aI V 1 (fun _ => 0)), (h1, aI V 1 (upd (fun _ => 0) 0 10000)), (h0, .inr (8, [.int 0, .int 1, .ref h4, .ref h5, .ref h1, .int 1, .int 1, .ref (y 19), .ref h6, .ref h7, .ref h3, .ref h8, .ref h9, .ref h2, .int 0, .int 0, .int 1]))] := hD
  refine lv_iinc (v := 4) (lv' := [(3, .int 4), (0, .ref h0), (1, .int 7), (2, .int 10)]) hx hb dX8_spread_17 hl (k := 0) rfl (by decide +kernel) (by decide) rfl (fun ls hl => ?_)
  refine lv_goto (tgt := 6) hx hb dX8_spread_20 (by decide) ?_
  refine lv_iload_n hx hb dX8_spread_6 rfl (lv_at hl 0 rfl) ?_
  refine lv_iload_n hx hb dX8_spread_7 rfl (lv_at hl 2 rfl) ?_
  refine lv_icmp_ge (tgt := 23) hx hb dX8_spread_8 (by decide) (fun c_5 => absurd c_5 (by decide)) (fun _ => ?_)
  refine lv_aload_n hx hb dX8_spread_11 rfl (lv_at hl 1 rfl) ?_
  refine lv_iload_n hx hb dX8_spread_12 rfl (lv_at hl 0 rfl) ?_
  refine lv_iload_n hx hb dX8_spread_13 rfl (lv_at hl 3 rfl) ?_
  refine jnV (wr := []) (rnV (rest := []) ⟨hx, hb, hml, hown, hg⟩ (c_X8_spreadOneNight_9 l V y h0 h2 h3 h5 h1 h4 h6 h7 h8 h9) mt_X8_spreadOneNight q_4_178 ⟨Nat.le_of_ble_eq_true rfl, Nat.le_of_ble_eq_true rfl⟩ hK hP hD hS hA hE [0, 1, 2, 3, 4] rfl rfl 4 rfl rfl rfl rfl hl.1 rfl (Nat.le_of_ble_eq_true rfl) dX8_spread_14 ⟨Nat.le_of_ble_eq_true rfl, Nat.le_of_ble_eq_true rfl⟩) hP hD hS hA [0, 1, 2, 3, 4] [] rfl rfl rfl (by decide) (fun  w H locs hw hP hD hS => ?_)
  subst hw
  have hP : va_P V.1 vwCl [(h2, aI V 1 (upd (fun _ => 0) 0 100000)), (h3, aI V 4 (fun _ => 0)), (h5, aI V 1 (fun _ => 0)), (h1, aI V 1 (upd (fun _ => 0) 0 10000)), (h0, .inr (8, [.int 0, .int 1, .ref h4, .ref h5, .ref h2, .int 1, .int 1, .ref (y 19), .ref h6, .ref h7, .ref h3, .ref h8, .ref h9, .ref h1, .int 0, .int 0, .int 1]))] H := hP
  have hD : va_D A [(h2, aI V 1 (upd (fun _ => 0) 0 100000)), (h3, aI V 4 (fun _ => 0)), (h5, aI V 1 (fun _ => 0)), (h1, aI V 1 (upd (fun _ => 0) 0 10000)), (h0, .inr (8, [.int 0, .int 1, .ref h4, .ref h5, .ref h2, .int 1, .int 1, .ref (y 19), .ref h6, .ref h7, .ref h3, .ref h8, .ref h9, .ref h1, .int 0, .int 0, .int 1]))] := hD
  refine lv_iinc (v := 5) (lv' := [(3, .int 5), (0, .ref h0), (1, .int 7), (2, .int 10)]) hx hb dX8_spread_17 hl (k := 0) rfl (by decide +kernel) (by decide) rfl (fun ls hl => ?_)
  refine lv_goto (tgt := 6) hx hb dX8_spread_20 (by decide) ?_
  refine lv_iload_n hx hb dX8_spread_6 rfl (lv_at hl 0 rfl) ?_
  refine lv_iload_n hx hb dX8_spread_7 rfl (lv_at hl 2 rfl) ?_
  refine lv_icmp_ge (tgt := 23) hx hb dX8_spread_8 (by decide) (fun c_6 => absurd c_6 (by decide)) (fun _ => ?_)
  refine lv_aload_n hx hb dX8_spread_11 rfl (lv_at hl 1 rfl) ?_
  refine lv_iload_n hx hb dX8_spread_12 rfl (lv_at hl 0 rfl) ?_
  refine lv_iload_n hx hb dX8_spread_13 rfl (lv_at hl 3 rfl) ?_
  refine jnV (wr := []) (rnV (rest := []) ⟨hx, hb, hml, hown, hg⟩ (c_X8_spreadOneNight_11 l V y h0 h2 h3 h5 h1 h4 h6 h7 h8 h9) mt_X8_spreadOneNight q_4_178 ⟨Nat.le_of_ble_eq_true rfl, Nat.le_of_ble_eq_true rfl⟩ hK hP hD hS hA hE [0, 1, 2, 3, 4] rfl rfl 4 rfl rfl rfl rfl hl.1 rfl (Nat.le_of_ble_eq_true rfl) dX8_spread_14 ⟨Nat.le_of_ble_eq_true rfl, Nat.le_of_ble_eq_true rfl⟩) hP hD hS hA [0, 1, 2, 3, 4] [] rfl rfl rfl (by decide) (fun  w H locs hw hP hD hS => ?_)
  subst hw
  have hP : va_P V.1 vwCl [(h2, aI V 1 (upd (fun _ => 0) 0 100000)), (h3, aI V 4 (fun _ => 0)), (h5, aI V 1 (fun _ => 0)), (h1, aI V 1 (upd (fun _ => 0) 0 1000000)), (h0, .inr (8, [.int 0, .int 1, .ref h4, .ref h5, .ref h1, .int 1, .int 1, .ref (y 19), .ref h6, .ref h7, .ref h3, .ref h8, .ref h9, .ref h2, .int 0, .int 0, .int 1]))] H := hP
  have hD : va_D A [(h2, aI V 1 (upd (fun _ => 0) 0 100000)), (h3, aI V 4 (fun _ => 0)), (h5, aI V 1 (fun _ => 0)), (h1, aI V 1 (upd (fun _ => 0) 0 1000000)), (h0, .inr (8, [.int 0, .int 1, .ref h4, .ref h5, .ref h1, .int 1, .int 1, .ref (y 19), .ref h6, .ref h7, .ref h3, .ref h8, .ref h9, .ref h2, .int 0, .int 0, .int 1]))] := hD
  refine lv_iinc (v := 6) (lv' := [(3, .int 6), (0, .ref h0), (1, .int 7), (2, .int 10)]) hx hb dX8_spread_17 hl (k := 0) rfl (by decide +kernel) (by decide) rfl (fun ls hl => ?_)
  refine lv_goto (tgt := 6) hx hb dX8_spread_20 (by decide) ?_
  refine lv_iload_n hx hb dX8_spread_6 rfl (lv_at hl 0 rfl) ?_
  refine lv_iload_n hx hb dX8_spread_7 rfl (lv_at hl 2 rfl) ?_
  refine lv_icmp_ge (tgt := 23) hx hb dX8_spread_8 (by decide) (fun c_7 => absurd c_7 (by decide)) (fun _ => ?_)
  refine lv_aload_n hx hb dX8_spread_11 rfl (lv_at hl 1 rfl) ?_
  refine lv_iload_n hx hb dX8_spread_12 rfl (lv_at hl 0 rfl) ?_
  refine lv_iload_n hx hb dX8_spread_13 rfl (lv_at hl 3 rfl) ?_
  refine jnV (wr := []) (rnV (rest := []) ⟨hx, hb, hml, hown, hg⟩ (c_X8_spreadOneNight_13 l V y h0 h2 h3 h5 h1 h4 h6 h7 h8 h9) mt_X8_spreadOneNight q_4_178 ⟨Nat.le_of_ble_eq_true rfl, Nat.le_of_ble_eq_true rfl⟩ hK hP hD hS hA hE [0, 1, 2, 3, 4] rfl rfl 4 rfl rfl rfl rfl hl.1 rfl (Nat.le_of_ble_eq_true rfl) dX8_spread_14 ⟨Nat.le_of_ble_eq_true rfl, Nat.le_of_ble_eq_true rfl⟩) hP hD hS hA [0, 1, 2, 3, 4] [] rfl rfl rfl (by decide) (fun  w H locs hw hP hD hS => ?_)
  subst hw
  have hP : va_P V.1 vwCl [(h2, aI V 1 (upd (fun _ => 0) 0 10000000)), (h3, aI V 4 (fun _ => 0)), (h5, aI V 1 (fun _ => 0)), (h1, aI V 1 (upd (fun _ => 0) 0 1000000)), (h0, .inr (8, [.int 0, .int 1, .ref h4, .ref h5, .ref h2, .int 1, .int 1, .ref (y 19), .ref h6, .ref h7, .ref h3, .ref h8, .ref h9, .ref h1, .int 0, .int 0, .int 1]))] H := hP
  have hD : va_D A [(h2, aI V 1 (upd (fun _ => 0) 0 10000000)), (h3, aI V 4 (fun _ => 0)), (h5, aI V 1 (fun _ => 0)), (h1, aI V 1 (upd (fun _ => 0) 0 1000000)), (h0, .inr (8, [.int 0, .int 1, .ref h4, .ref h5, .ref h2, .int 1, .int 1, .ref (y 19), .ref h6, .ref h7, .ref h3, .ref h8, .ref h9, .ref h1, .int 0, .int 0, .int 1]))] := hD
  refine lv_iinc (v := 7) (lv' := [(3, .int 7), (0, .ref h0), (1, .int 7), (2, .int 10)]) hx hb dX8_spread_17 hl (k := 0) rfl (by decide +kernel) (by decide) rfl (fun ls hl => ?_)
  refine lv_goto (tgt := 6) hx hb dX8_spread_20 (by decide) ?_
  refine lv_iload_n hx hb dX8_spread_6 rfl (lv_at hl 0 rfl) ?_
  refine lv_iload_n hx hb dX8_spread_7 rfl (lv_at hl 2 rfl) ?_
  refine lv_icmp_ge (tgt := 23) hx hb dX8_spread_8 (by decide) (fun _ => ?_) (fun c_8 => absurd c_8 (by decide))
  have hP := subP (ws' := [(h1, aI V 1 (upd (fun _ => 0) 0 1000000)), (h2, aI V 1 (upd (fun _ => 0) 0 10000000)), (h3, aI V 4 (fun _ => 0)), (h0, .inr (8, [.int 0, .int 1, .ref h4, .ref h5, .ref h2, .int 1, .int 1, .ref (y 19), .ref h6, .ref h7, .ref h3, .ref h8, .ref h9, .ref h1, .int 0, .int 0, .int 1])), (h5, aI V 1 (fun _ => 0))]) hP [3, 0, 1, 4, 2] rfl
  have hD := hD.sub (ws' := [(h1, aI V 1 (upd (fun _ => 0) 0 1000000)), (h2, aI V 1 (upd (fun _ => 0) 0 10000000)), (h3, aI V 4 (fun _ => 0)), (h0, .inr (8, [.int 0, .int 1, .ref h4, .ref h5, .ref h2, .int 1, .int 1, .ref (y 19), .ref h6, .ref h7, .ref h3, .ref h8, .ref h9, .ref h1, .int 0, .int 0, .int 1])), (h5, aI V 1 (fun _ => 0))]) [3, 0, 1, 4, 2] rfl rfl
  exact fiV hx hb hr hlk hK hP hD hS dX8_spread_23 (Nat.le_of_ble_eq_true rfl) (Nat.le_of_ble_eq_true rfl) (rfl)
