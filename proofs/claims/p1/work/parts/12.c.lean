set_option maxHeartbeats 4000000 in
set_option maxRecDepth 100000 in
theorem c_X10_laysLikely_5 (l : Launch) (V : GV) (z : Nat → Nat) : Ct l V yX10_laysLikely (.code yX10_laysLikely cX10_laysLikely 4 none) 4 [.ref (z 0), .int 5] [(z 0, .inr (10, mo z 0 0 0 0 0 0 0 0 0 0 (-1) 0 0 0 0 0)), (z 24, aI V 10000 (fun _ => 0)), (z 25, aI V 40000 (fun _ => 0)), (z 28, aZ V 10000 (fun _ => 0)), (z 30, aJ V 10000 (fun _ => 0)), (z 31, aJ V 10000 (fun _ => 0)), (z 1, aI V 3075 (fun _ => 0))] 0 0 (QV V (fun (w : va_W) => (w = [(z 0, .inr (10, mo z 0 0 0 0 0 0 0 0 0 0 (-1) 0 0 0 0 1)), (z 24, aI V 10000 (fun _ => 0)), (z 25, aI V 40000 (upd (upd (upd (fun _ => 0) 1 (-1)) 2 (-1)) 3 (-1))), (z 28, aZ V 10000 (upd (fun _ => 0) 0 1)), (z 30, aJ V 10000 (vp_updL (fun _ => 0) 0 100000)), (z 31, aJ V 10000 (fun _ => 0)), (z 1, aI V 3075 (fun _ => 0))]))) := by
  refine Ct.of (by decide) (Nat.le_of_ble_eq_true rfl) (fun p e s m below meth c A ls hx hb hr hml hown hlk hnm hg hP hK hD hE hA hS hl => ?_)
  have hl : lv_has ls 4 [(0, .ref (z 0)), (1, .int 5)] := hl
  refine lv_aload_n hx hb dX10_laysLikely_0 rfl (lv_at hl 0 rfl) ?_
  refine jnV (wr := [(z 30, aJ V 10000 (fun _ => 0)), (z 31, aJ V 10000 (fun _ => 0))]) (rnV (rest := []) ⟨hx, hb, hml, hown, hg⟩ (c_X10_laysStands_0 l V z) mt_X10_laysStands q_7_194 ⟨Nat.le_of_ble_eq_true rfl, Nat.le_of_ble_eq_true rfl⟩ hK hP hD hS hA hE [0, 1, 2, 3, 6] rfl rfl 0 rfl rfl rfl rfl hl.1 rfl (Nat.le_of_ble_eq_true rfl) dX10_laysLikely_1 ⟨Nat.le_of_ble_eq_true rfl, Nat.le_of_ble_eq_true rfl⟩) hP hD hS hA [0, 1, 2, 3, 6] [4, 5] rfl rfl rfl (by decide) (fun  w H locs hw hP hD hS => ?_)
  subst hw
  have hP : va_P V.1 vwCl [(z 30, aJ V 10000 (fun _ => 0)), (z 31, aJ V 10000 (fun _ => 0)), (z 0, .inr (10, mo z 0 0 0 0 0 0 0 0 0 0 (-1) 0 0 0 0 1)), (z 24, aI V 10000 (fun _ => 0)), (z 25, aI V 40000 (upd (upd (upd (fun _ => 0) 1 (-1)) 2 (-1)) 3 (-1))), (z 28, aZ V 10000 (upd (fun _ => 0) 0 1)), (z 1, aI V 3075 (fun _ => 0))] H := hP
  have hD : va_D A [(z 30, aJ V 10000 (fun _ => 0)), (z 31, aJ V 10000 (fun _ => 0)), (z 0, .inr (10, mo z 0 0 0 0 0 0 0 0 0 0 (-1) 0 0 0 0 1)), (z 24, aI V 10000 (fun _ => 0)), (z 25, aI V 40000 (upd (upd (upd (fun _ => 0) 1 (-1)) 2 (-1)) 3 (-1))), (z 28, aZ V 10000 (upd (fun _ => 0) 0 1)), (z 1, aI V 3075 (fun _ => 0))] := hD
  refine lv_aload_n hx hb dX10_laysLikely_4 rfl (lv_at hl 0 rfl) ?_
  refine jnV (wr := [(z 24, aI V 10000 (fun _ => 0)), (z 25, aI V 40000 (upd (upd (upd (fun _ => 0) 1 (-1)) 2 (-1)) 3 (-1))), (z 28, aZ V 10000 (upd (fun _ => 0) 0 1))]) (rnV (rest := []) ⟨hx, hb, hml, hown, hg⟩ (c_X10_beginsMany_0 l V z) mt_X10_beginsMany q_7_220 ⟨Nat.le_of_ble_eq_true rfl, Nat.le_of_ble_eq_true rfl⟩ hK hP hD hS hA hE [0, 1, 2, 6] rfl rfl 2 rfl rfl rfl rfl hl.1 rfl (Nat.le_of_ble_eq_true rfl) dX10_laysLikely_5 ⟨Nat.le_of_ble_eq_true rfl, Nat.le_of_ble_eq_true rfl⟩) hP hD hS hA [0, 1, 2, 6] [3, 4, 5] rfl rfl rfl (by decide) (fun  w H locs hw hP hD hS => ?_)
  subst hw
  have hP : va_P V.1 vwCl [(z 24, aI V 10000 (fun _ => 0)), (z 25, aI V 40000 (upd (upd (upd (fun _ => 0) 1 (-1)) 2 (-1)) 3 (-1))), (z 28, aZ V 10000 (upd (fun _ => 0) 0 1)), (z 30, aJ V 10000 (vp_updL (fun _ => 0) 0 1)), (z 31, aJ V 10000 (fun _ => 0)), (z 0, .inr (10, mo z 0 0 0 0 0 0 0 0 0 0 (-1) 0 0 0 0 1)), (z 1, aI V 3075 (fun _ => 0))] H := hP
  have hD : va_D A [(z 24, aI V 10000 (fun _ => 0)), (z 25, aI V 40000 (upd (upd (upd (fun _ => 0) 1 (-1)) 2 (-1)) 3 (-1))), (z 28, aZ V 10000 (upd (fun _ => 0) 0 1)), (z 30, aJ V 10000 (vp_updL (fun _ => 0) 0 1)), (z 31, aJ V 10000 (fun _ => 0)), (z 0, .inr (10, mo z 0 0 0 0 0 0 0 0 0 0 (-1) 0 0 0 0 1)), (z 1, aI V 3075 (fun _ => 0))] := hD
  refine lv_aload_n hx hb dX10_laysLikely_8 rfl (lv_at hl 0 rfl) ?_
  refine va_get (ci := 10) (v := .ref (z 1)) (C := RX10) (T := TX10) (N := 40) hx hb hg inX10 hown hK hP 5 rfl rfl 1 (by decide) (hg _ q_5_225) (fun _ h9 => h9) rfl dX10_laysLikely_9 ?_
  refine lv_iconst (v := 1) hx hb dX10_laysLikely_12 (by decide) ?_
  refine va_iald hx hb hK hP 6 0 rfl rfl (vin (by decide +kernel)) dX10_laysLikely_13 ?_
  refine tpi (y := 0) (rfl) ?_
  refine lv_if_ne (tgt := 21) hx hb dX10_laysLikely_14 (by decide) (fun c_1 => absurd c_1 (by decide)) (fun _ => ?_)
  refine lv_iconst (v := 0) hx hb dX10_laysLikely_17 (by decide) ?_
  refine lv_goto (tgt := 29) hx hb dX10_laysLikely_18 (by decide) ?_
  refine lv_istore_n (lv' := [(2, .int 0), (0, .ref (z 0)), (1, .int 5)]) hx hb dX10_laysLikely_29 rfl hl (by decide) rfl (fun ls hl => ?_)
  refine lv_iconst (v := 0) hx hb dX10_laysLikely_30 (by decide) ?_
  refine lv_istore_n (lv' := [(3, .int 0), (2, .int 0), (0, .ref (z 0)), (1, .int 5)]) hx hb dX10_laysLikely_31 rfl hl (by decide) rfl (fun ls hl => ?_)
  refine lv_iload_n hx hb dX10_laysLikely_32 rfl (lv_at hl 0 rfl) ?_
  refine lv_iload_n hx hb dX10_laysLikely_33 rfl (lv_at hl 3 rfl) ?_
  refine lv_icmp_ge (tgt := 54) hx hb dX10_laysLikely_34 (by decide) (fun c_2 => absurd c_2 (by decide)) (fun _ => ?_)
  refine lv_aload_n hx hb dX10_laysLikely_37 rfl (lv_at hl 2 rfl) ?_
  refine lv_ldc2 (v := 10) hx hb hown (hg _ q_7_102) dX10_laysLikely_38 ?_
  refine lv_iload_n hx hb dX10_laysLikely_41 rfl (lv_at hl 1 rfl) ?_
  refine lv_i2l (v := 0) hx hb dX10_laysLikely_42 (by decide +kernel) ?_
  refine lv_lsub hx hb dX10_laysLikely_43 ?_
  refine tpl (y := 10) (by decide +kernel) ?_
  refine lv_lconst (v := 1) hx hb dX10_laysLikely_44 (by decide) ?_
  refine jnV (wr := [(z 28, aZ V 10000 (upd (fun _ => 0) 0 1)), (z 1, aI V 3075 (fun _ => 0))]) (rnV (rest := []) ⟨hx, hb, hml, hown, hg⟩ (c_X10_goesMany_0 l V z) mt_X10_goesMany q_7_224 ⟨Nat.le_of_ble_eq_true rfl, Nat.le_of_ble_eq_true rfl⟩ hK hP hD hS hA hE [0, 1, 3, 4, 5] rfl rfl 5 rfl rfl rfl rfl hl.1 rfl (Nat.le_of_ble_eq_true rfl) dX10_laysLikely_45 ⟨Nat.le_of_ble_eq_true rfl, Nat.le_of_ble_eq_true rfl⟩) hP hD hS hA [0, 1, 3, 4, 5] [2, 6] rfl rfl rfl (by decide) (fun  w H locs hw hP hD hS => ?_)
  subst hw
  have hP : va_P V.1 vwCl [(z 28, aZ V 10000 (upd (fun _ => 0) 0 1)), (z 1, aI V 3075 (fun _ => 0)), (z 24, aI V 10000 (fun _ => 0)), (z 25, aI V 40000 (upd (upd (upd (fun _ => 0) 1 (-1)) 2 (-1)) 3 (-1))), (z 30, aJ V 10000 (vp_updL (fun _ => 0) 0 10)), (z 31, aJ V 10000 (fun _ => 0)), (z 0, .inr (10, mo z 0 0 0 0 0 0 0 0 0 0 (-1) 0 0 0 0 1))] H := hP
  have hD : va_D A [(z 28, aZ V 10000 (upd (fun _ => 0) 0 1)), (z 1, aI V 3075 (fun _ => 0)), (z 24, aI V 10000 (fun _ => 0)), (z 25, aI V 40000 (upd (upd (upd (fun _ => 0) 1 (-1)) 2 (-1)) 3 (-1))), (z 30, aJ V 10000 (vp_updL (fun _ => 0) 0 10)), (z 31, aJ V 10000 (fun _ => 0)), (z 0, .inr (10, mo z 0 0 0 0 0 0 0 0 0 0 (-1) 0 0 0 0 1))] := hD
  refine lv_iinc (v := 1) (lv' := [(3, .int 1), (2, .int 0), (0, .ref (z 0)), (1, .int 5)]) hx hb dX10_laysLikely_48 hl (k := 0) rfl (by decide +kernel) (by decide) rfl (fun ls hl => ?_)
  refine lv_goto (tgt := 32) hx hb dX10_laysLikely_51 (by decide) ?_
  refine lv_iload_n hx hb dX10_laysLikely_32 rfl (lv_at hl 0 rfl) ?_
  refine lv_iload_n hx hb dX10_laysLikely_33 rfl (lv_at hl 3 rfl) ?_
  refine lv_icmp_ge (tgt := 54) hx hb dX10_laysLikely_34 (by decide) (fun c_3 => absurd c_3 (by decide)) (fun _ => ?_)
  refine lv_aload_n hx hb dX10_laysLikely_37 rfl (lv_at hl 2 rfl) ?_
  refine lv_ldc2 (v := 10) hx hb hown (hg _ q_7_102) dX10_laysLikely_38 ?_
  refine lv_iload_n hx hb dX10_laysLikely_41 rfl (lv_at hl 1 rfl) ?_
  refine lv_i2l (v := 0) hx hb dX10_laysLikely_42 (by decide +kernel) ?_
  refine lv_lsub hx hb dX10_laysLikely_43 ?_
  refine tpl (y := 10) (by decide +kernel) ?_
  refine lv_lconst (v := 1) hx hb dX10_laysLikely_44 (by decide) ?_
  refine jnV (wr := [(z 28, aZ V 10000 (upd (fun _ => 0) 0 1)), (z 1, aI V 3075 (fun _ => 0))]) (rnV (rest := []) ⟨hx, hb, hml, hown, hg⟩ (c_X10_goesMany_1 l V z) mt_X10_goesMany q_7_224 ⟨Nat.le_of_ble_eq_true rfl, Nat.le_of_ble_eq_true rfl⟩ hK hP hD hS hA hE [2, 3, 4, 5, 6] rfl rfl 6 rfl rfl rfl rfl hl.1 rfl (Nat.le_of_ble_eq_true rfl) dX10_laysLikely_45 ⟨Nat.le_of_ble_eq_true rfl, Nat.le_of_ble_eq_true rfl⟩) hP hD hS hA [2, 3, 4, 5, 6] [0, 1] rfl rfl rfl (by decide) (fun  w H locs hw hP hD hS => ?_)
  subst hw
  have hP : va_P V.1 vwCl [(z 28, aZ V 10000 (upd (fun _ => 0) 0 1)), (z 1, aI V 3075 (fun _ => 0)), (z 24, aI V 10000 (fun _ => 0)), (z 25, aI V 40000 (upd (upd (upd (fun _ => 0) 1 (-1)) 2 (-1)) 3 (-1))), (z 30, aJ V 10000 (vp_updL (fun _ => 0) 0 100)), (z 31, aJ V 10000 (fun _ => 0)), (z 0, .inr (10, mo z 0 0 0 0 0 0 0 0 0 0 (-1) 0 0 0 0 1))] H := hP
  have hD : va_D A [(z 28, aZ V 10000 (upd (fun _ => 0) 0 1)), (z 1, aI V 3075 (fun _ => 0)), (z 24, aI V 10000 (fun _ => 0)), (z 25, aI V 40000 (upd (upd (upd (fun _ => 0) 1 (-1)) 2 (-1)) 3 (-1))), (z 30, aJ V 10000 (vp_updL (fun _ => 0) 0 100)), (z 31, aJ V 10000 (fun _ => 0)), (z 0, .inr (10, mo z 0 0 0 0 0 0 0 0 0 0 (-1) 0 0 0 0 1))] := hD
  refine lv_iinc (v := 2) (lv' := [(3, .int 2), (2, .int 0), (0, .ref (z 0)), (1, .int 5)]) hx hb dX10_laysLikely_48 hl (k := 0) rfl (by decide +kernel) (by decide) rfl (fun ls hl => ?_)
  refine lv_goto (tgt := 32) hx hb dX10_laysLikely_51 (by decide) ?_
  refine lv_iload_n hx hb dX10_laysLikely_32 rfl (lv_at hl 0 rfl) ?_
  refine lv_iload_n hx hb dX10_laysLikely_33 rfl (lv_at hl 3 rfl) ?_
  refine lv_icmp_ge (tgt := 54) hx hb dX10_laysLikely_34 (by decide) (fun c_4 => absurd c_4 (by decide)) (fun _ => ?_)
  refine lv_aload_n hx hb dX10_laysLikely_37 rfl (lv_at hl 2 rfl) ?_
  refine lv_ldc2 (v := 10) hx hb hown (hg _ q_7_102) dX10_laysLikely_38 ?_
  refine lv_iload_n hx hb dX10_laysLikely_41 rfl (lv_at hl 1 rfl) ?_
  refine lv_i2l (v := 0) hx hb dX10_laysLikely_42 (by decide +kernel) ?_
  refine lv_lsub hx hb dX10_laysLikely_43 ?_
  refine tpl (y := 10) (by decide +kernel) ?_
  refine lv_lconst (v := 1) hx hb dX10_laysLikely_44 (by decide) ?_
  refine jnV (wr := [(z 28, aZ V 10000 (upd (fun _ => 0) 0 1)), (z 1, aI V 3075 (fun _ => 0))]) (rnV (rest := []) ⟨hx, hb, hml, hown, hg⟩ (c_X10_goesMany_2 l V z) mt_X10_goesMany q_7_224 ⟨Nat.le_of_ble_eq_true rfl, Nat.le_of_ble_eq_true rfl⟩ hK hP hD hS hA hE [2, 3, 4, 5, 6] rfl rfl 6 rfl rfl rfl rfl hl.1 rfl (Nat.le_of_ble_eq_true rfl) dX10_laysLikely_45 ⟨Nat.le_of_ble_eq_true rfl, Nat.le_of_ble_eq_true rfl⟩) hP hD hS hA [2, 3, 4, 5, 6] [0, 1] rfl rfl rfl (by decide) (fun  w H locs hw hP hD hS => ?_)
  subst hw
  have hP : va_P V.1 vwCl [(z 28, aZ V 10000 (upd (fun _ => 0) 0 1)), (z 1, aI V 3075 (fun _ => 0)), (z 24, aI V 10000 (fun _ => 0)), (z 25, aI V 40000 (upd (upd (upd (fun _ => 0) 1 (-1)) 2 (-1)) 3 (-1))), (z 30, aJ V 10000 (vp_updL (fun _ => 0) 0 1000)), (z 31, aJ V 10000 (fun _ => 0)), (z 0, .inr (10, mo z 0 0 0 0 0 0 0 0 0 0 (-1) 0 0 0 0 1))] H := hP
  have hD : va_D A [(z 28, aZ V 10000 (upd (fun _ => 0) 0 1)), (z 1, aI V 3075 (fun _ => 0)), (z 24, aI V 10000 (fun _ => 0)), (z 25, aI V 40000 (upd (upd (upd (fun _ => 0) 1 (-1)) 2 (-1)) 3 (-1))), (z 30, aJ V 10000 (vp_updL (fun _ => 0) 0 1000)), (z 31, aJ V 10000 (fun _ => 0)), (z 0, .inr (10, mo z 0 0 0 0 0 0 0 0 0 0 (-1) 0 0 0 0 1))] := hD
  refine lv_iinc (v := 3) (lv' := [(3, .int 3), (2, .int 0), (0, .ref (z 0)), (1, .int 5)]) hx hb dX10_laysLikely_48 hl (k := 0) rfl (by decide +kernel) (by decide) rfl (fun ls hl => ?_)
  refine lv_goto (tgt := 32) hx hb dX10_laysLikely_51 (by decide) ?_
  refine lv_iload_n hx hb dX10_laysLikely_32 rfl (lv_at hl 0 rfl) ?_
  refine lv_iload_n hx hb dX10_laysLikely_33 rfl (lv_at hl 3 rfl) ?_
  refine lv_icmp_ge (tgt := 54) hx hb dX10_laysLikely_34 (by decide) (fun c_5 => absurd c_5 (by decide)) (fun _ => ?_)
  refine lv_aload_n hx hb dX10_laysLikely_37 rfl (lv_at hl 2 rfl) ?_
  refine lv_ldc2 (v := 10) hx hb hown (hg _ q_7_102) dX10_laysLikely_38 ?_
  refine lv_iload_n hx hb dX10_laysLikely_41 rfl (lv_at hl 1 rfl) ?_
  refine lv_i2l (v := 0) hx hb dX10_laysLikely_42 (by decide +kernel) ?_
  refine lv_lsub hx hb dX10_laysLikely_43 ?_
  refine tpl (y := 10) (by decide +kernel) ?_
  refine lv_lconst (v := 1) hx hb dX10_laysLikely_44 (by decide) ?_
  refine jnV (wr := [(z 28, aZ V 10000 (upd (fun _ => 0) 0 1)), (z 1, aI V 3075 (fun _ => 0))]) (rnV (rest := []) ⟨hx, hb, hml, hown, hg⟩ (c_X10_goesMany_3 l V z) mt_X10_goesMany q_7_224 ⟨Nat.le_of_ble_eq_true rfl, Nat.le_of_ble_eq_true rfl⟩ hK hP hD hS hA hE [2, 3, 4, 5, 6] rfl rfl 6 rfl rfl rfl rfl hl.1 rfl (Nat.le_of_ble_eq_true rfl) dX10_laysLikely_45 ⟨Nat.le_of_ble_eq_true rfl, Nat.le_of_ble_eq_true rfl⟩) hP hD hS hA [2, 3, 4, 5, 6] [0, 1] rfl rfl rfl (by decide) (fun  w H locs hw hP hD hS => ?_)
  subst hw
  have hP : va_P V.1 vwCl [(z 28, aZ V 10000 (upd (fun _ => 0) 0 1)), (z 1, aI V 3075 (fun _ => 0)), (z 24, aI V 10000 (fun _ => 0)), (z 25, aI V 40000 (upd (upd (upd (fun _ => 0) 1 (-1)) 2 (-1)) 3 (-1))), (z 30, aJ V 10000 (vp_updL (fun _ => 0) 0 10000)), (z 31, aJ V 10000 (fun _ => 0)), (z 0, .inr (10, mo z 0 0 0 0 0 0 0 0 0 0 (-1) 0 0 0 0 1))] H := hP
  have hD : va_D A [(z 28, aZ V 10000 (upd (fun _ => 0) 0 1)), (z 1, aI V 3075 (fun _ => 0)), (z 24, aI V 10000 (fun _ => 0)), (z 25, aI V 40000 (upd (upd (upd (fun _ => 0) 1 (-1)) 2 (-1)) 3 (-1))), (z 30, aJ V 10000 (vp_updL (fun _ => 0) 0 10000)), (z 31, aJ V 10000 (fun _ => 0)), (z 0, .inr (10, mo z 0 0 0 0 0 0 0 0 0 0 (-1) 0 0 0 0 1))] := hD
  refine lv_iinc (v := 4) (lv' := [(3, .int 4), (2, .int 0), (0, .ref (z 0)), (1, .int 5)]) hx hb dX10_laysLikely_48 hl (k := 0) rfl (by decide +kernel) (by decide) rfl (fun ls hl => ?_)
  refine lv_goto (tgt := 32) hx hb dX10_laysLikely_51 (by decide) ?_
  refine lv_iload_n hx hb dX10_laysLikely_32 rfl (lv_at hl 0 rfl) ?_
  refine lv_iload_n hx hb dX10_laysLikely_33 rfl (lv_at hl 3 rfl) ?_
  refine lv_icmp_ge (tgt := 54) hx hb dX10_laysLikely_34 (by decide) (fun c_6 => absurd c_6 (by decide)) (fun _ => ?_)
  refine lv_aload_n hx hb dX10_laysLikely_37 rfl (lv_at hl 2 rfl) ?_
  refine lv_ldc2 (v := 10) hx hb hown (hg _ q_7_102) dX10_laysLikely_38 ?_
  refine lv_iload_n hx hb dX10_laysLikely_41 rfl (lv_at hl 1 rfl) ?_
  refine lv_i2l (v := 0) hx hb dX10_laysLikely_42 (by decide +kernel) ?_
  refine lv_lsub hx hb dX10_laysLikely_43 ?_
  refine tpl (y := 10) (by decide +kernel) ?_
  refine lv_lconst (v := 1) hx hb dX10_laysLikely_44 (by decide) ?_
  refine jnV (wr := [(z 28, aZ V 10000 (upd (fun _ => 0) 0 1)), (z 1, aI V 3075 (fun _ => 0))]) (rnV (rest := []) ⟨hx, hb, hml, hown, hg⟩ (c_X10_goesMany_4 l V z) mt_X10_goesMany q_7_224 ⟨Nat.le_of_ble_eq_true rfl, Nat.le_of_ble_eq_true rfl⟩ hK hP hD hS hA hE [2, 3, 4, 5, 6] rfl rfl 6 rfl rfl rfl rfl hl.1 rfl (Nat.le_of_ble_eq_true rfl) dX10_laysLikely_45 ⟨Nat.le_of_ble_eq_true rfl, Nat.le_of_ble_eq_true rfl⟩) hP hD hS hA [2, 3, 4, 5, 6] [0, 1] rfl rfl rfl (by decide) (fun  w H locs hw hP hD hS => ?_)
  subst hw
  have hP : va_P V.1 vwCl [(z 28, aZ V 10000 (upd (fun _ => 0) 0 1)), (z 1, aI V 3075 (fun _ => 0)), (z 24, aI V 10000 (fun _ => 0)), (z 25, aI V 40000 (upd (upd (upd (fun _ => 0) 1 (-1)) 2 (-1)) 3 (-1))), (z 30, aJ V 10000 (vp_updL (fun _ => 0) 0 100000)), (z 31, aJ V 10000 (fun _ => 0)), (z 0, .inr (10, mo z 0 0 0 0 0 0 0 0 0 0 (-1) 0 0 0 0 1))] H := hP
  have hD : va_D A [(z 28, aZ V 10000 (upd (fun _ => 0) 0 1)), (z 1, aI V 3075 (fun _ => 0)), (z 24, aI V 10000 (fun _ => 0)), (z 25, aI V 40000 (upd (upd (upd (fun _ => 0) 1 (-1)) 2 (-1)) 3 (-1))), (z 30, aJ V 10000 (vp_updL (fun _ => 0) 0 100000)), (z 31, aJ V 10000 (fun _ => 0)), (z 0, .inr (10, mo z 0 0 0 0 0 0 0 0 0 0 (-1) 0 0 0 0 1))] := hD
  refine lv_iinc (v := 5) (lv' := [(3, .int 5), (2, .int 0), (0, .ref (z 0)), (1, .int 5)]) hx hb dX10_laysLikely_48 hl (k := 0) rfl (by decide +kernel) (by decide) rfl (fun ls hl => ?_)
  refine lv_goto (tgt := 32) hx hb dX10_laysLikely_51 (by decide) ?_
  refine lv_iload_n hx hb dX10_laysLikely_32 rfl (lv_at hl 0 rfl) ?_
  refine lv_iload_n hx hb dX10_laysLikely_33 rfl (lv_at hl 3 rfl) ?_
  refine lv_icmp_ge (tgt := 54) hx hb dX10_laysLikely_34 (by decide) (fun _ => ?_) (fun c_7 => absurd c_7 (by decide))
  have hP := subP (ws' := [(z 0, .inr (10, mo z 0 0 0 0 0 0 0 0 0 0 (-1) 0 0 0 0 1)), (z 24, aI V 10000 (fun _ => 0)), (z 25, aI V 40000 (upd (upd (upd (fun _ => 0) 1 (-1)) 2 (-1)) 3 (-1))), (z 28, aZ V 10000 (upd (fun _ => 0) 0 1)), (z 30, aJ V 10000 (vp_updL (fun _ => 0) 0 100000)), (z 31, aJ V 10000 (fun _ => 0)), (z 1, aI V 3075 (fun _ => 0))]) hP [6, 2, 3, 0, 4, 5, 1] rfl
  have hD := hD.sub (ws' := [(z 0, .inr (10, mo z 0 0 0 0 0 0 0 0 0 0 (-1) 0 0 0 0 1)), (z 24, aI V 10000 (fun _ => 0)), (z 25, aI V 40000 (upd (upd (upd (fun _ => 0) 1 (-1)) 2 (-1)) 3 (-1))), (z 28, aZ V 10000 (upd (fun _ => 0) 0 1)), (z 30, aJ V 10000 (vp_updL (fun _ => 0) 0 100000)), (z 31, aJ V 10000 (fun _ => 0)), (z 1, aI V 3075 (fun _ => 0))]) [6, 2, 3, 0, 4, 5, 1] rfl rfl
  exact fiV hx hb hr hlk hK hP hD hS dX10_laysLikely_54 (Nat.le_of_ble_eq_true rfl) (Nat.le_of_ble_eq_true rfl) (rfl)
set_option maxHeartbeats 4000000 in
set_option maxRecDepth 100000 in
theorem c_X10_wholeOf_5 (l : Launch) (V : GV) : Ct l V yX10_wholeOf (.code yX10_wholeOf cX10_wholeOf 4 (some .long)) 1 [.int 5] [] 0 0 (QL V (fun (r : Int64) (w : va_W) => (r = 100000 ∧ w = []))) := by
  refine Ct.of (by decide) (Nat.le_of_ble_eq_true rfl) (fun p e s m below meth c A ls hx hb hr hml hown hlk hnm hg hP hK hD hE hA hS hl => ?_)
  have hl : lv_has ls 4 [(0, .int 5)] := hl
  refine lv_lconst (v := 1) hx hb dX10_wholeOf_0 (by decide) ?_
  refine lv_lstore_n (lv' := [(1, .long 1), (0, .int 5)]) hx hb dX10_wholeOf_1 rfl hl (by decide) rfl (fun ls hl => ?_)
  refine lv_iconst (v := 0) hx hb dX10_wholeOf_2 (by decide) ?_
  refine lv_istore_n (lv' := [(3, .int 0), (1, .long 1), (0, .int 5)]) hx hb dX10_wholeOf_3 rfl hl (by decide) rfl (fun ls hl => ?_)
  refine lv_iload_n hx hb dX10_wholeOf_4 rfl (lv_at hl 0 rfl) ?_
  refine lv_iload_n hx hb dX10_wholeOf_5 rfl (lv_at hl 2 rfl) ?_
  refine lv_icmp_ge (tgt := 21) hx hb dX10_wholeOf_6 (by decide) (fun c_1 => absurd c_1 (by decide)) (fun _ => ?_)
  refine lv_lload_n hx hb dX10_wholeOf_9 rfl (lv_at hl 1 rfl) ?_
  refine lv_ldc2 (v := 10) hx hb hown (hg _ q_7_102) dX10_wholeOf_10 ?_
  refine lv_lmul hx hb dX10_wholeOf_13 ?_
  refine tpl (y := 10) (by decide +kernel) ?_
  refine lv_lstore_n (lv' := [(1, .long 10), (3, .int 0), (0, .int 5)]) hx hb dX10_wholeOf_14 rfl hl (by decide) rfl (fun ls hl => ?_)
  refine lv_iinc (v := 1) (lv' := [(3, .int 1), (1, .long 10), (0, .int 5)]) hx hb dX10_wholeOf_15 hl (k := 1) rfl (by decide +kernel) (by decide) rfl (fun ls hl => ?_)
  refine lv_goto (tgt := 4) hx hb dX10_wholeOf_18 (by decide) ?_
  refine lv_iload_n hx hb dX10_wholeOf_4 rfl (lv_at hl 0 rfl) ?_
  refine lv_iload_n hx hb dX10_wholeOf_5 rfl (lv_at hl 2 rfl) ?_
  refine lv_icmp_ge (tgt := 21) hx hb dX10_wholeOf_6 (by decide) (fun c_2 => absurd c_2 (by decide)) (fun _ => ?_)
  refine lv_lload_n hx hb dX10_wholeOf_9 rfl (lv_at hl 1 rfl) ?_
  refine lv_ldc2 (v := 10) hx hb hown (hg _ q_7_102) dX10_wholeOf_10 ?_
  refine lv_lmul hx hb dX10_wholeOf_13 ?_
  refine tpl (y := 100) (by decide +kernel) ?_
  refine lv_lstore_n (lv' := [(1, .long 100), (3, .int 1), (0, .int 5)]) hx hb dX10_wholeOf_14 rfl hl (by decide) rfl (fun ls hl => ?_)
  refine lv_iinc (v := 2) (lv' := [(3, .int 2), (1, .long 100), (0, .int 5)]) hx hb dX10_wholeOf_15 hl (k := 1) rfl (by decide +kernel) (by decide) rfl (fun ls hl => ?_)
  refine lv_goto (tgt := 4) hx hb dX10_wholeOf_18 (by decide) ?_
  refine lv_iload_n hx hb dX10_wholeOf_4 rfl (lv_at hl 0 rfl) ?_
  refine lv_iload_n hx hb dX10_wholeOf_5 rfl (lv_at hl 2 rfl) ?_
  refine lv_icmp_ge (tgt := 21) hx hb dX10_wholeOf_6 (by decide) (fun c_3 => absurd c_3 (by decide)) (fun _ => ?_)
  refine lv_lload_n hx hb dX10_wholeOf_9 rfl (lv_at hl 1 rfl) ?_
  refine lv_ldc2 (v := 10) hx hb hown (hg _ q_7_102) dX10_wholeOf_10 ?_
  refine lv_lmul hx hb dX10_wholeOf_13 ?_
  refine tpl (y := 1000) (by decide +kernel) ?_
  refine lv_lstore_n (lv' := [(1, .long 1000), (3, .int 2), (0, .int 5)]) hx hb dX10_wholeOf_14 rfl hl (by decide) rfl (fun ls hl => ?_)
  refine lv_iinc (v := 3) (lv' := [(3, .int 3), (1, .long 1000), (0, .int 5)]) hx hb dX10_wholeOf_15 hl (k := 1) rfl (by decide +kernel) (by decide) rfl (fun ls hl => ?_)
  refine lv_goto (tgt := 4) hx hb dX10_wholeOf_18 (by decide) ?_
  refine lv_iload_n hx hb dX10_wholeOf_4 rfl (lv_at hl 0 rfl) ?_
  refine lv_iload_n hx hb dX10_wholeOf_5 rfl (lv_at hl 2 rfl) ?_
  refine lv_icmp_ge (tgt := 21) hx hb dX10_wholeOf_6 (by decide) (fun c_4 => absurd c_4 (by decide)) (fun _ => ?_)
  refine lv_lload_n hx hb dX10_wholeOf_9 rfl (lv_at hl 1 rfl) ?_
  refine lv_ldc2 (v := 10) hx hb hown (hg _ q_7_102) dX10_wholeOf_10 ?_
  refine lv_lmul hx hb dX10_wholeOf_13 ?_
  refine tpl (y := 10000) (by decide +kernel) ?_
  refine lv_lstore_n (lv' := [(1, .long 10000), (3, .int 3), (0, .int 5)]) hx hb dX10_wholeOf_14 rfl hl (by decide) rfl (fun ls hl => ?_)
  refine lv_iinc (v := 4) (lv' := [(3, .int 4), (1, .long 10000), (0, .int 5)]) hx hb dX10_wholeOf_15 hl (k := 1) rfl (by decide +kernel) (by decide) rfl (fun ls hl => ?_)
  refine lv_goto (tgt := 4) hx hb dX10_wholeOf_18 (by decide) ?_
  refine lv_iload_n hx hb dX10_wholeOf_4 rfl (lv_at hl 0 rfl) ?_
  refine lv_iload_n hx hb dX10_wholeOf_5 rfl (lv_at hl 2 rfl) ?_
  refine lv_icmp_ge (tgt := 21) hx hb dX10_wholeOf_6 (by decide) (fun c_5 => absurd c_5 (by decide)) (fun _ => ?_)
  refine lv_lload_n hx hb dX10_wholeOf_9 rfl (lv_at hl 1 rfl) ?_
  refine lv_ldc2 (v := 10) hx hb hown (hg _ q_7_102) dX10_wholeOf_10 ?_
  refine lv_lmul hx hb dX10_wholeOf_13 ?_
  refine tpl (y := 100000) (by decide +kernel) ?_
  refine lv_lstore_n (lv' := [(1, .long 100000), (3, .int 4), (0, .int 5)]) hx hb dX10_wholeOf_14 rfl hl (by decide) rfl (fun ls hl => ?_)
  refine lv_iinc (v := 5) (lv' := [(3, .int 5), (1, .long 100000), (0, .int 5)]) hx hb dX10_wholeOf_15 hl (k := 1) rfl (by decide +kernel) (by decide) rfl (fun ls hl => ?_)
  refine lv_goto (tgt := 4) hx hb dX10_wholeOf_18 (by decide) ?_
  refine lv_iload_n hx hb dX10_wholeOf_4 rfl (lv_at hl 0 rfl) ?_
  refine lv_iload_n hx hb dX10_wholeOf_5 rfl (lv_at hl 2 rfl) ?_
  refine lv_icmp_ge (tgt := 21) hx hb dX10_wholeOf_6 (by decide) (fun _ => ?_) (fun c_6 => absurd c_6 (by decide))
  refine lv_lload_n hx hb dX10_wholeOf_21 rfl (lv_at hl 1 rfl) ?_
  exact fiL hx hb hr hlk hK hP hD hS dX10_wholeOf_22 (Nat.le_of_ble_eq_true rfl) (Nat.le_of_ble_eq_true rfl) (⟨rfl, rfl⟩)
set_option maxHeartbeats 4000000 in
set_option maxRecDepth 100000 in
theorem c_X10_common_10 (l : Launch) (V : GV) : Ct l V yX10_common (.code yX10_common cX10_common 4 (some .long)) 1 [.long 100000, .long 0] [] 0 0 (QL V (fun (r : Int64) (w : va_W) => (r = 100000 ∧ w = []))) := by
  refine Ct.of (by decide) (Nat.le_of_ble_eq_true rfl) (fun p e s m below meth c A ls hx hb hr hml hown hlk hnm hg hP hK hD hE hA hS hl => ?_)
  have hl : lv_has ls 4 [(0, .long 100000), (2, .long 0)] := hl
  refine lv_lload_n hx hb dX10_common_0 rfl (lv_at hl 1 rfl) ?_
  refine lv_lconst (v := 0) hx hb dX10_common_1 (by decide) ?_
  refine W.lcmp hx hb dX10_common_2 ?_
  refine lv_if_ne (tgt := 10) hx hb dX10_common_3 (by decide) (fun c_1 => absurd (fun z => c_1 ((lg_cmp_eq _ _).mpr z)) (by decide)) (fun _ => ?_)
  refine lv_lload_n hx hb dX10_common_6 rfl (lv_at hl 0 rfl) ?_
  refine lv_goto (tgt := 17) hx hb dX10_common_7 (by decide) ?_
  exact fiL hx hb hr hlk hK hP hD hS dX10_common_17 (Nat.le_of_ble_eq_true rfl) (Nat.le_of_ble_eq_true rfl) (⟨rfl, rfl⟩)
set_option maxHeartbeats 4000000 in
set_option maxRecDepth 100000 in
theorem c_X10_common_11 (l : Launch) (V : GV) : Ct l V yX10_common (.code yX10_common cX10_common 4 (some .long)) 2 [.long 0, .long 100000] [] 0 0 (QL V (fun (r : Int64) (w : va_W) => (r = 100000 ∧ w = []))) := by
  refine Ct.of (by decide) (Nat.le_of_ble_eq_true rfl) (fun p e s m below meth c A ls hx hb hr hml hown hlk hnm hg hP hK hD hE hA hS hl => ?_)
  have hl : lv_has ls 4 [(0, .long 0), (2, .long 100000)] := hl
  refine lv_lload_n hx hb dX10_common_0 rfl (lv_at hl 1 rfl) ?_
  refine lv_lconst (v := 0) hx hb dX10_common_1 (by decide) ?_
  refine W.lcmp hx hb dX10_common_2 ?_
  refine lv_if_ne (tgt := 10) hx hb dX10_common_3 (by decide) (fun _ => ?_) (fun c_1 => absurd ((lg_cmp_eq _ _).mp c_1) (by decide))
  refine lv_lload_n hx hb dX10_common_10 rfl (lv_at hl 1 rfl) ?_
  refine lv_lload_n hx hb dX10_common_11 rfl (lv_at hl 0 rfl) ?_
  refine lv_lload_n hx hb dX10_common_12 rfl (lv_at hl 1 rfl) ?_
  refine lv_lrem hx hb dX10_common_13 (by decide) ?_
  refine tpl (y := 0) (by decide +kernel) ?_
  refine jnL (wr := []) (rnS (rest := []) ⟨hx, hb, hml, hown, hg⟩ (c_X10_common_10 l V) mt_X10_common q_8_124 ⟨Nat.le_of_ble_eq_true rfl, Nat.le_of_ble_eq_true rfl⟩ hK hP hD hS hA hE [] rfl rfl rfl hl.1 rfl (Nat.le_of_ble_eq_true rfl) dX10_common_14 ⟨Nat.le_of_ble_eq_true rfl, Nat.le_of_ble_eq_true rfl⟩) hP hD hS hA [] [] rfl rfl rfl (by decide) (fun r_2 w H locs hw hP hD hS => ?_)
  obtain ⟨rfl, rfl⟩ := hw
  have hP : va_P V.1 vwCl [] H := hP
  have hD : va_D A [] := hD
  exact fiL hx hb hr hlk hK hP hD hS dX10_common_17 (Nat.le_of_ble_eq_true rfl) (Nat.le_of_ble_eq_true rfl) (⟨rfl, rfl⟩)
set_option maxHeartbeats 4000000 in
set_option maxRecDepth 100000 in
theorem c_X10_part_5 (l : Launch) (V : GV) (p0 : Int32) : Ct l V yX10_part (.code yX10_part cX10_part 5 (some .int)) 3 [.long 0, .long 100000, .int p0] [] 0 0 (QI V (fun (r : Int32) (w : va_W) => ((¬ p0 = 0) ∧ r = 1 ∧ w = []) ∨ (p0 = 0 ∧ r = 0 ∧ w = []))) := by
  refine Ct.of (by decide) (Nat.le_of_ble_eq_true rfl) (fun p e s m below meth c A ls hx hb hr hml hown hlk hnm hg hP hK hD hE hA hS hl => ?_)
  have hl : lv_has ls 5 [(0, .long 0), (2, .long 100000), (4, .int p0)] := hl
  refine lv_iload hx hb dX10_part_0 (lv_at hl 2 rfl) ?_
  refine lv_if_ne (tgt := 9) hx hb dX10_part_2 (by decide) (fun c_1 => ?_) (fun c_1 => ?_)
  · refine lv_lload_n hx hb dX10_part_9 rfl (lv_at hl 1 rfl) ?_
    refine lv_lload_n hx hb dX10_part_10 rfl (lv_at hl 0 rfl) ?_
    refine lv_lload_n hx hb dX10_part_11 rfl (lv_at hl 1 rfl) ?_
    refine jnL (wr := []) (rnS (rest := [.long 100000]) ⟨hx, hb, hml, hown, hg⟩ (c_X10_common_11 l V) mt_X10_common q_8_124 ⟨Nat.le_of_ble_eq_true rfl, Nat.le_of_ble_eq_true rfl⟩ hK hP hD hS hA hE [] rfl rfl rfl hl.1 rfl (Nat.le_of_ble_eq_true rfl) dX10_part_12 ⟨Nat.le_of_ble_eq_true rfl, Nat.le_of_ble_eq_true rfl⟩) hP hD hS hA [] [] rfl rfl rfl (by decide) (fun r_2 w H locs hw hP hD hS => ?_)
    obtain ⟨rfl, rfl⟩ := hw
    have hP : va_P V.1 vwCl [] H := hP
    have hD : va_D A [] := hD
    refine lv_ldiv hx hb dX10_part_15 (by decide) ?_
    refine tpl (y := 1) (by decide +kernel) ?_
    refine lv_l2i (v := 1) hx hb dX10_part_16 (by decide +kernel) ?_
    exact fiI hx hb hr hlk hK hP hD hS dX10_part_17 (Nat.le_of_ble_eq_true rfl) (Nat.le_of_ble_eq_true rfl) (Or.inl ⟨c_1, rfl, rfl⟩)
  · refine lv_lload_n hx hb dX10_part_5 rfl (lv_at hl 0 rfl) ?_
    refine lv_goto (tgt := 10) hx hb dX10_part_6 (by decide) ?_
    refine lv_lload_n hx hb dX10_part_10 rfl (lv_at hl 0 rfl) ?_
    refine lv_lload_n hx hb dX10_part_11 rfl (lv_at hl 1 rfl) ?_
    refine jnL (wr := []) (rnS (rest := [.long 0]) ⟨hx, hb, hml, hown, hg⟩ (c_X10_common_11 l V) mt_X10_common q_8_124 ⟨Nat.le_of_ble_eq_true rfl, Nat.le_of_ble_eq_true rfl⟩ hK hP hD hS hA hE [] rfl rfl rfl hl.1 rfl (Nat.le_of_ble_eq_true rfl) dX10_part_12 ⟨Nat.le_of_ble_eq_true rfl, Nat.le_of_ble_eq_true rfl⟩) hP hD hS hA [] [] rfl rfl rfl (by decide) (fun r_3 w H locs hw hP hD hS => ?_)
    obtain ⟨rfl, rfl⟩ := hw
    have hP : va_P V.1 vwCl [] H := hP
    have hD : va_D A [] := hD
    refine lv_ldiv hx hb dX10_part_15 (by decide) ?_
    refine tpl (y := 0) (by decide +kernel) ?_
    refine lv_l2i (v := 0) hx hb dX10_part_16 (by decide +kernel) ?_
    exact fiI hx hb hr hlk hK hP hD hS dX10_part_17 (Nat.le_of_ble_eq_true rfl) (Nat.le_of_ble_eq_true rfl) (Or.inr (⟨c_1, rfl, rfl⟩))
set_option maxHeartbeats 4000000 in
set_option maxRecDepth 100000 in
theorem c_X10_isThen_5 (l : Launch) (V : GV) (z : Nat → Nat) : Ct l V yX10_isThen (.code yX10_isThen cX10_isThen 2 none) 1 [.ref (z 0)] [(z 30, aJ V 10000 (vp_updL (fun _ => 0) 0 100000)), (z 31, aJ V 10000 (vp_updL (fun _ => 0) 0 1000000)), (z 0, .inr (10, mo z 0 0 0 0 0 0 0 0 0 0 (-1) 0 0 0 0 1))] 0 0 (QV V (fun (w : va_W) => (w = [(z 30, aJ V 10000 (vp_updL (fun _ => 0) 0 1000000)), (z 31, aJ V 10000 (fun _ => 0)), (z 0, .inr (10, mo z 0 0 0 0 0 0 0 0 0 0 (-1) 0 0 0 0 1))]))) := by
  refine Ct.of (by decide) (Nat.le_of_ble_eq_true rfl) (fun p e s m below meth c A ls hx hb hr hml hown hlk hnm hg hP hK hD hE hA hS hl => ?_)
  have hl : lv_has ls 2 [(0, .ref (z 0))] := hl
  refine lv_iconst (v := 0) hx hb dX10_isThen_0 (by decide) ?_
  refine lv_istore_n (lv' := [(1, .int 0), (0, .ref (z 0))]) hx hb dX10_isThen_1 rfl hl (by decide) rfl (fun ls hl => ?_)
  refine lv_iload_n hx hb dX10_isThen_2 rfl (lv_at hl 0 rfl) ?_
  refine lv_sipush (v := 10000) hx hb dX10_isThen_3 (by decide) ?_
  refine lv_icmp_ge (tgt := 34) hx hb dX10_isThen_6 (by decide) (fun c_1 => absurd c_1 (by decide)) (fun _ => ?_)
  refine lv_aload_n hx hb dX10_isThen_9 rfl (lv_at hl 1 rfl) ?_
  refine va_get (ci := 10) (v := .ref (z 30)) (C := RX10) (T := TX10) (N := 40) hx hb hg inX10 hown hK hP 2 rfl rfl 30 (by decide) (hg _ q_6_14) (fun _ h9 => h9) rfl dX10_isThen_10 ?_
  refine lv_iload_n hx hb dX10_isThen_13 rfl (lv_at hl 0 rfl) ?_
  refine lv_aload_n hx hb dX10_isThen_14 rfl (lv_at hl 1 rfl) ?_
  refine va_get (ci := 10) (v := .ref (z 31)) (C := RX10) (T := TX10) (N := 40) hx hb hg inX10 hown hK hP 2 rfl rfl 31 (by decide) (hg _ q_6_15) (fun _ h9 => h9) rfl dX10_isThen_15 ?_
  refine lv_iload_n hx hb dX10_isThen_18 rfl (lv_at hl 0 rfl) ?_
  refine va_lald hx hb hK hP 1 2 rfl rfl (vin (by decide +kernel)) dX10_isThen_19 ?_
  refine tpl (y := 1000000) (rfl) ?_
  refine va_last hx hb hK hP hD hS 0 2 rfl rfl (vin (by decide +kernel)) dX10_isThen_20 (fun H locs hP hD hS => ?_)
  have hP : va_P V.1 vwCl [(z 30, aJ V 10000 (vp_updL (vp_updL (fun _ => 0) 0 100000) 0 1000000)), (z 31, aJ V 10000 (vp_updL (fun _ => 0) 0 1000000)), (z 0, .inr (10, mo z 0 0 0 0 0 0 0 0 0 0 (-1) 0 0 0 0 1))] H := hP
  have hD : va_D A [(z 30, aJ V 10000 (vp_updL (vp_updL (fun _ => 0) 0 100000) 0 1000000)), (z 31, aJ V 10000 (vp_updL (fun _ => 0) 0 1000000)), (z 0, .inr (10, mo z 0 0 0 0 0 0 0 0 0 0 (-1) 0 0 0 0 1))] := hD
  have hP : va_P V.1 vwCl [(z 30, aJ V 10000 (vp_updL (fun _ => 0) 0 1000000)), (z 31, aJ V 10000 (vp_updL (fun _ => 0) 0 1000000)), (z 0, .inr (10, mo z 0 0 0 0 0 0 0 0 0 0 (-1) 0 0 0 0 1))] H := by rw [updLup] at hP; exact hP
  have hD : va_D A [(z 30, aJ V 10000 (vp_updL (fun _ => 0) 0 1000000)), (z 31, aJ V 10000 (vp_updL (fun _ => 0) 0 1000000)), (z 0, .inr (10, mo z 0 0 0 0 0 0 0 0 0 0 (-1) 0 0 0 0 1))] := by rw [updLup] at hD; exact hD
  refine lv_aload_n hx hb dX10_isThen_21 rfl (lv_at hl 1 rfl) ?_
  refine va_get (ci := 10) (v := .ref (z 31)) (C := RX10) (T := TX10) (N := 40) hx hb hg inX10 hown hK hP 2 rfl rfl 31 (by decide) (hg _ q_6_15) (fun _ h9 => h9) rfl dX10_isThen_22 ?_
  refine lv_iload_n hx hb dX10_isThen_25 rfl (lv_at hl 0 rfl) ?_
  refine lv_lconst (v := 0) hx hb dX10_isThen_26 (by decide) ?_
  refine va_last hx hb hK hP hD hS 1 2 rfl rfl (vin (by decide +kernel)) dX10_isThen_27 (fun H locs hP hD hS => ?_)
  have hP : va_P V.1 vwCl [(z 30, aJ V 10000 (vp_updL (fun _ => 0) 0 1000000)), (z 31, aJ V 10000 (vp_updL (vp_updL (fun _ => 0) 0 1000000) 0 0)), (z 0, .inr (10, mo z 0 0 0 0 0 0 0 0 0 0 (-1) 0 0 0 0 1))] H := hP
  have hD : va_D A [(z 30, aJ V 10000 (vp_updL (fun _ => 0) 0 1000000)), (z 31, aJ V 10000 (vp_updL (vp_updL (fun _ => 0) 0 1000000) 0 0)), (z 0, .inr (10, mo z 0 0 0 0 0 0 0 0 0 0 (-1) 0 0 0 0 1))] := hD
  have hP : va_P V.1 vwCl [(z 30, aJ V 10000 (vp_updL (fun _ => 0) 0 1000000)), (z 31, aJ V 10000 (fun _ => 0)), (z 0, .inr (10, mo z 0 0 0 0 0 0 0 0 0 0 (-1) 0 0 0 0 1))] H := by rw [updLup, updL0] at hP; exact hP
  have hD : va_D A [(z 30, aJ V 10000 (vp_updL (fun _ => 0) 0 1000000)), (z 31, aJ V 10000 (fun _ => 0)), (z 0, .inr (10, mo z 0 0 0 0 0 0 0 0 0 0 (-1) 0 0 0 0 1))] := by rw [updLup, updL0] at hD; exact hD
  refine lv_iinc (v := 1) (lv' := [(1, .int 1), (0, .ref (z 0))]) hx hb dX10_isThen_28 hl (k := 0) rfl (by decide +kernel) (by decide) rfl (fun ls hl => ?_)
  refine lv_goto (tgt := 2) hx hb dX10_isThen_31 (by decide) ?_
  refine loopW 10000 (X := fun (i_2 : Nat) (H : Heap) (locs : List Loc) (ls : Array Slot) => 1 ≤ i_2 ∧ va_P V.1 vwCl [(z 30, aJ V 10000 (vp_updL (fun _ => 0) 0 1000000)), (z 31, aJ V 10000 (fun _ => 0)), (z 0, .inr (10, mo z 0 0 0 0 0 0 0 0 0 0 (-1) 0 0 0 0 1))] H ∧ va_D A [(z 30, aJ V 10000 (vp_updL (fun _ => 0) 0 1000000)), (z 31, aJ V 10000 (fun _ => 0)), (z 0, .inr (10, mo z 0 0 0 0 0 0 0 0 0 0 (-1) 0 0 0 0 1))] ∧ va_S A s.heap H locs ∧ lv_has ls 2 [(1, .int (nI i_2)), (0, .ref (z 0))]) (g := fun ls => F0 m 2 ls []) (fun i_2 H locs ls hi_i_2 hX ih_i_2 => ?_) 1 (Nat.le_of_ble_eq_true rfl) ⟨Nat.le_refl _, hP, hD, hS, lv_sub hl [0, 1] rfl⟩
  obtain ⟨hlo_i_2, hP, hD, hS, hl⟩ := hX
  refine lv_iload_n hx hb dX10_isThen_2 rfl (lv_at hl 0 rfl) ?_
  refine lv_sipush (v := 10000) hx hb dX10_isThen_3 (by decide) ?_
  refine lv_icmp_ge (tgt := 34) hx hb dX10_isThen_6 (by decide) (fun c_3 => ?_) (fun c_3 => ?_)
  · have e_4 : i_2 = 10000 := by have q9 := (nI_leI (a := 10000) (b := i_2) (by omega) (by omega)).mp c_3; omega
    rw [e_4] at hl
    have hl : lv_has ls 2 [(1, .int 10000), (0, .ref (z 0))] := hl
    exact fiV hx hb hr hlk hK hP hD hS dX10_isThen_34 (Nat.le_of_ble_eq_true rfl) (Nat.le_of_ble_eq_true rfl) (rfl)
  · have e_4 : i_2 < 10000 := by rcases Nat.lt_or_ge i_2 10000 with q9 | q9; exact q9; exact absurd (nI_le q9 (by omega)) c_3
    refine lv_aload_n hx hb dX10_isThen_9 rfl (lv_at hl 1 rfl) ?_
    refine va_get (ci := 10) (v := .ref (z 30)) (C := RX10) (T := TX10) (N := 40) hx hb hg inX10 hown hK hP 2 rfl rfl 30 (by decide) (hg _ q_6_14) (fun _ h9 => h9) rfl dX10_isThen_10 ?_
    refine lv_iload_n hx hb dX10_isThen_13 rfl (lv_at hl 0 rfl) ?_
    refine lv_aload_n hx hb dX10_isThen_14 rfl (lv_at hl 1 rfl) ?_
    refine va_get (ci := 10) (v := .ref (z 31)) (C := RX10) (T := TX10) (N := 40) hx hb hg inX10 hown hK hP 2 rfl rfl 31 (by decide) (hg _ q_6_15) (fun _ h9 => h9) rfl dX10_isThen_15 ?_
    refine lv_iload_n hx hb dX10_isThen_18 rfl (lv_at hl 0 rfl) ?_
    refine va_lald hx hb hK hP 1 2 rfl rfl (vp_in_nI (by omega) (by decide)) dX10_isThen_19 ?_
    refine tpl (y := 0) rfl ?_
    refine va_last hx hb hK hP hD hS 0 2 rfl rfl (vp_in_nI (by omega) (by decide)) dX10_isThen_20 (fun H locs hP hD hS => ?_)
    have hP : va_P V.1 vwCl [(z 30, aJ V 10000 (vp_updL (vp_updL (fun _ => 0) 0 1000000) (nI i_2).toNatClampNeg 0)), (z 31, aJ V 10000 (fun _ => 0)), (z 0, .inr (10, mo z 0 0 0 0 0 0 0 0 0 0 (-1) 0 0 0 0 1))] H := hP
    have hD : va_D A [(z 30, aJ V 10000 (vp_updL (vp_updL (fun _ => 0) 0 1000000) (nI i_2).toNatClampNeg 0)), (z 31, aJ V 10000 (fun _ => 0)), (z 0, .inr (10, mo z 0 0 0 0 0 0 0 0 0 0 (-1) 0 0 0 0 1))] := hD
    have hP : va_P V.1 vwCl [(z 30, aJ V 10000 (vp_updL (fun _ => 0) 0 1000000)), (z 31, aJ V 10000 (fun _ => 0)), (z 0, .inr (10, mo z 0 0 0 0 0 0 0 0 0 0 (-1) 0 0 0 0 1))] H := by rw [updLid (k := (nI i_2).toNatClampNeg) (v := 0) (by rw [nI_clamp (by omega)]; exact if_neg (by omega))] at hP; exact hP
    have hD : va_D A [(z 30, aJ V 10000 (vp_updL (fun _ => 0) 0 1000000)), (z 31, aJ V 10000 (fun _ => 0)), (z 0, .inr (10, mo z 0 0 0 0 0 0 0 0 0 0 (-1) 0 0 0 0 1))] := by rw [updLid (k := (nI i_2).toNatClampNeg) (v := 0) (by rw [nI_clamp (by omega)]; exact if_neg (by omega))] at hD; exact hD
    refine lv_aload_n hx hb dX10_isThen_21 rfl (lv_at hl 1 rfl) ?_
    refine va_get (ci := 10) (v := .ref (z 31)) (C := RX10) (T := TX10) (N := 40) hx hb hg inX10 hown hK hP 2 rfl rfl 31 (by decide) (hg _ q_6_15) (fun _ h9 => h9) rfl dX10_isThen_22 ?_
    refine lv_iload_n hx hb dX10_isThen_25 rfl (lv_at hl 0 rfl) ?_
    refine lv_lconst (v := 0) hx hb dX10_isThen_26 (by decide) ?_
    refine va_last hx hb hK hP hD hS 1 2 rfl rfl (vp_in_nI (by omega) (by decide)) dX10_isThen_27 (fun H locs hP hD hS => ?_)
    have hP : va_P V.1 vwCl [(z 30, aJ V 10000 (vp_updL (fun _ => 0) 0 1000000)), (z 31, aJ V 10000 (vp_updL (fun _ => 0) (nI i_2).toNatClampNeg 0)), (z 0, .inr (10, mo z 0 0 0 0 0 0 0 0 0 0 (-1) 0 0 0 0 1))] H := hP
    have hD : va_D A [(z 30, aJ V 10000 (vp_updL (fun _ => 0) 0 1000000)), (z 31, aJ V 10000 (vp_updL (fun _ => 0) (nI i_2).toNatClampNeg 0)), (z 0, .inr (10, mo z 0 0 0 0 0 0 0 0 0 0 (-1) 0 0 0 0 1))] := hD
    have hP : va_P V.1 vwCl [(z 30, aJ V 10000 (vp_updL (fun _ => 0) 0 1000000)), (z 31, aJ V 10000 (fun _ => 0)), (z 0, .inr (10, mo z 0 0 0 0 0 0 0 0 0 0 (-1) 0 0 0 0 1))] H := by rw [updL0] at hP; exact hP
    have hD : va_D A [(z 30, aJ V 10000 (vp_updL (fun _ => 0) 0 1000000)), (z 31, aJ V 10000 (fun _ => 0)), (z 0, .inr (10, mo z 0 0 0 0 0 0 0 0 0 0 (-1) 0 0 0 0 1))] := by rw [updL0] at hD; exact hD
    refine lv_iinc (v := nI (i_2 + 1)) (lv' := [(1, .int (nI (i_2 + 1))), (0, .ref (z 0))]) hx hb dX10_isThen_28 hl (k := 0) rfl (nI_add i_2 1) (by decide) rfl (fun ls hl => ?_)
    refine lv_goto (tgt := 2) hx hb dX10_isThen_31 (by decide) ?_
    exact ih_i_2 e_4 _ _ _ ⟨(by omega), hP, hD, hS, lv_sub hl [0, 1] rfl⟩
set_option maxHeartbeats 4000000 in
set_option maxRecDepth 100000 in
theorem c_X10_goesMany_5 (l : Launch) (V : GV) (z : Nat → Nat) : Ct l V yX10_goesMany (.code yX10_goesMany cX10_goesMany 8 none) 2 [.ref (z 0), .long 10, .long 1] [(z 24, aI V 10000 (fun _ => 0)), (z 25, aI V 40000 (upd (upd (upd (fun _ => 0) 1 (-1)) 2 (-1)) 3 (-1))), (z 30, aJ V 10000 (vp_updL (fun _ => 0) 0 100000)), (z 31, aJ V 10000 (fun _ => 0)), (z 0, .inr (10, mo z 0 0 0 0 0 0 0 0 0 0 (-1) 0 0 0 0 1))] 0 0 (QV V (fun (w : va_W) => (w = [(z 24, aI V 10000 (fun _ => 0)), (z 25, aI V 40000 (upd (upd (upd (fun _ => 0) 1 (-1)) 2 (-1)) 3 (-1))), (z 30, aJ V 10000 (vp_updL (fun _ => 0) 0 1000000)), (z 31, aJ V 10000 (fun _ => 0)), (z 0, .inr (10, mo z 0 0 0 0 0 0 0 0 0 0 (-1) 0 0 0 0 1))]))) := by
  refine Ct.of (by decide) (Nat.le_of_ble_eq_true rfl) (fun p e s m below meth c A ls hx hb hr hml hown hlk hnm hg hP hK hD hE hA hS hl => ?_)
  have hl : lv_has ls 8 [(0, .ref (z 0)), (1, .long 10), (3, .long 1)] := hl
  refine lv_iconst (v := 0) hx hb dX10_goesMany_0 (by decide) ?_
  refine lv_istore (lv' := [(5, .int 0), (0, .ref (z 0)), (1, .long 10), (3, .long 1)]) hx hb dX10_goesMany_1 hl (by decide) rfl (fun ls hl => ?_)
  refine lv_iload hx hb dX10_goesMany_3 (lv_at hl 0 rfl) ?_
  refine lv_aload_n hx hb dX10_goesMany_5 rfl (lv_at hl 1 rfl) ?_
  refine va_get (ci := 10) (v := .int 1) (C := RX10) (T := TX10) (N := 40) hx hb hg inX10 hown hK hP 4 rfl rfl 29 (by decide) (hg _ q_6_13) (fun _ h9 => h9) rfl dX10_goesMany_6 ?_
  refine lv_icmp_ge (tgt := 108) hx hb dX10_goesMany_9 (by decide) (fun c_1 => absurd c_1 (by decide)) (fun _ => ?_)
  refine lv_aload_n hx hb dX10_goesMany_12 rfl (lv_at hl 1 rfl) ?_
  refine va_get (ci := 10) (v := .ref (z 24)) (C := RX10) (T := TX10) (N := 40) hx hb hg inX10 hown hK hP 4 rfl rfl 24 (by decide) (hg _ q_6_8) (fun _ h9 => h9) rfl dX10_goesMany_13 ?_
  refine lv_iload hx hb dX10_goesMany_16 (lv_at hl 0 rfl) ?_
  refine va_iald hx hb hK hP 0 0 rfl rfl (vin (by decide +kernel)) dX10_goesMany_18 ?_
  refine tpi (y := 0) (rfl) ?_
  refine lv_istore (lv' := [(6, .int 0), (5, .int 0), (0, .ref (z 0)), (1, .long 10), (3, .long 1)]) hx hb dX10_goesMany_19 hl (by decide) rfl (fun ls hl => ?_)
  refine lv_iconst (v := 0) hx hb dX10_goesMany_21 (by decide) ?_
  refine lv_istore (lv' := [(7, .int 0), (6, .int 0), (5, .int 0), (0, .ref (z 0)), (1, .long 10), (3, .long 1)]) hx hb dX10_goesMany_22 hl (by decide) rfl (fun ls hl => ?_)
  refine lv_iload hx hb dX10_goesMany_24 (lv_at hl 0 rfl) ?_
  refine lv_iconst (v := 4) hx hb dX10_goesMany_26 (by decide) ?_
  refine lv_icmp_ge (tgt := 102) hx hb dX10_goesMany_27 (by decide) (fun c_2 => absurd c_2 (by decide)) (fun _ => ?_)
  refine lv_aload_n hx hb dX10_goesMany_30 rfl (lv_at hl 3 rfl) ?_
  refine va_get (ci := 10) (v := .ref (z 30)) (C := RX10) (T := TX10) (N := 40) hx hb hg inX10 hown hK hP 4 rfl rfl 30 (by decide) (hg _ q_6_14) (fun _ h9 => h9) rfl dX10_goesMany_31 ?_
  refine lv_iload hx hb dX10_goesMany_34 (lv_at hl 1 rfl) ?_
  refine va_lald hx hb hK hP 2 2 rfl rfl (vin (by decide +kernel)) dX10_goesMany_36 ?_
  refine tpl (y := 100000) (rfl) ?_
  refine lv_lconst (v := 0) hx hb dX10_goesMany_37 (by decide) ?_
  refine W.lcmp hx hb dX10_goesMany_38 ?_
  refine lv_if_le (tgt := 102) hx hb dX10_goesMany_39 (by decide) (fun c_3 => absurd ((lg_cmp_le _ _).mp c_3) (by decide)) (fun _ => ?_)
  refine lv_aload_n hx hb dX10_goesMany_42 rfl (lv_at hl 3 rfl) ?_
  refine va_get (ci := 10) (v := .ref (z 25)) (C := RX10) (T := TX10) (N := 40) hx hb hg inX10 hown hK hP 4 rfl rfl 25 (by decide) (hg _ q_6_9) (fun _ h9 => h9) rfl dX10_goesMany_43 ?_
  refine lv_iconst (v := 4) hx hb dX10_goesMany_46 (by decide) ?_
  refine lv_iload hx hb dX10_goesMany_47 (lv_at hl 1 rfl) ?_
  refine lv_imul hx hb dX10_goesMany_49 ?_
  refine tpi (y := 0) (by decide +kernel) ?_
  refine lv_iload hx hb dX10_goesMany_50 (lv_at hl 0 rfl) ?_
  refine lv_iadd hx hb dX10_goesMany_52 ?_
  refine tpi (y := 0) (by decide +kernel) ?_
  refine va_iald hx hb hK hP 1 0 rfl rfl (vin (by decide +kernel)) dX10_goesMany_53 ?_
  refine tpi (y := 0) (rfl) ?_
  refine lv_iconst (v := (-1)) hx hb dX10_goesMany_54 (by decide) ?_
  refine lv_icmp_eq (tgt := 96) hx hb dX10_goesMany_55 (by decide) (fun c_4 => absurd c_4 (by decide)) (fun _ => ?_)
  refine lv_aload_n hx hb dX10_goesMany_58 rfl (lv_at hl 3 rfl) ?_
  refine va_get (ci := 10) (v := .ref (z 31)) (C := RX10) (T := TX10) (N := 40) hx hb hg inX10 hown hK hP 4 rfl rfl 31 (by decide) (hg _ q_6_15) (fun _ h9 => h9) rfl dX10_goesMany_59 ?_
  refine lv_aload_n hx hb dX10_goesMany_62 rfl (lv_at hl 3 rfl) ?_
  refine va_get (ci := 10) (v := .ref (z 25)) (C := RX10) (T := TX10) (N := 40) hx hb hg inX10 hown hK hP 4 rfl rfl 25 (by decide) (hg _ q_6_9) (fun _ h9 => h9) rfl dX10_goesMany_63 ?_
  refine lv_iconst (v := 4) hx hb dX10_goesMany_66 (by decide) ?_
  refine lv_iload hx hb dX10_goesMany_67 (lv_at hl 1 rfl) ?_
  refine lv_imul hx hb dX10_goesMany_69 ?_
  refine tpi (y := 0) (by decide +kernel) ?_
  refine lv_iload hx hb dX10_goesMany_70 (lv_at hl 0 rfl) ?_
  refine lv_iadd hx hb dX10_goesMany_72 ?_
  refine tpi (y := 0) (by decide +kernel) ?_
  refine va_iald hx hb hK hP 1 0 rfl rfl (vin (by decide +kernel)) dX10_goesMany_73 ?_
  refine tpi (y := 0) (rfl) ?_
  refine lv_dup2_11 hx hb dX10_goesMany_74 rfl rfl ?_
  refine va_lald hx hb hK hP 3 2 rfl rfl (vin (by decide +kernel)) dX10_goesMany_75 ?_
  refine tpl (y := 0) (rfl) ?_
  refine lv_aload_n hx hb dX10_goesMany_76 rfl (lv_at hl 3 rfl) ?_
  refine va_get (ci := 10) (v := .ref (z 30)) (C := RX10) (T := TX10) (N := 40) hx hb hg inX10 hown hK hP 4 rfl rfl 30 (by decide) (hg _ q_6_14) (fun _ h9 => h9) rfl dX10_goesMany_77 ?_
  refine lv_iload hx hb dX10_goesMany_80 (lv_at hl 1 rfl) ?_
  refine va_lald hx hb hK hP 2 2 rfl rfl (vin (by decide +kernel)) dX10_goesMany_82 ?_
  refine tpl (y := 100000) (rfl) ?_
  refine lv_iload hx hb dX10_goesMany_83 (lv_at hl 0 rfl) ?_
  refine lv_if_ne (tgt := 92) hx hb dX10_goesMany_85 (by decide) (fun c_5 => absurd c_5 (by decide)) (fun _ => ?_)
  refine lv_lload_n hx hb dX10_goesMany_88 rfl (lv_at hl 4 rfl) ?_
  refine lv_goto (tgt := 93) hx hb dX10_goesMany_89 (by decide) ?_
  refine lv_lmul hx hb dX10_goesMany_93 ?_
  refine tpl (y := 1000000) (by decide +kernel) ?_
  refine lv_ladd hx hb dX10_goesMany_94 ?_
  refine tpl (y := 1000000) (by decide +kernel) ?_
  refine va_last hx hb hK hP hD hS 3 2 rfl rfl (vin (by decide +kernel)) dX10_goesMany_95 (fun H locs hP hD hS => ?_)
  have hP : va_P V.1 vwCl [(z 24, aI V 10000 (fun _ => 0)), (z 25, aI V 40000 (upd (upd (upd (fun _ => 0) 1 (-1)) 2 (-1)) 3 (-1))), (z 30, aJ V 10000 (vp_updL (fun _ => 0) 0 100000)), (z 31, aJ V 10000 (vp_updL (fun _ => 0) 0 1000000)), (z 0, .inr (10, mo z 0 0 0 0 0 0 0 0 0 0 (-1) 0 0 0 0 1))] H := hP
  have hD : va_D A [(z 24, aI V 10000 (fun _ => 0)), (z 25, aI V 40000 (upd (upd (upd (fun _ => 0) 1 (-1)) 2 (-1)) 3 (-1))), (z 30, aJ V 10000 (vp_updL (fun _ => 0) 0 100000)), (z 31, aJ V 10000 (vp_updL (fun _ => 0) 0 1000000)), (z 0, .inr (10, mo z 0 0 0 0 0 0 0 0 0 0 (-1) 0 0 0 0 1))] := hD
  refine lv_iinc (v := 1) (lv' := [(7, .int 1), (6, .int 0), (5, .int 0), (0, .ref (z 0)), (1, .long 10), (3, .long 1)]) hx hb dX10_goesMany_96 hl (k := 0) rfl (by decide +kernel) (by decide) rfl (fun ls hl => ?_)
  refine lv_goto (tgt := 24) hx hb dX10_goesMany_99 (by decide) ?_
  refine lv_iload hx hb dX10_goesMany_24 (lv_at hl 0 rfl) ?_
  refine lv_iconst (v := 4) hx hb dX10_goesMany_26 (by decide) ?_
  refine lv_icmp_ge (tgt := 102) hx hb dX10_goesMany_27 (by decide) (fun c_6 => absurd c_6 (by decide)) (fun _ => ?_)
  refine lv_aload_n hx hb dX10_goesMany_30 rfl (lv_at hl 3 rfl) ?_
  refine va_get (ci := 10) (v := .ref (z 30)) (C := RX10) (T := TX10) (N := 40) hx hb hg inX10 hown hK hP 4 rfl rfl 30 (by decide) (hg _ q_6_14) (fun _ h9 => h9) rfl dX10_goesMany_31 ?_
  refine lv_iload hx hb dX10_goesMany_34 (lv_at hl 1 rfl) ?_
  refine va_lald hx hb hK hP 2 2 rfl rfl (vin (by decide +kernel)) dX10_goesMany_36 ?_
  refine tpl (y := 100000) (rfl) ?_
  refine lv_lconst (v := 0) hx hb dX10_goesMany_37 (by decide) ?_
  refine W.lcmp hx hb dX10_goesMany_38 ?_
  refine lv_if_le (tgt := 102) hx hb dX10_goesMany_39 (by decide) (fun c_7 => absurd ((lg_cmp_le _ _).mp c_7) (by decide)) (fun _ => ?_)
  refine lv_aload_n hx hb dX10_goesMany_42 rfl (lv_at hl 3 rfl) ?_
  refine va_get (ci := 10) (v := .ref (z 25)) (C := RX10) (T := TX10) (N := 40) hx hb hg inX10 hown hK hP 4 rfl rfl 25 (by decide) (hg _ q_6_9) (fun _ h9 => h9) rfl dX10_goesMany_43 ?_
  refine lv_iconst (v := 4) hx hb dX10_goesMany_46 (by decide) ?_
  refine lv_iload hx hb dX10_goesMany_47 (lv_at hl 1 rfl) ?_
  refine lv_imul hx hb dX10_goesMany_49 ?_
  refine tpi (y := 0) (by decide +kernel) ?_
  refine lv_iload hx hb dX10_goesMany_50 (lv_at hl 0 rfl) ?_
  refine lv_iadd hx hb dX10_goesMany_52 ?_
  refine tpi (y := 1) (by decide +kernel) ?_
  refine va_iald hx hb hK hP 1 0 rfl rfl (vin (by decide +kernel)) dX10_goesMany_53 ?_
  refine tpi (y := (-1)) (rfl) ?_
  refine lv_iconst (v := (-1)) hx hb dX10_goesMany_54 (by decide) ?_
  refine lv_icmp_eq (tgt := 96) hx hb dX10_goesMany_55 (by decide) (fun _ => ?_) (fun c_8 => absurd c_8 (by decide))
  refine lv_iinc (v := 2) (lv' := [(7, .int 2), (6, .int 0), (5, .int 0), (0, .ref (z 0)), (1, .long 10), (3, .long 1)]) hx hb dX10_goesMany_96 hl (k := 0) rfl (by decide +kernel) (by decide) rfl (fun ls hl => ?_)
  refine lv_goto (tgt := 24) hx hb dX10_goesMany_99 (by decide) ?_
  refine lv_iload hx hb dX10_goesMany_24 (lv_at hl 0 rfl) ?_
  refine lv_iconst (v := 4) hx hb dX10_goesMany_26 (by decide) ?_
  refine lv_icmp_ge (tgt := 102) hx hb dX10_goesMany_27 (by decide) (fun c_9 => absurd c_9 (by decide)) (fun _ => ?_)
  refine lv_aload_n hx hb dX10_goesMany_30 rfl (lv_at hl 3 rfl) ?_
  refine va_get (ci := 10) (v := .ref (z 30)) (C := RX10) (T := TX10) (N := 40) hx hb hg inX10 hown hK hP 4 rfl rfl 30 (by decide) (hg _ q_6_14) (fun _ h9 => h9) rfl dX10_goesMany_31 ?_
  refine lv_iload hx hb dX10_goesMany_34 (lv_at hl 1 rfl) ?_
  refine va_lald hx hb hK hP 2 2 rfl rfl (vin (by decide +kernel)) dX10_goesMany_36 ?_
  refine tpl (y := 100000) (rfl) ?_
  refine lv_lconst (v := 0) hx hb dX10_goesMany_37 (by decide) ?_
  refine W.lcmp hx hb dX10_goesMany_38 ?_
  refine lv_if_le (tgt := 102) hx hb dX10_goesMany_39 (by decide) (fun c_10 => absurd ((lg_cmp_le _ _).mp c_10) (by decide)) (fun _ => ?_)
  refine lv_aload_n hx hb dX10_goesMany_42 rfl (lv_at hl 3 rfl) ?_
  refine va_get (ci := 10) (v := .ref (z 25)) (C := RX10) (T := TX10) (N := 40) hx hb hg inX10 hown hK hP 4 rfl rfl 25 (by decide) (hg _ q_6_9) (fun _ h9 => h9) rfl dX10_goesMany_43 ?_
  refine lv_iconst (v := 4) hx hb dX10_goesMany_46 (by decide) ?_
  refine lv_iload hx hb dX10_goesMany_47 (lv_at hl 1 rfl) ?_
  refine lv_imul hx hb dX10_goesMany_49 ?_
  refine tpi (y := 0) (by decide +kernel) ?_
  refine lv_iload hx hb dX10_goesMany_50 (lv_at hl 0 rfl) ?_
  refine lv_iadd hx hb dX10_goesMany_52 ?_
  refine tpi (y := 2) (by decide +kernel) ?_
  refine va_iald hx hb hK hP 1 0 rfl rfl (vin (by decide +kernel)) dX10_goesMany_53 ?_
  refine tpi (y := (-1)) (rfl) ?_
  refine lv_iconst (v := (-1)) hx hb dX10_goesMany_54 (by decide) ?_
  refine lv_icmp_eq (tgt := 96) hx hb dX10_goesMany_55 (by decide) (fun _ => ?_) (fun c_11 => absurd c_11 (by decide))
  refine lv_iinc (v := 3) (lv' := [(7, .int 3), (6, .int 0), (5, .int 0), (0, .ref (z 0)), (1, .long 10), (3, .long 1)]) hx hb dX10_goesMany_96 hl (k := 0) rfl (by decide +kernel) (by decide) rfl (fun ls hl => ?_)
  refine lv_goto (tgt := 24) hx hb dX10_goesMany_99 (by decide) ?_
  refine lv_iload hx hb dX10_goesMany_24 (lv_at hl 0 rfl) ?_
  refine lv_iconst (v := 4) hx hb dX10_goesMany_26 (by decide) ?_
  refine lv_icmp_ge (tgt := 102) hx hb dX10_goesMany_27 (by decide) (fun c_12 => absurd c_12 (by decide)) (fun _ => ?_)
  refine lv_aload_n hx hb dX10_goesMany_30 rfl (lv_at hl 3 rfl) ?_
  refine va_get (ci := 10) (v := .ref (z 30)) (C := RX10) (T := TX10) (N := 40) hx hb hg inX10 hown hK hP 4 rfl rfl 30 (by decide) (hg _ q_6_14) (fun _ h9 => h9) rfl dX10_goesMany_31 ?_
  refine lv_iload hx hb dX10_goesMany_34 (lv_at hl 1 rfl) ?_
  refine va_lald hx hb hK hP 2 2 rfl rfl (vin (by decide +kernel)) dX10_goesMany_36 ?_
  refine tpl (y := 100000) (rfl) ?_
  refine lv_lconst (v := 0) hx hb dX10_goesMany_37 (by decide) ?_
  refine W.lcmp hx hb dX10_goesMany_38 ?_
  refine lv_if_le (tgt := 102) hx hb dX10_goesMany_39 (by decide) (fun c_13 => absurd ((lg_cmp_le _ _).mp c_13) (by decide)) (fun _ => ?_)
  refine lv_aload_n hx hb dX10_goesMany_42 rfl (lv_at hl 3 rfl) ?_
  refine va_get (ci := 10) (v := .ref (z 25)) (C := RX10) (T := TX10) (N := 40) hx hb hg inX10 hown hK hP 4 rfl rfl 25 (by decide) (hg _ q_6_9) (fun _ h9 => h9) rfl dX10_goesMany_43 ?_
  refine lv_iconst (v := 4) hx hb dX10_goesMany_46 (by decide) ?_
  refine lv_iload hx hb dX10_goesMany_47 (lv_at hl 1 rfl) ?_
  refine lv_imul hx hb dX10_goesMany_49 ?_
  refine tpi (y := 0) (by decide +kernel) ?_
  refine lv_iload hx hb dX10_goesMany_50 (lv_at hl 0 rfl) ?_
  refine lv_iadd hx hb dX10_goesMany_52 ?_
  refine tpi (y := 3) (by decide +kernel) ?_
  refine va_iald hx hb hK hP 1 0 rfl rfl (vin (by decide +kernel)) dX10_goesMany_53 ?_
  refine tpi (y := (-1)) (rfl) ?_
  refine lv_iconst (v := (-1)) hx hb dX10_goesMany_54 (by decide) ?_
  refine lv_icmp_eq (tgt := 96) hx hb dX10_goesMany_55 (by decide) (fun _ => ?_) (fun c_14 => absurd c_14 (by decide))
  refine lv_iinc (v := 4) (lv' := [(7, .int 4), (6, .int 0), (5, .int 0), (0, .ref (z 0)), (1, .long 10), (3, .long 1)]) hx hb dX10_goesMany_96 hl (k := 0) rfl (by decide +kernel) (by decide) rfl (fun ls hl => ?_)
  refine lv_goto (tgt := 24) hx hb dX10_goesMany_99 (by decide) ?_
  refine lv_iload hx hb dX10_goesMany_24 (lv_at hl 0 rfl) ?_
  refine lv_iconst (v := 4) hx hb dX10_goesMany_26 (by decide) ?_
  refine lv_icmp_ge (tgt := 102) hx hb dX10_goesMany_27 (by decide) (fun _ => ?_) (fun c_15 => absurd c_15 (by decide))
  refine lv_iinc (v := 1) (lv' := [(5, .int 1), (7, .int 4), (6, .int 0), (0, .ref (z 0)), (1, .long 10), (3, .long 1)]) hx hb dX10_goesMany_102 hl (k := 2) rfl (by decide +kernel) (by decide) rfl (fun ls hl => ?_)
  refine lv_goto (tgt := 3) hx hb dX10_goesMany_105 (by decide) ?_
  refine lv_iload hx hb dX10_goesMany_3 (lv_at hl 0 rfl) ?_
  refine lv_aload_n hx hb dX10_goesMany_5 rfl (lv_at hl 3 rfl) ?_
  refine va_get (ci := 10) (v := .int 1) (C := RX10) (T := TX10) (N := 40) hx hb hg inX10 hown hK hP 4 rfl rfl 29 (by decide) (hg _ q_6_13) (fun _ h9 => h9) rfl dX10_goesMany_6 ?_
  refine lv_icmp_ge (tgt := 108) hx hb dX10_goesMany_9 (by decide) (fun _ => ?_) (fun c_16 => absurd c_16 (by decide))
  refine lv_aload_n hx hb dX10_goesMany_108 rfl (lv_at hl 3 rfl) ?_
  refine jnV (wr := [(z 24, aI V 10000 (fun _ => 0)), (z 25, aI V 40000 (upd (upd (upd (fun _ => 0) 1 (-1)) 2 (-1)) 3 (-1)))]) (rnV (rest := []) ⟨hx, hb, hml, hown, hg⟩ (c_X10_isThen_5 l V z) mt_X10_isThen q_7_228 ⟨Nat.le_of_ble_eq_true rfl, Nat.le_of_ble_eq_true rfl⟩ hK hP hD hS hA hE [2, 3, 4] rfl rfl 4 rfl rfl rfl rfl hl.1 rfl (Nat.le_of_ble_eq_true rfl) dX10_goesMany_109 ⟨Nat.le_of_ble_eq_true rfl, Nat.le_of_ble_eq_true rfl⟩) hP hD hS hA [2, 3, 4] [0, 1] rfl rfl rfl (by decide) (fun  w H locs hw hP hD hS => ?_)
  subst hw
  have hP : va_P V.1 vwCl [(z 24, aI V 10000 (fun _ => 0)), (z 25, aI V 40000 (upd (upd (upd (fun _ => 0) 1 (-1)) 2 (-1)) 3 (-1))), (z 30, aJ V 10000 (vp_updL (fun _ => 0) 0 1000000)), (z 31, aJ V 10000 (fun _ => 0)), (z 0, .inr (10, mo z 0 0 0 0 0 0 0 0 0 0 (-1) 0 0 0 0 1))] H := hP
  have hD : va_D A [(z 24, aI V 10000 (fun _ => 0)), (z 25, aI V 40000 (upd (upd (upd (fun _ => 0) 1 (-1)) 2 (-1)) 3 (-1))), (z 30, aJ V 10000 (vp_updL (fun _ => 0) 0 1000000)), (z 31, aJ V 10000 (fun _ => 0)), (z 0, .inr (10, mo z 0 0 0 0 0 0 0 0 0 0 (-1) 0 0 0 0 1))] := hD
  exact fiV hx hb hr hlk hK hP hD hS dX10_goesMany_112 (Nat.le_of_ble_eq_true rfl) (Nat.le_of_ble_eq_true rfl) (rfl)
set_option maxHeartbeats 4000000 in
set_option maxRecDepth 100000 in
theorem c_X10_laysLikely_6 (l : Launch) (V : GV) (z : Nat → Nat) : Ct l V yX10_laysLikely (.code yX10_laysLikely cX10_laysLikely 4 none) 4 [.ref (z 0), .int 6] [(z 0, .inr (10, mo z 0 0 0 0 0 0 0 0 0 0 (-1) 0 0 0 0 0)), (z 24, aI V 10000 (fun _ => 0)), (z 25, aI V 40000 (fun _ => 0)), (z 28, aZ V 10000 (fun _ => 0)), (z 30, aJ V 10000 (fun _ => 0)), (z 31, aJ V 10000 (fun _ => 0)), (z 1, aI V 3075 (fun _ => 0))] 0 0 (QV V (fun (w : va_W) => (w = [(z 0, .inr (10, mo z 0 0 0 0 0 0 0 0 0 0 (-1) 0 0 0 0 1)), (z 24, aI V 10000 (fun _ => 0)), (z 25, aI V 40000 (upd (upd (upd (fun _ => 0) 1 (-1)) 2 (-1)) 3 (-1))), (z 28, aZ V 10000 (upd (fun _ => 0) 0 1)), (z 30, aJ V 10000 (vp_updL (fun _ => 0) 0 1000000)), (z 31, aJ V 10000 (fun _ => 0)), (z 1, aI V 3075 (fun _ => 0))]))) := by
  refine Ct.of (by decide) (Nat.le_of_ble_eq_true rfl) (fun p e s m below meth c A ls hx hb hr hml hown hlk hnm hg hP hK hD hE hA hS hl => ?_)
  have hl : lv_has ls 4 [(0, .ref (z 0)), (1, .int 6)] := hl
  refine lv_aload_n hx hb dX10_laysLikely_0 rfl (lv_at hl 0 rfl) ?_
  refine jnV (wr := [(z 30, aJ V 10000 (fun _ => 0)), (z 31, aJ V 10000 (fun _ => 0))]) (rnV (rest := []) ⟨hx, hb, hml, hown, hg⟩ (c_X10_laysStands_0 l V z) mt_X10_laysStands q_7_194 ⟨Nat.le_of_ble_eq_true rfl, Nat.le_of_ble_eq_true rfl⟩ hK hP hD hS hA hE [0, 1, 2, 3, 6] rfl rfl 0 rfl rfl rfl rfl hl.1 rfl (Nat.le_of_ble_eq_true rfl) dX10_laysLikely_1 ⟨Nat.le_of_ble_eq_true rfl, Nat.le_of_ble_eq_true rfl⟩) hP hD hS hA [0, 1, 2, 3, 6] [4, 5] rfl rfl rfl (by decide) (fun  w H locs hw hP hD hS => ?_)
  subst hw
  have hP : va_P V.1 vwCl [(z 30, aJ V 10000 (fun _ => 0)), (z 31, aJ V 10000 (fun _ => 0)), (z 0, .inr (10, mo z 0 0 0 0 0 0 0 0 0 0 (-1) 0 0 0 0 1)), (z 24, aI V 10000 (fun _ => 0)), (z 25, aI V 40000 (upd (upd (upd (fun _ => 0) 1 (-1)) 2 (-1)) 3 (-1))), (z 28, aZ V 10000 (upd (fun _ => 0) 0 1)), (z 1, aI V 3075 (fun _ => 0))] H := hP
  have hD : va_D A [(z 30, aJ V 10000 (fun _ => 0)), (z 31, aJ V 10000 (fun _ => 0)), (z 0, .inr (10, mo z 0 0 0 0 0 0 0 0 0 0 (-1) 0 0 0 0 1)), (z 24, aI V 10000 (fun _ => 0)), (z 25, aI V 40000 (upd (upd (upd (fun _ => 0) 1 (-1)) 2 (-1)) 3 (-1))), (z 28, aZ V 10000 (upd (fun _ => 0) 0 1)), (z 1, aI V 3075 (fun _ => 0))] := hD
  refine lv_aload_n hx hb dX10_laysLikely_4 rfl (lv_at hl 0 rfl) ?_
  refine jnV (wr := [(z 24, aI V 10000 (fun _ => 0)), (z 25, aI V 40000 (upd (upd (upd (fun _ => 0) 1 (-1)) 2 (-1)) 3 (-1))), (z 28, aZ V 10000 (upd (fun _ => 0) 0 1))]) (rnV (rest := []) ⟨hx, hb, hml, hown, hg⟩ (c_X10_beginsMany_0 l V z) mt_X10_beginsMany q_7_220 ⟨Nat.le_of_ble_eq_true rfl, Nat.le_of_ble_eq_true rfl⟩ hK hP hD hS hA hE [0, 1, 2, 6] rfl rfl 2 rfl rfl rfl rfl hl.1 rfl (Nat.le_of_ble_eq_true rfl) dX10_laysLikely_5 ⟨Nat.le_of_ble_eq_true rfl, Nat.le_of_ble_eq_true rfl⟩) hP hD hS hA [0, 1, 2, 6] [3, 4, 5] rfl rfl rfl (by decide) (fun  w H locs hw hP hD hS => ?_)
  subst hw
  have hP : va_P V.1 vwCl [(z 24, aI V 10000 (fun _ => 0)), (z 25, aI V 40000 (upd (upd (upd (fun _ => 0) 1 (-1)) 2 (-1)) 3 (-1))), (z 28, aZ V 10000 (upd (fun _ => 0) 0 1)), (z 30, aJ V 10000 (vp_updL (fun _ => 0) 0 1)), (z 31, aJ V 10000 (fun _ => 0)), (z 0, .inr (10, mo z 0 0 0 0 0 0 0 0 0 0 (-1) 0 0 0 0 1)), (z 1, aI V 3075 (fun _ => 0))] H := hP
  have hD : va_D A [(z 24, aI V 10000 (fun _ => 0)), (z 25, aI V 40000 (upd (upd (upd (fun _ => 0) 1 (-1)) 2 (-1)) 3 (-1))), (z 28, aZ V 10000 (upd (fun _ => 0) 0 1)), (z 30, aJ V 10000 (vp_updL (fun _ => 0) 0 1)), (z 31, aJ V 10000 (fun _ => 0)), (z 0, .inr (10, mo z 0 0 0 0 0 0 0 0 0 0 (-1) 0 0 0 0 1)), (z 1, aI V 3075 (fun _ => 0))] := hD
  refine lv_aload_n hx hb dX10_laysLikely_8 rfl (lv_at hl 0 rfl) ?_
  refine va_get (ci := 10) (v := .ref (z 1)) (C := RX10) (T := TX10) (N := 40) hx hb hg inX10 hown hK hP 5 rfl rfl 1 (by decide) (hg _ q_5_225) (fun _ h9 => h9) rfl dX10_laysLikely_9 ?_
  refine lv_iconst (v := 1) hx hb dX10_laysLikely_12 (by decide) ?_
  refine va_iald hx hb hK hP 6 0 rfl rfl (vin (by decide +kernel)) dX10_laysLikely_13 ?_
  refine tpi (y := 0) (rfl) ?_
  refine lv_if_ne (tgt := 21) hx hb dX10_laysLikely_14 (by decide) (fun c_1 => absurd c_1 (by decide)) (fun _ => ?_)
  refine lv_iconst (v := 0) hx hb dX10_laysLikely_17 (by decide) ?_
  refine lv_goto (tgt := 29) hx hb dX10_laysLikely_18 (by decide) ?_
  refine lv_istore_n (lv' := [(2, .int 0), (0, .ref (z 0)), (1, .int 6)]) hx hb dX10_laysLikely_29 rfl hl (by decide) rfl (fun ls hl => ?_)
  refine lv_iconst (v := 0) hx hb dX10_laysLikely_30 (by decide) ?_
  refine lv_istore_n (lv' := [(3, .int 0), (2, .int 0), (0, .ref (z 0)), (1, .int 6)]) hx hb dX10_laysLikely_31 rfl hl (by decide) rfl (fun ls hl => ?_)
  refine lv_iload_n hx hb dX10_laysLikely_32 rfl (lv_at hl 0 rfl) ?_
  refine lv_iload_n hx hb dX10_laysLikely_33 rfl (lv_at hl 3 rfl) ?_
  refine lv_icmp_ge (tgt := 54) hx hb dX10_laysLikely_34 (by decide) (fun c_2 => absurd c_2 (by decide)) (fun _ => ?_)
  refine lv_aload_n hx hb dX10_laysLikely_37 rfl (lv_at hl 2 rfl) ?_
  refine lv_ldc2 (v := 10) hx hb hown (hg _ q_7_102) dX10_laysLikely_38 ?_
  refine lv_iload_n hx hb dX10_laysLikely_41 rfl (lv_at hl 1 rfl) ?_
  refine lv_i2l (v := 0) hx hb dX10_laysLikely_42 (by decide +kernel) ?_
  refine lv_lsub hx hb dX10_laysLikely_43 ?_
  refine tpl (y := 10) (by decide +kernel) ?_
  refine lv_lconst (v := 1) hx hb dX10_laysLikely_44 (by decide) ?_
  refine jnV (wr := [(z 28, aZ V 10000 (upd (fun _ => 0) 0 1)), (z 1, aI V 3075 (fun _ => 0))]) (rnV (rest := []) ⟨hx, hb, hml, hown, hg⟩ (c_X10_goesMany_0 l V z) mt_X10_goesMany q_7_224 ⟨Nat.le_of_ble_eq_true rfl, Nat.le_of_ble_eq_true rfl⟩ hK hP hD hS hA hE [0, 1, 3, 4, 5] rfl rfl 5 rfl rfl rfl rfl hl.1 rfl (Nat.le_of_ble_eq_true rfl) dX10_laysLikely_45 ⟨Nat.le_of_ble_eq_true rfl, Nat.le_of_ble_eq_true rfl⟩) hP hD hS hA [0, 1, 3, 4, 5] [2, 6] rfl rfl rfl (by decide) (fun  w H locs hw hP hD hS => ?_)
  subst hw
  have hP : va_P V.1 vwCl [(z 28, aZ V 10000 (upd (fun _ => 0) 0 1)), (z 1, aI V 3075 (fun _ => 0)), (z 24, aI V 10000 (fun _ => 0)), (z 25, aI V 40000 (upd (upd (upd (fun _ => 0) 1 (-1)) 2 (-1)) 3 (-1))), (z 30, aJ V 10000 (vp_updL (fun _ => 0) 0 10)), (z 31, aJ V 10000 (fun _ => 0)), (z 0, .inr (10, mo z 0 0 0 0 0 0 0 0 0 0 (-1) 0 0 0 0 1))] H := hP
  have hD : va_D A [(z 28, aZ V 10000 (upd (fun _ => 0) 0 1)), (z 1, aI V 3075 (fun _ => 0)), (z 24, aI V 10000 (fun _ => 0)), (z 25, aI V 40000 (upd (upd (upd (fun _ => 0) 1 (-1)) 2 (-1)) 3 (-1))), (z 30, aJ V 10000 (vp_updL (fun _ => 0) 0 10)), (z 31, aJ V 10000 (fun _ => 0)), (z 0, .inr (10, mo z 0 0 0 0 0 0 0 0 0 0 (-1) 0 0 0 0 1))] := hD
  refine lv_iinc (v := 1) (lv' := [(3, .int 1), (2, .int 0), (0, .ref (z 0)), (1, .int 6)]) hx hb dX10_laysLikely_48 hl (k := 0) rfl (by decide +kernel) (by decide) rfl (fun ls hl => ?_)
  refine lv_goto (tgt := 32) hx hb dX10_laysLikely_51 (by decide) ?_
  refine lv_iload_n hx hb dX10_laysLikely_32 rfl (lv_at hl 0 rfl) ?_
  refine lv_iload_n hx hb dX10_laysLikely_33 rfl (lv_at hl 3 rfl) ?_
  refine lv_icmp_ge (tgt := 54) hx hb dX10_laysLikely_34 (by decide) (fun c_3 => absurd c_3 (by decide)) (fun _ => ?_)
  refine lv_aload_n hx hb dX10_laysLikely_37 rfl (lv_at hl 2 rfl) ?_
  refine lv_ldc2 (v := 10) hx hb hown (hg _ q_7_102) dX10_laysLikely_38 ?_
  refine lv_iload_n hx hb dX10_laysLikely_41 rfl (lv_at hl 1 rfl) ?_
  refine lv_i2l (v := 0) hx hb dX10_laysLikely_42 (by decide +kernel) ?_
  refine lv_lsub hx hb dX10_laysLikely_43 ?_
  refine tpl (y := 10) (by decide +kernel) ?_
  refine lv_lconst (v := 1) hx hb dX10_laysLikely_44 (by decide) ?_
  refine jnV (wr := [(z 28, aZ V 10000 (upd (fun _ => 0) 0 1)), (z 1, aI V 3075 (fun _ => 0))]) (rnV (rest := []) ⟨hx, hb, hml, hown, hg⟩ (c_X10_goesMany_1 l V z) mt_X10_goesMany q_7_224 ⟨Nat.le_of_ble_eq_true rfl, Nat.le_of_ble_eq_true rfl⟩ hK hP hD hS hA hE [2, 3, 4, 5, 6] rfl rfl 6 rfl rfl rfl rfl hl.1 rfl (Nat.le_of_ble_eq_true rfl) dX10_laysLikely_45 ⟨Nat.le_of_ble_eq_true rfl, Nat.le_of_ble_eq_true rfl⟩) hP hD hS hA [2, 3, 4, 5, 6] [0, 1] rfl rfl rfl (by decide) (fun  w H locs hw hP hD hS => ?_)
  subst hw
  have hP : va_P V.1 vwCl [(z 28, aZ V 10000 (upd (fun _ => 0) 0 1)), (z 1, aI V 3075 (fun _ => 0)), (z 24, aI V 10000 (fun _ => 0)), (z 25, aI V 40000 (upd (upd (upd (fun _ => 0) 1 (-1)) 2 (-1)) 3 (-1))), (z 30, aJ V 10000 (vp_updL (fun _ => 0) 0 100)), (z 31, aJ V 10000 (fun _ => 0)), (z 0, .inr (10, mo z 0 0 0 0 0 0 0 0 0 0 (-1) 0 0 0 0 1))] H := hP
  have hD : va_D A [(z 28, aZ V 10000 (upd (fun _ => 0) 0 1)), (z 1, aI V 3075 (fun _ => 0)), (z 24, aI V 10000 (fun _ => 0)), (z 25, aI V 40000 (upd (upd (upd (fun _ => 0) 1 (-1)) 2 (-1)) 3 (-1))), (z 30, aJ V 10000 (vp_updL (fun _ => 0) 0 100)), (z 31, aJ V 10000 (fun _ => 0)), (z 0, .inr (10, mo z 0 0 0 0 0 0 0 0 0 0 (-1) 0 0 0 0 1))] := hD
  refine lv_iinc (v := 2) (lv' := [(3, .int 2), (2, .int 0), (0, .ref (z 0)), (1, .int 6)]) hx hb dX10_laysLikely_48 hl (k := 0) rfl (by decide +kernel) (by decide) rfl (fun ls hl => ?_)
  refine lv_goto (tgt := 32) hx hb dX10_laysLikely_51 (by decide) ?_
  refine lv_iload_n hx hb dX10_laysLikely_32 rfl (lv_at hl 0 rfl) ?_
  refine lv_iload_n hx hb dX10_laysLikely_33 rfl (lv_at hl 3 rfl) ?_
  refine lv_icmp_ge (tgt := 54) hx hb dX10_laysLikely_34 (by decide) (fun c_4 => absurd c_4 (by decide)) (fun _ => ?_)
  refine lv_aload_n hx hb dX10_laysLikely_37 rfl (lv_at hl 2 rfl) ?_
  refine lv_ldc2 (v := 10) hx hb hown (hg _ q_7_102) dX10_laysLikely_38 ?_
  refine lv_iload_n hx hb dX10_laysLikely_41 rfl (lv_at hl 1 rfl) ?_
  refine lv_i2l (v := 0) hx hb dX10_laysLikely_42 (by decide +kernel) ?_
  refine lv_lsub hx hb dX10_laysLikely_43 ?_
  refine tpl (y := 10) (by decide +kernel) ?_
  refine lv_lconst (v := 1) hx hb dX10_laysLikely_44 (by decide) ?_
  refine jnV (wr := [(z 28, aZ V 10000 (upd (fun _ => 0) 0 1)), (z 1, aI V 3075 (fun _ => 0))]) (rnV (rest := []) ⟨hx, hb, hml, hown, hg⟩ (c_X10_goesMany_2 l V z) mt_X10_goesMany q_7_224 ⟨Nat.le_of_ble_eq_true rfl, Nat.le_of_ble_eq_true rfl⟩ hK hP hD hS hA hE [2, 3, 4, 5, 6] rfl rfl 6 rfl rfl rfl rfl hl.1 rfl (Nat.le_of_ble_eq_true rfl) dX10_laysLikely_45 ⟨Nat.le_of_ble_eq_true rfl, Nat.le_of_ble_eq_true rfl⟩) hP hD hS hA [2, 3, 4, 5, 6] [0, 1] rfl rfl rfl (by decide) (fun  w H locs hw hP hD hS => ?_)
  subst hw
  have hP : va_P V.1 vwCl [(z 28, aZ V 10000 (upd (fun _ => 0) 0 1)), (z 1, aI V 3075 (fun _ => 0)), (z 24, aI V 10000 (fun _ => 0)), (z 25, aI V 40000 (upd (upd (upd (fun _ => 0) 1 (-1)) 2 (-1)) 3 (-1))), (z 30, aJ V 10000 (vp_updL (fun _ => 0) 0 1000)), (z 31, aJ V 10000 (fun _ => 0)), (z 0, .inr (10, mo z 0 0 0 0 0 0 0 0 0 0 (-1) 0 0 0 0 1))] H := hP
  have hD : va_D A [(z 28, aZ V 10000 (upd (fun _ => 0) 0 1)), (z 1, aI V 3075 (fun _ => 0)), (z 24, aI V 10000 (fun _ => 0)), (z 25, aI V 40000 (upd (upd (upd (fun _ => 0) 1 (-1)) 2 (-1)) 3 (-1))), (z 30, aJ V 10000 (vp_updL (fun _ => 0) 0 1000)), (z 31, aJ V 10000 (fun _ => 0)), (z 0, .inr (10, mo z 0 0 0 0 0 0 0 0 0 0 (-1) 0 0 0 0 1))] := hD
  refine lv_iinc (v := 3) (lv' := [(3, .int 3), (2, .int 0), (0, .ref (z 0)), (1, .int 6)]) hx hb dX10_laysLikely_48 hl (k := 0) rfl (by decide +kernel) (by decide) rfl (fun ls hl => ?_)
  refine lv_goto (tgt := 32) hx hb dX10_laysLikely_51 (by decide) ?_
  refine lv_iload_n hx hb dX10_laysLikely_32 rfl (lv_at hl 0 rfl) ?_
  refine lv_iload_n hx hb dX10_laysLikely_33 rfl (lv_at hl 3 rfl) ?_
  refine lv_icmp_ge (tgt := 54) hx hb dX10_laysLikely_34 (by decide) (fun c_5 => absurd c_5 (by decide)) (fun _ => ?_)
  refine lv_aload_n hx hb dX10_laysLikely_37 rfl (lv_at hl 2 rfl) ?_
  refine lv_ldc2 (v := 10) hx hb hown (hg _ q_7_102) dX10_laysLikely_38 ?_
  refine lv_iload_n hx hb dX10_laysLikely_41 rfl (lv_at hl 1 rfl) ?_
  refine lv_i2l (v := 0) hx hb dX10_laysLikely_42 (by decide +kernel) ?_
  refine lv_lsub hx hb dX10_laysLikely_43 ?_
  refine tpl (y := 10) (by decide +kernel) ?_
  refine lv_lconst (v := 1) hx hb dX10_laysLikely_44 (by decide) ?_
  refine jnV (wr := [(z 28, aZ V 10000 (upd (fun _ => 0) 0 1)), (z 1, aI V 3075 (fun _ => 0))]) (rnV (rest := []) ⟨hx, hb, hml, hown, hg⟩ (c_X10_goesMany_3 l V z) mt_X10_goesMany q_7_224 ⟨Nat.le_of_ble_eq_true rfl, Nat.le_of_ble_eq_true rfl⟩ hK hP hD hS hA hE [2, 3, 4, 5, 6] rfl rfl 6 rfl rfl rfl rfl hl.1 rfl (Nat.le_of_ble_eq_true rfl) dX10_laysLikely_45 ⟨Nat.le_of_ble_eq_true rfl, Nat.le_of_ble_eq_true rfl⟩) hP hD hS hA [2, 3, 4, 5, 6] [0, 1] rfl rfl rfl (by decide) (fun  w H locs hw hP hD hS => ?_)
  subst hw
  have hP : va_P V.1 vwCl [(z 28, aZ V 10000 (upd (fun _ => 0) 0 1)), (z 1, aI V 3075 (fun _ => 0)), (z 24, aI V 10000 (fun _ => 0)), (z 25, aI V 40000 (upd (upd (upd (fun _ => 0) 1 (-1)) 2 (-1)) 3 (-1))), (z 30, aJ V 10000 (vp_updL (fun _ => 0) 0 10000)), (z 31, aJ V 10000 (fun _ => 0)), (z 0, .inr (10, mo z 0 0 0 0 0 0 0 0 0 0 (-1) 0 0 0 0 1))] H := hP
  have hD : va_D A [(z 28, aZ V 10000 (upd (fun _ => 0) 0 1)), (z 1, aI V 3075 (fun _ => 0)), (z 24, aI V 10000 (fun _ => 0)), (z 25, aI V 40000 (upd (upd (upd (fun _ => 0) 1 (-1)) 2 (-1)) 3 (-1))), (z 30, aJ V 10000 (vp_updL (fun _ => 0) 0 10000)), (z 31, aJ V 10000 (fun _ => 0)), (z 0, .inr (10, mo z 0 0 0 0 0 0 0 0 0 0 (-1) 0 0 0 0 1))] := hD
  refine lv_iinc (v := 4) (lv' := [(3, .int 4), (2, .int 0), (0, .ref (z 0)), (1, .int 6)]) hx hb dX10_laysLikely_48 hl (k := 0) rfl (by decide +kernel) (by decide) rfl (fun ls hl => ?_)
  refine lv_goto (tgt := 32) hx hb dX10_laysLikely_51 (by decide) ?_
  refine lv_iload_n hx hb dX10_laysLikely_32 rfl (lv_at hl 0 rfl) ?_
  refine lv_iload_n hx hb dX10_laysLikely_33 rfl (lv_at hl 3 rfl) ?_
  refine lv_icmp_ge (tgt := 54) hx hb dX10_laysLikely_34 (by decide) (fun c_6 => absurd c_6 (by decide)) (fun _ => ?_)
  refine lv_aload_n hx hb dX10_laysLikely_37 rfl (lv_at hl 2 rfl) ?_
  refine lv_ldc2 (v := 10) hx hb hown (hg _ q_7_102) dX10_laysLikely_38 ?_
  refine lv_iload_n hx hb dX10_laysLikely_41 rfl (lv_at hl 1 rfl) ?_
  refine lv_i2l (v := 0) hx hb dX10_laysLikely_42 (by decide +kernel) ?_
  refine lv_lsub hx hb dX10_laysLikely_43 ?_
  refine tpl (y := 10) (by decide +kernel) ?_
  refine lv_lconst (v := 1) hx hb dX10_laysLikely_44 (by decide) ?_
  refine jnV (wr := [(z 28, aZ V 10000 (upd (fun _ => 0) 0 1)), (z 1, aI V 3075 (fun _ => 0))]) (rnV (rest := []) ⟨hx, hb, hml, hown, hg⟩ (c_X10_goesMany_4 l V z) mt_X10_goesMany q_7_224 ⟨Nat.le_of_ble_eq_true rfl, Nat.le_of_ble_eq_true rfl⟩ hK hP hD hS hA hE [2, 3, 4, 5, 6] rfl rfl 6 rfl rfl rfl rfl hl.1 rfl (Nat.le_of_ble_eq_true rfl) dX10_laysLikely_45 ⟨Nat.le_of_ble_eq_true rfl, Nat.le_of_ble_eq_true rfl⟩) hP hD hS hA [2, 3, 4, 5, 6] [0, 1] rfl rfl rfl (by decide) (fun  w H locs hw hP hD hS => ?_)
  subst hw
  have hP : va_P V.1 vwCl [(z 28, aZ V 10000 (upd (fun _ => 0) 0 1)), (z 1, aI V 3075 (fun _ => 0)), (z 24, aI V 10000 (fun _ => 0)), (z 25, aI V 40000 (upd (upd (upd (fun _ => 0) 1 (-1)) 2 (-1)) 3 (-1))), (z 30, aJ V 10000 (vp_updL (fun _ => 0) 0 100000)), (z 31, aJ V 10000 (fun _ => 0)), (z 0, .inr (10, mo z 0 0 0 0 0 0 0 0 0 0 (-1) 0 0 0 0 1))] H := hP
  have hD : va_D A [(z 28, aZ V 10000 (upd (fun _ => 0) 0 1)), (z 1, aI V 3075 (fun _ => 0)), (z 24, aI V 10000 (fun _ => 0)), (z 25, aI V 40000 (upd (upd (upd (fun _ => 0) 1 (-1)) 2 (-1)) 3 (-1))), (z 30, aJ V 10000 (vp_updL (fun _ => 0) 0 100000)), (z 31, aJ V 10000 (fun _ => 0)), (z 0, .inr (10, mo z 0 0 0 0 0 0 0 0 0 0 (-1) 0 0 0 0 1))] := hD
  refine lv_iinc (v := 5) (lv' := [(3, .int 5), (2, .int 0), (0, .ref (z 0)), (1, .int 6)]) hx hb dX10_laysLikely_48 hl (k := 0) rfl (by decide +kernel) (by decide) rfl (fun ls hl => ?_)
  refine lv_goto (tgt := 32) hx hb dX10_laysLikely_51 (by decide) ?_
  refine lv_iload_n hx hb dX10_laysLikely_32 rfl (lv_at hl 0 rfl) ?_
  refine lv_iload_n hx hb dX10_laysLikely_33 rfl (lv_at hl 3 rfl) ?_
  refine lv_icmp_ge (tgt := 54) hx hb dX10_laysLikely_34 (by decide) (fun c_7 => absurd c_7 (by decide)) (fun _ => ?_)
  refine lv_aload_n hx hb dX10_laysLikely_37 rfl (lv_at hl 2 rfl) ?_
  refine lv_ldc2 (v := 10) hx hb hown (hg _ q_7_102) dX10_laysLikely_38 ?_
  refine lv_iload_n hx hb dX10_laysLikely_41 rfl (lv_at hl 1 rfl) ?_
  refine lv_i2l (v := 0) hx hb dX10_laysLikely_42 (by decide +kernel) ?_
  refine lv_lsub hx hb dX10_laysLikely_43 ?_
  refine tpl (y := 10) (by decide +kernel) ?_
  refine lv_lconst (v := 1) hx hb dX10_laysLikely_44 (by decide) ?_
  refine jnV (wr := [(z 28, aZ V 10000 (upd (fun _ => 0) 0 1)), (z 1, aI V 3075 (fun _ => 0))]) (rnV (rest := []) ⟨hx, hb, hml, hown, hg⟩ (c_X10_goesMany_5 l V z) mt_X10_goesMany q_7_224 ⟨Nat.le_of_ble_eq_true rfl, Nat.le_of_ble_eq_true rfl⟩ hK hP hD hS hA hE [2, 3, 4, 5, 6] rfl rfl 6 rfl rfl rfl rfl hl.1 rfl (Nat.le_of_ble_eq_true rfl) dX10_laysLikely_45 ⟨Nat.le_of_ble_eq_true rfl, Nat.le_of_ble_eq_true rfl⟩) hP hD hS hA [2, 3, 4, 5, 6] [0, 1] rfl rfl rfl (by decide) (fun  w H locs hw hP hD hS => ?_)
  subst hw
  have hP : va_P V.1 vwCl [(z 28, aZ V 10000 (upd (fun _ => 0) 0 1)), (z 1, aI V 3075 (fun _ => 0)), (z 24, aI V 10000 (fun _ => 0)), (z 25, aI V 40000 (upd (upd (upd (fun _ => 0) 1 (-1)) 2 (-1)) 3 (-1))), (z 30, aJ V 10000 (vp_updL (fun _ => 0) 0 1000000)), (z 31, aJ V 10000 (fun _ => 0)), (z 0, .inr (10, mo z 0 0 0 0 0 0 0 0 0 0 (-1) 0 0 0 0 1))] H := hP
  have hD : va_D A [(z 28, aZ V 10000 (upd (fun _ => 0) 0 1)), (z 1, aI V 3075 (fun _ => 0)), (z 24, aI V 10000 (fun _ => 0)), (z 25, aI V 40000 (upd (upd (upd (fun _ => 0) 1 (-1)) 2 (-1)) 3 (-1))), (z 30, aJ V 10000 (vp_updL (fun _ => 0) 0 1000000)), (z 31, aJ V 10000 (fun _ => 0)), (z 0, .inr (10, mo z 0 0 0 0 0 0 0 0 0 0 (-1) 0 0 0 0 1))] := hD
  refine lv_iinc (v := 6) (lv' := [(3, .int 6), (2, .int 0), (0, .ref (z 0)), (1, .int 6)]) hx hb dX10_laysLikely_48 hl (k := 0) rfl (by decide +kernel) (by decide) rfl (fun ls hl => ?_)
  refine lv_goto (tgt := 32) hx hb dX10_laysLikely_51 (by decide) ?_
  refine lv_iload_n hx hb dX10_laysLikely_32 rfl (lv_at hl 0 rfl) ?_
  refine lv_iload_n hx hb dX10_laysLikely_33 rfl (lv_at hl 3 rfl) ?_
  refine lv_icmp_ge (tgt := 54) hx hb dX10_laysLikely_34 (by decide) (fun _ => ?_) (fun c_8 => absurd c_8 (by decide))
  have hP := subP (ws' := [(z 0, .inr (10, mo z 0 0 0 0 0 0 0 0 0 0 (-1) 0 0 0 0 1)), (z 24, aI V 10000 (fun _ => 0)), (z 25, aI V 40000 (upd (upd (upd (fun _ => 0) 1 (-1)) 2 (-1)) 3 (-1))), (z 28, aZ V 10000 (upd (fun _ => 0) 0 1)), (z 30, aJ V 10000 (vp_updL (fun _ => 0) 0 1000000)), (z 31, aJ V 10000 (fun _ => 0)), (z 1, aI V 3075 (fun _ => 0))]) hP [6, 2, 3, 0, 4, 5, 1] rfl
  have hD := hD.sub (ws' := [(z 0, .inr (10, mo z 0 0 0 0 0 0 0 0 0 0 (-1) 0 0 0 0 1)), (z 24, aI V 10000 (fun _ => 0)), (z 25, aI V 40000 (upd (upd (upd (fun _ => 0) 1 (-1)) 2 (-1)) 3 (-1))), (z 28, aZ V 10000 (upd (fun _ => 0) 0 1)), (z 30, aJ V 10000 (vp_updL (fun _ => 0) 0 1000000)), (z 31, aJ V 10000 (fun _ => 0)), (z 1, aI V 3075 (fun _ => 0))]) [6, 2, 3, 0, 4, 5, 1] rfl rfl
  exact fiV hx hb hr hlk hK hP hD hS dX10_laysLikely_54 (Nat.le_of_ble_eq_true rfl) (Nat.le_of_ble_eq_true rfl) (rfl)
set_option maxHeartbeats 4000000 in
set_option maxRecDepth 100000 in
theorem c_X10_wholeOf_6 (l : Launch) (V : GV) : Ct l V yX10_wholeOf (.code yX10_wholeOf cX10_wholeOf 4 (some .long)) 1 [.int 6] [] 0 0 (QL V (fun (r : Int64) (w : va_W) => (r = 1000000 ∧ w = []))) := by
  refine Ct.of (by decide) (Nat.le_of_ble_eq_true rfl) (fun p e s m below meth c A ls hx hb hr hml hown hlk hnm hg hP hK hD hE hA hS hl => ?_)
  have hl : lv_has ls 4 [(0, .int 6)] := hl
  refine lv_lconst (v := 1) hx hb dX10_wholeOf_0 (by decide) ?_
  refine lv_lstore_n (lv' := [(1, .long 1), (0, .int 6)]) hx hb dX10_wholeOf_1 rfl hl (by decide) rfl (fun ls hl => ?_)
  refine lv_iconst (v := 0) hx hb dX10_wholeOf_2 (by decide) ?_
  refine lv_istore_n (lv' := [(3, .int 0), (1, .long 1), (0, .int 6)]) hx hb dX10_wholeOf_3 rfl hl (by decide) rfl (fun ls hl => ?_)
  refine lv_iload_n hx hb dX10_wholeOf_4 rfl (lv_at hl 0 rfl) ?_
  refine lv_iload_n hx hb dX10_wholeOf_5 rfl (lv_at hl 2 rfl) ?_
  refine lv_icmp_ge (tgt := 21) hx hb dX10_wholeOf_6 (by decide) (fun c_1 => absurd c_1 (by decide)) (fun _ => ?_)
  refine lv_lload_n hx hb dX10_wholeOf_9 rfl (lv_at hl 1 rfl) ?_
  refine lv_ldc2 (v := 10) hx hb hown (hg _ q_7_102) dX10_wholeOf_10 ?_
  refine lv_lmul hx hb dX10_wholeOf_13 ?_
  refine tpl (y := 10) (by decide +kernel) ?_
  refine lv_lstore_n (lv' := [(1, .long 10), (3, .int 0), (0, .int 6)]) hx hb dX10_wholeOf_14 rfl hl (by decide) rfl (fun ls hl => ?_)
  refine lv_iinc (v := 1) (lv' := [(3, .int 1), (1, .long 10), (0, .int 6)]) hx hb dX10_wholeOf_15 hl (k := 1) rfl (by decide +kernel) (by decide) rfl (fun ls hl => ?_)
  refine lv_goto (tgt := 4) hx hb dX10_wholeOf_18 (by decide) ?_
  refine lv_iload_n hx hb dX10_wholeOf_4 rfl (lv_at hl 0 rfl) ?_
  refine lv_iload_n hx hb dX10_wholeOf_5 rfl (lv_at hl 2 rfl) ?_
  refine lv_icmp_ge (tgt := 21) hx hb dX10_wholeOf_6 (by decide) (fun c_2 => absurd c_2 (by decide)) (fun _ => ?_)
  refine lv_lload_n hx hb dX10_wholeOf_9 rfl (lv_at hl 1 rfl) ?_
  refine lv_ldc2 (v := 10) hx hb hown (hg _ q_7_102) dX10_wholeOf_10 ?_
  refine lv_lmul hx hb dX10_wholeOf_13 ?_
  refine tpl (y := 100) (by decide +kernel) ?_
  refine lv_lstore_n (lv' := [(1, .long 100), (3, .int 1), (0, .int 6)]) hx hb dX10_wholeOf_14 rfl hl (by decide) rfl (fun ls hl => ?_)
  refine lv_iinc (v := 2) (lv' := [(3, .int 2), (1, .long 100), (0, .int 6)]) hx hb dX10_wholeOf_15 hl (k := 1) rfl (by decide +kernel) (by decide) rfl (fun ls hl => ?_)
  refine lv_goto (tgt := 4) hx hb dX10_wholeOf_18 (by decide) ?_
  refine lv_iload_n hx hb dX10_wholeOf_4 rfl (lv_at hl 0 rfl) ?_
  refine lv_iload_n hx hb dX10_wholeOf_5 rfl (lv_at hl 2 rfl) ?_
  refine lv_icmp_ge (tgt := 21) hx hb dX10_wholeOf_6 (by decide) (fun c_3 => absurd c_3 (by decide)) (fun _ => ?_)
  refine lv_lload_n hx hb dX10_wholeOf_9 rfl (lv_at hl 1 rfl) ?_
  refine lv_ldc2 (v := 10) hx hb hown (hg _ q_7_102) dX10_wholeOf_10 ?_
  refine lv_lmul hx hb dX10_wholeOf_13 ?_
  refine tpl (y := 1000) (by decide +kernel) ?_
  refine lv_lstore_n (lv' := [(1, .long 1000), (3, .int 2), (0, .int 6)]) hx hb dX10_wholeOf_14 rfl hl (by decide) rfl (fun ls hl => ?_)
  refine lv_iinc (v := 3) (lv' := [(3, .int 3), (1, .long 1000), (0, .int 6)]) hx hb dX10_wholeOf_15 hl (k := 1) rfl (by decide +kernel) (by decide) rfl (fun ls hl => ?_)
  refine lv_goto (tgt := 4) hx hb dX10_wholeOf_18 (by decide) ?_
  refine lv_iload_n hx hb dX10_wholeOf_4 rfl (lv_at hl 0 rfl) ?_
  refine lv_iload_n hx hb dX10_wholeOf_5 rfl (lv_at hl 2 rfl) ?_
  refine lv_icmp_ge (tgt := 21) hx hb dX10_wholeOf_6 (by decide) (fun c_4 => absurd c_4 (by decide)) (fun _ => ?_)
  refine lv_lload_n hx hb dX10_wholeOf_9 rfl (lv_at hl 1 rfl) ?_
  refine lv_ldc2 (v := 10) hx hb hown (hg _ q_7_102) dX10_wholeOf_10 ?_
  refine lv_lmul hx hb dX10_wholeOf_13 ?_
  refine tpl (y := 10000) (by decide +kernel) ?_
  refine lv_lstore_n (lv' := [(1, .long 10000), (3, .int 3), (0, .int 6)]) hx hb dX10_wholeOf_14 rfl hl (by decide) rfl (fun ls hl => ?_)
  refine lv_iinc (v := 4) (lv' := [(3, .int 4), (1, .long 10000), (0, .int 6)]) hx hb dX10_wholeOf_15 hl (k := 1) rfl (by decide +kernel) (by decide) rfl (fun ls hl => ?_)
  refine lv_goto (tgt := 4) hx hb dX10_wholeOf_18 (by decide) ?_
  refine lv_iload_n hx hb dX10_wholeOf_4 rfl (lv_at hl 0 rfl) ?_
  refine lv_iload_n hx hb dX10_wholeOf_5 rfl (lv_at hl 2 rfl) ?_
  refine lv_icmp_ge (tgt := 21) hx hb dX10_wholeOf_6 (by decide) (fun c_5 => absurd c_5 (by decide)) (fun _ => ?_)
  refine lv_lload_n hx hb dX10_wholeOf_9 rfl (lv_at hl 1 rfl) ?_
  refine lv_ldc2 (v := 10) hx hb hown (hg _ q_7_102) dX10_wholeOf_10 ?_
  refine lv_lmul hx hb dX10_wholeOf_13 ?_
  refine tpl (y := 100000) (by decide +kernel) ?_
  refine lv_lstore_n (lv' := [(1, .long 100000), (3, .int 4), (0, .int 6)]) hx hb dX10_wholeOf_14 rfl hl (by decide) rfl (fun ls hl => ?_)
  refine lv_iinc (v := 5) (lv' := [(3, .int 5), (1, .long 100000), (0, .int 6)]) hx hb dX10_wholeOf_15 hl (k := 1) rfl (by decide +kernel) (by decide) rfl (fun ls hl => ?_)
  refine lv_goto (tgt := 4) hx hb dX10_wholeOf_18 (by decide) ?_
  refine lv_iload_n hx hb dX10_wholeOf_4 rfl (lv_at hl 0 rfl) ?_
  refine lv_iload_n hx hb dX10_wholeOf_5 rfl (lv_at hl 2 rfl) ?_
  refine lv_icmp_ge (tgt := 21) hx hb dX10_wholeOf_6 (by decide) (fun c_6 => absurd c_6 (by decide)) (fun _ => ?_)
  refine lv_lload_n hx hb dX10_wholeOf_9 rfl (lv_at hl 1 rfl) ?_
  refine lv_ldc2 (v := 10) hx hb hown (hg _ q_7_102) dX10_wholeOf_10 ?_
  refine lv_lmul hx hb dX10_wholeOf_13 ?_
  refine tpl (y := 1000000) (by decide +kernel) ?_
  refine lv_lstore_n (lv' := [(1, .long 1000000), (3, .int 5), (0, .int 6)]) hx hb dX10_wholeOf_14 rfl hl (by decide) rfl (fun ls hl => ?_)
  refine lv_iinc (v := 6) (lv' := [(3, .int 6), (1, .long 1000000), (0, .int 6)]) hx hb dX10_wholeOf_15 hl (k := 1) rfl (by decide +kernel) (by decide) rfl (fun ls hl => ?_)
  refine lv_goto (tgt := 4) hx hb dX10_wholeOf_18 (by decide) ?_
  refine lv_iload_n hx hb dX10_wholeOf_4 rfl (lv_at hl 0 rfl) ?_
  refine lv_iload_n hx hb dX10_wholeOf_5 rfl (lv_at hl 2 rfl) ?_
  refine lv_icmp_ge (tgt := 21) hx hb dX10_wholeOf_6 (by decide) (fun _ => ?_) (fun c_7 => absurd c_7 (by decide))
  refine lv_lload_n hx hb dX10_wholeOf_21 rfl (lv_at hl 1 rfl) ?_
  exact fiL hx hb hr hlk hK hP hD hS dX10_wholeOf_22 (Nat.le_of_ble_eq_true rfl) (Nat.le_of_ble_eq_true rfl) (⟨rfl, rfl⟩)
set_option maxHeartbeats 4000000 in
set_option maxRecDepth 100000 in
theorem c_X10_common_12 (l : Launch) (V : GV) : Ct l V yX10_common (.code yX10_common cX10_common 4 (some .long)) 1 [.long 1000000, .long 0] [] 0 0 (QL V (fun (r : Int64) (w : va_W) => (r = 1000000 ∧ w = []))) := by
  refine Ct.of (by decide) (Nat.le_of_ble_eq_true rfl) (fun p e s m below meth c A ls hx hb hr hml hown hlk hnm hg hP hK hD hE hA hS hl => ?_)
  have hl : lv_has ls 4 [(0, .long 1000000), (2, .long 0)] := hl
  refine lv_lload_n hx hb dX10_common_0 rfl (lv_at hl 1 rfl) ?_
  refine lv_lconst (v := 0) hx hb dX10_common_1 (by decide) ?_
  refine W.lcmp hx hb dX10_common_2 ?_
  refine lv_if_ne (tgt := 10) hx hb dX10_common_3 (by decide) (fun c_1 => absurd (fun z => c_1 ((lg_cmp_eq _ _).mpr z)) (by decide)) (fun _ => ?_)
  refine lv_lload_n hx hb dX10_common_6 rfl (lv_at hl 0 rfl) ?_
  refine lv_goto (tgt := 17) hx hb dX10_common_7 (by decide) ?_
  exact fiL hx hb hr hlk hK hP hD hS dX10_common_17 (Nat.le_of_ble_eq_true rfl) (Nat.le_of_ble_eq_true rfl) (⟨rfl, rfl⟩)
set_option maxHeartbeats 4000000 in
set_option maxRecDepth 100000 in
theorem c_X10_common_13 (l : Launch) (V : GV) : Ct l V yX10_common (.code yX10_common cX10_common 4 (some .long)) 2 [.long 0, .long 1000000] [] 0 0 (QL V (fun (r : Int64) (w : va_W) => (r = 1000000 ∧ w = []))) := by
  refine Ct.of (by decide) (Nat.le_of_ble_eq_true rfl) (fun p e s m below meth c A ls hx hb hr hml hown hlk hnm hg hP hK hD hE hA hS hl => ?_)
  have hl : lv_has ls 4 [(0, .long 0), (2, .long 1000000)] := hl
  refine lv_lload_n hx hb dX10_common_0 rfl (lv_at hl 1 rfl) ?_
  refine lv_lconst (v := 0) hx hb dX10_common_1 (by decide) ?_
  refine W.lcmp hx hb dX10_common_2 ?_
  refine lv_if_ne (tgt := 10) hx hb dX10_common_3 (by decide) (fun _ => ?_) (fun c_1 => absurd ((lg_cmp_eq _ _).mp c_1) (by decide))
  refine lv_lload_n hx hb dX10_common_10 rfl (lv_at hl 1 rfl) ?_
  refine lv_lload_n hx hb dX10_common_11 rfl (lv_at hl 0 rfl) ?_
  refine lv_lload_n hx hb dX10_common_12 rfl (lv_at hl 1 rfl) ?_
  refine lv_lrem hx hb dX10_common_13 (by decide) ?_
  refine tpl (y := 0) (by decide +kernel) ?_
  refine jnL (wr := []) (rnS (rest := []) ⟨hx, hb, hml, hown, hg⟩ (c_X10_common_12 l V) mt_X10_common q_8_124 ⟨Nat.le_of_ble_eq_true rfl, Nat.le_of_ble_eq_true rfl⟩ hK hP hD hS hA hE [] rfl rfl rfl hl.1 rfl (Nat.le_of_ble_eq_true rfl) dX10_common_14 ⟨Nat.le_of_ble_eq_true rfl, Nat.le_of_ble_eq_true rfl⟩) hP hD hS hA [] [] rfl rfl rfl (by decide) (fun r_2 w H locs hw hP hD hS => ?_)
  obtain ⟨rfl, rfl⟩ := hw
  have hP : va_P V.1 vwCl [] H := hP
  have hD : va_D A [] := hD
  exact fiL hx hb hr hlk hK hP hD hS dX10_common_17 (Nat.le_of_ble_eq_true rfl) (Nat.le_of_ble_eq_true rfl) (⟨rfl, rfl⟩)
set_option maxHeartbeats 4000000 in
set_option maxRecDepth 100000 in
theorem c_X10_part_6 (l : Launch) (V : GV) (p0 : Int32) : Ct l V yX10_part (.code yX10_part cX10_part 5 (some .int)) 3 [.long 0, .long 1000000, .int p0] [] 0 0 (QI V (fun (r : Int32) (w : va_W) => ((¬ p0 = 0) ∧ r = 1 ∧ w = []) ∨ (p0 = 0 ∧ r = 0 ∧ w = []))) := by
  refine Ct.of (by decide) (Nat.le_of_ble_eq_true rfl) (fun p e s m below meth c A ls hx hb hr hml hown hlk hnm hg hP hK hD hE hA hS hl => ?_)
  have hl : lv_has ls 5 [(0, .long 0), (2, .long 1000000), (4, .int p0)] := hl
  refine lv_iload hx hb dX10_part_0 (lv_at hl 2 rfl) ?_
  refine lv_if_ne (tgt := 9) hx hb dX10_part_2 (by decide) (fun c_1 => ?_) (fun c_1 => ?_)
  · refine lv_lload_n hx hb dX10_part_9 rfl (lv_at hl 1 rfl) ?_
    refine lv_lload_n hx hb dX10_part_10 rfl (lv_at hl 0 rfl) ?_
    refine lv_lload_n hx hb dX10_part_11 rfl (lv_at hl 1 rfl) ?_
    refine jnL (wr := []) (rnS (rest := [.long 1000000]) ⟨hx, hb, hml, hown, hg⟩ (c_X10_common_13 l V) mt_X10_common q_8_124 ⟨Nat.le_of_ble_eq_true rfl, Nat.le_of_ble_eq_true rfl⟩ hK hP hD hS hA hE [] rfl rfl rfl hl.1 rfl (Nat.le_of_ble_eq_true rfl) dX10_part_12 ⟨Nat.le_of_ble_eq_true rfl, Nat.le_of_ble_eq_true rfl⟩) hP hD hS hA [] [] rfl rfl rfl (by decide) (fun r_2 w H locs hw hP hD hS => ?_)
    obtain ⟨rfl, rfl⟩ := hw
    have hP : va_P V.1 vwCl [] H := hP
    have hD : va_D A [] := hD
    refine lv_ldiv hx hb dX10_part_15 (by decide) ?_
    refine tpl (y := 1) (by decide +kernel) ?_
    refine lv_l2i (v := 1) hx hb dX10_part_16 (by decide +kernel) ?_
    exact fiI hx hb hr hlk hK hP hD hS dX10_part_17 (Nat.le_of_ble_eq_true rfl) (Nat.le_of_ble_eq_true rfl) (Or.inl ⟨c_1, rfl, rfl⟩)
  · refine lv_lload_n hx hb dX10_part_5 rfl (lv_at hl 0 rfl) ?_
    refine lv_goto (tgt := 10) hx hb dX10_part_6 (by decide) ?_
    refine lv_lload_n hx hb dX10_part_10 rfl (lv_at hl 0 rfl) ?_
    refine lv_lload_n hx hb dX10_part_11 rfl (lv_at hl 1 rfl) ?_
    refine jnL (wr := []) (rnS (rest := [.long 0]) ⟨hx, hb, hml, hown, hg⟩ (c_X10_common_13 l V) mt_X10_common q_8_124 ⟨Nat.le_of_ble_eq_true rfl, Nat.le_of_ble_eq_true rfl⟩ hK hP hD hS hA hE [] rfl rfl rfl hl.1 rfl (Nat.le_of_ble_eq_true rfl) dX10_part_12 ⟨Nat.le_of_ble_eq_true rfl, Nat.le_of_ble_eq_true rfl⟩) hP hD hS hA [] [] rfl rfl rfl (by decide) (fun r_3 w H locs hw hP hD hS => ?_)
    obtain ⟨rfl, rfl⟩ := hw
    have hP : va_P V.1 vwCl [] H := hP
    have hD : va_D A [] := hD
    refine lv_ldiv hx hb dX10_part_15 (by decide) ?_
    refine tpl (y := 0) (by decide +kernel) ?_
    refine lv_l2i (v := 0) hx hb dX10_part_16 (by decide +kernel) ?_
    exact fiI hx hb hr hlk hK hP hD hS dX10_part_17 (Nat.le_of_ble_eq_true rfl) (Nat.le_of_ble_eq_true rfl) (Or.inr (⟨c_1, rfl, rfl⟩))
set_option maxHeartbeats 4000000 in
set_option maxRecDepth 100000 in
theorem c_X10_isThen_6 (l : Launch) (V : GV) (z : Nat → Nat) : Ct l V yX10_isThen (.code yX10_isThen cX10_isThen 2 none) 1 [.ref (z 0)] [(z 30, aJ V 10000 (vp_updL (fun _ => 0) 0 1000000)), (z 31, aJ V 10000 (vp_updL (fun _ => 0) 0 10000000)), (z 0, .inr (10, mo z 0 0 0 0 0 0 0 0 0 0 (-1) 0 0 0 0 1))] 0 0 (QV V (fun (w : va_W) => (w = [(z 30, aJ V 10000 (vp_updL (fun _ => 0) 0 10000000)), (z 31, aJ V 10000 (fun _ => 0)), (z 0, .inr (10, mo z 0 0 0 0 0 0 0 0 0 0 (-1) 0 0 0 0 1))]))) := by
  refine Ct.of (by decide) (Nat.le_of_ble_eq_true rfl) (fun p e s m below meth c A ls hx hb hr hml hown hlk hnm hg hP hK hD hE hA hS hl => ?_)
  have hl : lv_has ls 2 [(0, .ref (z 0))] := hl
  refine lv_iconst (v := 0) hx hb dX10_isThen_0 (by decide) ?_
  refine lv_istore_n (lv' := [(1, .int 0), (0, .ref (z 0))]) hx hb dX10_isThen_1 rfl hl (by decide) rfl (fun ls hl => ?_)
  refine lv_iload_n hx hb dX10_isThen_2 rfl (lv_at hl 0 rfl) ?_
  refine lv_sipush (v := 10000) hx hb dX10_isThen_3 (by decide) ?_
  refine lv_icmp_ge (tgt := 34) hx hb dX10_isThen_6 (by decide) (fun c_1 => absurd c_1 (by decide)) (fun _ => ?_)
  refine lv_aload_n hx hb dX10_isThen_9 rfl (lv_at hl 1 rfl) ?_
  refine va_get (ci := 10) (v := .ref (z 30)) (C := RX10) (T := TX10) (N := 40) hx hb hg inX10 hown hK hP 2 rfl rfl 30 (by decide) (hg _ q_6_14) (fun _ h9 => h9) rfl dX10_isThen_10 ?_
  refine lv_iload_n hx hb dX10_isThen_13 rfl (lv_at hl 0 rfl) ?_
  refine lv_aload_n hx hb dX10_isThen_14 rfl (lv_at hl 1 rfl) ?_
  refine va_get (ci := 10) (v := .ref (z 31)) (C := RX10) (T := TX10) (N := 40) hx hb hg inX10 hown hK hP 2 rfl rfl 31 (by decide) (hg _ q_6_15) (fun _ h9 => h9) rfl dX10_isThen_15 ?_
  refine lv_iload_n hx hb dX10_isThen_18 rfl (lv_at hl 0 rfl) ?_
  refine va_lald hx hb hK hP 1 2 rfl rfl (vin (by decide +kernel)) dX10_isThen_19 ?_
  refine tpl (y := 10000000) (rfl) ?_
  refine va_last hx hb hK hP hD hS 0 2 rfl rfl (vin (by decide +kernel)) dX10_isThen_20 (fun H locs hP hD hS => ?_)
  have hP : va_P V.1 vwCl [(z 30, aJ V 10000 (vp_updL (vp_updL (fun _ => 0) 0 1000000) 0 10000000)), (z 31, aJ V 10000 (vp_updL (fun _ => 0) 0 10000000)), (z 0, .inr (10, mo z 0 0 0 0 0 0 0 0 0 0 (-1) 0 0 0 0 1))] H := hP
  have hD : va_D A [(z 30, aJ V 10000 (vp_updL (vp_updL (fun _ => 0) 0 1000000) 0 10000000)), (z 31, aJ V 10000 (vp_updL (fun _ => 0) 0 10000000)), (z 0, .inr (10, mo z 0 0 0 0 0 0 0 0 0 0 (-1) 0 0 0 0 1))] := hD
  have hP : va_P V.1 vwCl [(z 30, aJ V 10000 (vp_updL (fun _ => 0) 0 10000000)), (z 31, aJ V 10000 (vp_updL (fun _ => 0) 0 10000000)), (z 0, .inr (10, mo z 0 0 0 0 0 0 0 0 0 0 (-1) 0 0 0 0 1))] H := by rw [updLup] at hP; exact hP
  have hD : va_D A [(z 30, aJ V 10000 (vp_updL (fun _ => 0) 0 10000000)), (z 31, aJ V 10000 (vp_updL (fun _ => 0) 0 10000000)), (z 0, .inr (10, mo z 0 0 0 0 0 0 0 0 0 0 (-1) 0 0 0 0 1))] := by rw [updLup] at hD; exact hD
  refine lv_aload_n hx hb dX10_isThen_21 rfl (lv_at hl 1 rfl) ?_
  refine va_get (ci := 10) (v := .ref (z 31)) (C := RX10) (T := TX10) (N := 40) hx hb hg inX10 hown hK hP 2 rfl rfl 31 (by decide) (hg _ q_6_15) (fun _ h9 => h9) rfl dX10_isThen_22 ?_
  refine lv_iload_n hx hb dX10_isThen_25 rfl (lv_at hl 0 rfl) ?_
  refine lv_lconst (v := 0) hx hb dX10_isThen_26 (by decide) ?_
  refine va_last hx hb hK hP hD hS 1 2 rfl rfl (vin (by decide +kernel)) dX10_isThen_27 (fun H locs hP hD hS => ?_)
  have hP : va_P V.1 vwCl [(z 30, aJ V 10000 (vp_updL (fun _ => 0) 0 10000000)), (z 31, aJ V 10000 (vp_updL (vp_updL (fun _ => 0) 0 10000000) 0 0)), (z 0, .inr (10, mo z 0 0 0 0 0 0 0 0 0 0 (-1) 0 0 0 0 1))] H := hP
  have hD : va_D A [(z 30, aJ V 10000 (vp_updL (fun _ => 0) 0 10000000)), (z 31, aJ V 10000 (vp_updL (vp_updL (fun _ => 0) 0 10000000) 0 0)), (z 0, .inr (10, mo z 0 0 0 0 0 0 0 0 0 0 (-1) 0 0 0 0 1))] := hD
  have hP : va_P V.1 vwCl [(z 30, aJ V 10000 (vp_updL (fun _ => 0) 0 10000000)), (z 31, aJ V 10000 (fun _ => 0)), (z 0, .inr (10, mo z 0 0 0 0 0 0 0 0 0 0 (-1) 0 0 0 0 1))] H := by rw [updLup, updL0] at hP; exact hP
  have hD : va_D A [(z 30, aJ V 10000 (vp_updL (fun _ => 0) 0 10000000)), (z 31, aJ V 10000 (fun _ => 0)), (z 0, .inr (10, mo z 0 0 0 0 0 0 0 0 0 0 (-1) 0 0 0 0 1))] := by rw [updLup, updL0] at hD; exact hD
  refine lv_iinc (v := 1) (lv' := [(1, .int 1), (0, .ref (z 0))]) hx hb dX10_isThen_28 hl (k := 0) rfl (by decide +kernel) (by decide) rfl (fun ls hl => ?_)
  refine lv_goto (tgt := 2) hx hb dX10_isThen_31 (by decide) ?_
  refine loopW 10000 (X := fun (i_2 : Nat) (H : Heap) (locs : List Loc) (ls : Array Slot) => 1 ≤ i_2 ∧ va_P V.1 vwCl [(z 30, aJ V 10000 (vp_updL (fun _ => 0) 0 10000000)), (z 31, aJ V 10000 (fun _ => 0)), (z 0, .inr (10, mo z 0 0 0 0 0 0 0 0 0 0 (-1) 0 0 0 0 1))] H ∧ va_D A [(z 30, aJ V 10000 (vp_updL (fun _ => 0) 0 10000000)), (z 31, aJ V 10000 (fun _ => 0)), (z 0, .inr (10, mo z 0 0 0 0 0 0 0 0 0 0 (-1) 0 0 0 0 1))] ∧ va_S A s.heap H locs ∧ lv_has ls 2 [(1, .int (nI i_2)), (0, .ref (z 0))]) (g := fun ls => F0 m 2 ls []) (fun i_2 H locs ls hi_i_2 hX ih_i_2 => ?_) 1 (Nat.le_of_ble_eq_true rfl) ⟨Nat.le_refl _, hP, hD, hS, lv_sub hl [0, 1] rfl⟩
  obtain ⟨hlo_i_2, hP, hD, hS, hl⟩ := hX
  refine lv_iload_n hx hb dX10_isThen_2 rfl (lv_at hl 0 rfl) ?_
  refine lv_sipush (v := 10000) hx hb dX10_isThen_3 (by decide) ?_
  refine lv_icmp_ge (tgt := 34) hx hb dX10_isThen_6 (by decide) (fun c_3 => ?_) (fun c_3 => ?_)
  · have e_4 : i_2 = 10000 := by have q9 := (nI_leI (a := 10000) (b := i_2) (by omega) (by omega)).mp c_3; omega
    rw [e_4] at hl
    have hl : lv_has ls 2 [(1, .int 10000), (0, .ref (z 0))] := hl
    exact fiV hx hb hr hlk hK hP hD hS dX10_isThen_34 (Nat.le_of_ble_eq_true rfl) (Nat.le_of_ble_eq_true rfl) (rfl)
  · have e_4 : i_2 < 10000 := by rcases Nat.lt_or_ge i_2 10000 with q9 | q9; exact q9; exact absurd (nI_le q9 (by omega)) c_3
    refine lv_aload_n hx hb dX10_isThen_9 rfl (lv_at hl 1 rfl) ?_
    refine va_get (ci := 10) (v := .ref (z 30)) (C := RX10) (T := TX10) (N := 40) hx hb hg inX10 hown hK hP 2 rfl rfl 30 (by decide) (hg _ q_6_14) (fun _ h9 => h9) rfl dX10_isThen_10 ?_
    refine lv_iload_n hx hb dX10_isThen_13 rfl (lv_at hl 0 rfl) ?_
    refine lv_aload_n hx hb dX10_isThen_14 rfl (lv_at hl 1 rfl) ?_
    refine va_get (ci := 10) (v := .ref (z 31)) (C := RX10) (T := TX10) (N := 40) hx hb hg inX10 hown hK hP 2 rfl rfl 31 (by decide) (hg _ q_6_15) (fun _ h9 => h9) rfl dX10_isThen_15 ?_
    refine lv_iload_n hx hb dX10_isThen_18 rfl (lv_at hl 0 rfl) ?_
    refine va_lald hx hb hK hP 1 2 rfl rfl (vp_in_nI (by omega) (by decide)) dX10_isThen_19 ?_
    refine tpl (y := 0) rfl ?_
    refine va_last hx hb hK hP hD hS 0 2 rfl rfl (vp_in_nI (by omega) (by decide)) dX10_isThen_20 (fun H locs hP hD hS => ?_)
    have hP : va_P V.1 vwCl [(z 30, aJ V 10000 (vp_updL (vp_updL (fun _ => 0) 0 10000000) (nI i_2).toNatClampNeg 0)), (z 31, aJ V 10000 (fun _ => 0)), (z 0, .inr (10, mo z 0 0 0 0 0 0 0 0 0 0 (-1) 0 0 0 0 1))] H := hP
    have hD : va_D A [(z 30, aJ V 10000 (vp_updL (vp_updL (fun _ => 0) 0 10000000) (nI i_2).toNatClampNeg 0)), (z 31, aJ V 10000 (fun _ => 0)), (z 0, .inr (10, mo z 0 0 0 0 0 0 0 0 0 0 (-1) 0 0 0 0 1))] := hD
    have hP : va_P V.1 vwCl [(z 30, aJ V 10000 (vp_updL (fun _ => 0) 0 10000000)), (z 31, aJ V 10000 (fun _ => 0)), (z 0, .inr (10, mo z 0 0 0 0 0 0 0 0 0 0 (-1) 0 0 0 0 1))] H := by rw [updLid (k := (nI i_2).toNatClampNeg) (v := 0) (by rw [nI_clamp (by omega)]; exact if_neg (by omega))] at hP; exact hP
    have hD : va_D A [(z 30, aJ V 10000 (vp_updL (fun _ => 0) 0 10000000)), (z 31, aJ V 10000 (fun _ => 0)), (z 0, .inr (10, mo z 0 0 0 0 0 0 0 0 0 0 (-1) 0 0 0 0 1))] := by rw [updLid (k := (nI i_2).toNatClampNeg) (v := 0) (by rw [nI_clamp (by omega)]; exact if_neg (by omega))] at hD; exact hD
    refine lv_aload_n hx hb dX10_isThen_21 rfl (lv_at hl 1 rfl) ?_
    refine va_get (ci := 10) (v := .ref (z 31)) (C := RX10) (T := TX10) (N := 40) hx hb hg inX10 hown hK hP 2 rfl rfl 31 (by decide) (hg _ q_6_15) (fun _ h9 => h9) rfl dX10_isThen_22 ?_
    refine lv_iload_n hx hb dX10_isThen_25 rfl (lv_at hl 0 rfl) ?_
    refine lv_lconst (v := 0) hx hb dX10_isThen_26 (by decide) ?_
    refine va_last hx hb hK hP hD hS 1 2 rfl rfl (vp_in_nI (by omega) (by decide)) dX10_isThen_27 (fun H locs hP hD hS => ?_)
    have hP : va_P V.1 vwCl [(z 30, aJ V 10000 (vp_updL (fun _ => 0) 0 10000000)), (z 31, aJ V 10000 (vp_updL (fun _ => 0) (nI i_2).toNatClampNeg 0)), (z 0, .inr (10, mo z 0 0 0 0 0 0 0 0 0 0 (-1) 0 0 0 0 1))] H := hP
    have hD : va_D A [(z 30, aJ V 10000 (vp_updL (fun _ => 0) 0 10000000)), (z 31, aJ V 10000 (vp_updL (fun _ => 0) (nI i_2).toNatClampNeg 0)), (z 0, .inr (10, mo z 0 0 0 0 0 0 0 0 0 0 (-1) 0 0 0 0 1))] := hD
    have hP : va_P V.1 vwCl [(z 30, aJ V 10000 (vp_updL (fun _ => 0) 0 10000000)), (z 31, aJ V 10000 (fun _ => 0)), (z 0, .inr (10, mo z 0 0 0 0 0 0 0 0 0 0 (-1) 0 0 0 0 1))] H := by rw [updL0] at hP; exact hP
    have hD : va_D A [(z 30, aJ V 10000 (vp_updL (fun _ => 0) 0 10000000)), (z 31, aJ V 10000 (fun _ => 0)), (z 0, .inr (10, mo z 0 0 0 0 0 0 0 0 0 0 (-1) 0 0 0 0 1))] := by rw [updL0] at hD; exact hD
    refine lv_iinc (v := nI (i_2 + 1)) (lv' := [(1, .int (nI (i_2 + 1))), (0, .ref (z 0))]) hx hb dX10_isThen_28 hl (k := 0) rfl (nI_add i_2 1) (by decide) rfl (fun ls hl => ?_)
    refine lv_goto (tgt := 2) hx hb dX10_isThen_31 (by decide) ?_
    exact ih_i_2 e_4 _ _ _ ⟨(by omega), hP, hD, hS, lv_sub hl [0, 1] rfl⟩
set_option maxHeartbeats 4000000 in
set_option maxRecDepth 100000 in
theorem c_X10_goesMany_6 (l : Launch) (V : GV) (z : Nat → Nat) : Ct l V yX10_goesMany (.code yX10_goesMany cX10_goesMany 8 none) 2 [.ref (z 0), .long 10, .long 1] [(z 24, aI V 10000 (fun _ => 0)), (z 25, aI V 40000 (upd (upd (upd (fun _ => 0) 1 (-1)) 2 (-1)) 3 (-1))), (z 30, aJ V 10000 (vp_updL (fun _ => 0) 0 1000000)), (z 31, aJ V 10000 (fun _ => 0)), (z 0, .inr (10, mo z 0 0 0 0 0 0 0 0 0 0 (-1) 0 0 0 0 1))] 0 0 (QV V (fun (w : va_W) => (w = [(z 24, aI V 10000 (fun _ => 0)), (z 25, aI V 40000 (upd (upd (upd (fun _ => 0) 1 (-1)) 2 (-1)) 3 (-1))), (z 30, aJ V 10000 (vp_updL (fun _ => 0) 0 10000000)), (z 31, aJ V 10000 (fun _ => 0)), (z 0, .inr (10, mo z 0 0 0 0 0 0 0 0 0 0 (-1) 0 0 0 0 1))]))) := by
  refine Ct.of (by decide) (Nat.le_of_ble_eq_true rfl) (fun p e s m below meth c A ls hx hb hr hml hown hlk hnm hg hP hK hD hE hA hS hl => ?_)
  have hl : lv_has ls 8 [(0, .ref (z 0)), (1, .long 10), (3, .long 1)] := hl
  refine lv_iconst (v := 0) hx hb dX10_goesMany_0 (by decide) ?_
  refine lv_istore (lv' := [(5, .int 0), (0, .ref (z 0)), (1, .long 10), (3, .long 1)]) hx hb dX10_goesMany_1 hl (by decide) rfl (fun ls hl => ?_)
  refine lv_iload hx hb dX10_goesMany_3 (lv_at hl 0 rfl) ?_
  refine lv_aload_n hx hb dX10_goesMany_5 rfl (lv_at hl 1 rfl) ?_
  refine va_get (ci := 10) (v := .int 1) (C := RX10) (T := TX10) (N := 40) hx hb hg inX10 hown hK hP 4 rfl rfl 29 (by decide) (hg _ q_6_13) (fun _ h9 => h9) rfl dX10_goesMany_6 ?_
  refine lv_icmp_ge (tgt := 108) hx hb dX10_goesMany_9 (by decide) (fun c_1 => absurd c_1 (by decide)) (fun _ => ?_)
  refine lv_aload_n hx hb dX10_goesMany_12 rfl (lv_at hl 1 rfl) ?_
  refine va_get (ci := 10) (v := .ref (z 24)) (C := RX10) (T := TX10) (N := 40) hx hb hg inX10 hown hK hP 4 rfl rfl 24 (by decide) (hg _ q_6_8) (fun _ h9 => h9) rfl dX10_goesMany_13 ?_
  refine lv_iload hx hb dX10_goesMany_16 (lv_at hl 0 rfl) ?_
  refine va_iald hx hb hK hP 0 0 rfl rfl (vin (by decide +kernel)) dX10_goesMany_18 ?_
  refine tpi (y := 0) (rfl) ?_
  refine lv_istore (lv' := [(6, .int 0), (5, .int 0), (0, .ref (z 0)), (1, .long 10), (3, .long 1)]) hx hb dX10_goesMany_19 hl (by decide) rfl (fun ls hl => ?_)
  refine lv_iconst (v := 0) hx hb dX10_goesMany_21 (by decide) ?_
  refine lv_istore (lv' := [(7, .int 0), (6, .int 0), (5, .int 0), (0, .ref (z 0)), (1, .long 10), (3, .long 1)]) hx hb dX10_goesMany_22 hl (by decide) rfl (fun ls hl => ?_)
  refine lv_iload hx hb dX10_goesMany_24 (lv_at hl 0 rfl) ?_
  refine lv_iconst (v := 4) hx hb dX10_goesMany_26 (by decide) ?_
  refine lv_icmp_ge (tgt := 102) hx hb dX10_goesMany_27 (by decide) (fun c_2 => absurd c_2 (by decide)) (fun _ => ?_)
  refine lv_aload_n hx hb dX10_goesMany_30 rfl (lv_at hl 3 rfl) ?_
  refine va_get (ci := 10) (v := .ref (z 30)) (C := RX10) (T := TX10) (N := 40) hx hb hg inX10 hown hK hP 4 rfl rfl 30 (by decide) (hg _ q_6_14) (fun _ h9 => h9) rfl dX10_goesMany_31 ?_
  refine lv_iload hx hb dX10_goesMany_34 (lv_at hl 1 rfl) ?_
  refine va_lald hx hb hK hP 2 2 rfl rfl (vin (by decide +kernel)) dX10_goesMany_36 ?_
  refine tpl (y := 1000000) (rfl) ?_
  refine lv_lconst (v := 0) hx hb dX10_goesMany_37 (by decide) ?_
  refine W.lcmp hx hb dX10_goesMany_38 ?_
  refine lv_if_le (tgt := 102) hx hb dX10_goesMany_39 (by decide) (fun c_3 => absurd ((lg_cmp_le _ _).mp c_3) (by decide)) (fun _ => ?_)
  refine lv_aload_n hx hb dX10_goesMany_42 rfl (lv_at hl 3 rfl) ?_
  refine va_get (ci := 10) (v := .ref (z 25)) (C := RX10) (T := TX10) (N := 40) hx hb hg inX10 hown hK hP 4 rfl rfl 25 (by decide) (hg _ q_6_9) (fun _ h9 => h9) rfl dX10_goesMany_43 ?_
  refine lv_iconst (v := 4) hx hb dX10_goesMany_46 (by decide) ?_
  refine lv_iload hx hb dX10_goesMany_47 (lv_at hl 1 rfl) ?_
  refine lv_imul hx hb dX10_goesMany_49 ?_
  refine tpi (y := 0) (by decide +kernel) ?_
  refine lv_iload hx hb dX10_goesMany_50 (lv_at hl 0 rfl) ?_
  refine lv_iadd hx hb dX10_goesMany_52 ?_
  refine tpi (y := 0) (by decide +kernel) ?_
  refine va_iald hx hb hK hP 1 0 rfl rfl (vin (by decide +kernel)) dX10_goesMany_53 ?_
  refine tpi (y := 0) (rfl) ?_
  refine lv_iconst (v := (-1)) hx hb dX10_goesMany_54 (by decide) ?_
  refine lv_icmp_eq (tgt := 96) hx hb dX10_goesMany_55 (by decide) (fun c_4 => absurd c_4 (by decide)) (fun _ => ?_)
  refine lv_aload_n hx hb dX10_goesMany_58 rfl (lv_at hl 3 rfl) ?_
  refine va_get (ci := 10) (v := .ref (z 31)) (C := RX10) (T := TX10) (N := 40) hx hb hg inX10 hown hK hP 4 rfl rfl 31 (by decide) (hg _ q_6_15) (fun _ h9 => h9) rfl dX10_goesMany_59 ?_
  refine lv_aload_n hx hb dX10_goesMany_62 rfl (lv_at hl 3 rfl) ?_
  refine va_get (ci := 10) (v := .ref (z 25)) (C := RX10) (T := TX10) (N := 40) hx hb hg inX10 hown hK hP 4 rfl rfl 25 (by decide) (hg _ q_6_9) (fun _ h9 => h9) rfl dX10_goesMany_63 ?_
  refine lv_iconst (v := 4) hx hb dX10_goesMany_66 (by decide) ?_
  refine lv_iload hx hb dX10_goesMany_67 (lv_at hl 1 rfl) ?_
  refine lv_imul hx hb dX10_goesMany_69 ?_
  refine tpi (y := 0) (by decide +kernel) ?_
  refine lv_iload hx hb dX10_goesMany_70 (lv_at hl 0 rfl) ?_
  refine lv_iadd hx hb dX10_goesMany_72 ?_
  refine tpi (y := 0) (by decide +kernel) ?_
  refine va_iald hx hb hK hP 1 0 rfl rfl (vin (by decide +kernel)) dX10_goesMany_73 ?_
  refine tpi (y := 0) (rfl) ?_
  refine lv_dup2_11 hx hb dX10_goesMany_74 rfl rfl ?_
  refine va_lald hx hb hK hP 3 2 rfl rfl (vin (by decide +kernel)) dX10_goesMany_75 ?_
  refine tpl (y := 0) (rfl) ?_
  refine lv_aload_n hx hb dX10_goesMany_76 rfl (lv_at hl 3 rfl) ?_
  refine va_get (ci := 10) (v := .ref (z 30)) (C := RX10) (T := TX10) (N := 40) hx hb hg inX10 hown hK hP 4 rfl rfl 30 (by decide) (hg _ q_6_14) (fun _ h9 => h9) rfl dX10_goesMany_77 ?_
  refine lv_iload hx hb dX10_goesMany_80 (lv_at hl 1 rfl) ?_
  refine va_lald hx hb hK hP 2 2 rfl rfl (vin (by decide +kernel)) dX10_goesMany_82 ?_
  refine tpl (y := 1000000) (rfl) ?_
  refine lv_iload hx hb dX10_goesMany_83 (lv_at hl 0 rfl) ?_
  refine lv_if_ne (tgt := 92) hx hb dX10_goesMany_85 (by decide) (fun c_5 => absurd c_5 (by decide)) (fun _ => ?_)
  refine lv_lload_n hx hb dX10_goesMany_88 rfl (lv_at hl 4 rfl) ?_
  refine lv_goto (tgt := 93) hx hb dX10_goesMany_89 (by decide) ?_
  refine lv_lmul hx hb dX10_goesMany_93 ?_
  refine tpl (y := 10000000) (by decide +kernel) ?_
  refine lv_ladd hx hb dX10_goesMany_94 ?_
  refine tpl (y := 10000000) (by decide +kernel) ?_
  refine va_last hx hb hK hP hD hS 3 2 rfl rfl (vin (by decide +kernel)) dX10_goesMany_95 (fun H locs hP hD hS => ?_)
  have hP : va_P V.1 vwCl [(z 24, aI V 10000 (fun _ => 0)), (z 25, aI V 40000 (upd (upd (upd (fun _ => 0) 1 (-1)) 2 (-1)) 3 (-1))), (z 30, aJ V 10000 (vp_updL (fun _ => 0) 0 1000000)), (z 31, aJ V 10000 (vp_updL (fun _ => 0) 0 10000000)), (z 0, .inr (10, mo z 0 0 0 0 0 0 0 0 0 0 (-1) 0 0 0 0 1))] H := hP
  have hD : va_D A [(z 24, aI V 10000 (fun _ => 0)), (z 25, aI V 40000 (upd (upd (upd (fun _ => 0) 1 (-1)) 2 (-1)) 3 (-1))), (z 30, aJ V 10000 (vp_updL (fun _ => 0) 0 1000000)), (z 31, aJ V 10000 (vp_updL (fun _ => 0) 0 10000000)), (z 0, .inr (10, mo z 0 0 0 0 0 0 0 0 0 0 (-1) 0 0 0 0 1))] := hD
  refine lv_iinc (v := 1) (lv' := [(7, .int 1), (6, .int 0), (5, .int 0), (0, .ref (z 0)), (1, .long 10), (3, .long 1)]) hx hb dX10_goesMany_96 hl (k := 0) rfl (by decide +kernel) (by decide) rfl (fun ls hl => ?_)
  refine lv_goto (tgt := 24) hx hb dX10_goesMany_99 (by decide) ?_
  refine lv_iload hx hb dX10_goesMany_24 (lv_at hl 0 rfl) ?_
  refine lv_iconst (v := 4) hx hb dX10_goesMany_26 (by decide) ?_
  refine lv_icmp_ge (tgt := 102) hx hb dX10_goesMany_27 (by decide) (fun c_6 => absurd c_6 (by decide)) (fun _ => ?_)
  refine lv_aload_n hx hb dX10_goesMany_30 rfl (lv_at hl 3 rfl) ?_
  refine va_get (ci := 10) (v := .ref (z 30)) (C := RX10) (T := TX10) (N := 40) hx hb hg inX10 hown hK hP 4 rfl rfl 30 (by decide) (hg _ q_6_14) (fun _ h9 => h9) rfl dX10_goesMany_31 ?_
  refine lv_iload hx hb dX10_goesMany_34 (lv_at hl 1 rfl) ?_
  refine va_lald hx hb hK hP 2 2 rfl rfl (vin (by decide +kernel)) dX10_goesMany_36 ?_
  refine tpl (y := 1000000) (rfl) ?_
  refine lv_lconst (v := 0) hx hb dX10_goesMany_37 (by decide) ?_
  refine W.lcmp hx hb dX10_goesMany_38 ?_
  refine lv_if_le (tgt := 102) hx hb dX10_goesMany_39 (by decide) (fun c_7 => absurd ((lg_cmp_le _ _).mp c_7) (by decide)) (fun _ => ?_)
  refine lv_aload_n hx hb dX10_goesMany_42 rfl (lv_at hl 3 rfl) ?_
  refine va_get (ci := 10) (v := .ref (z 25)) (C := RX10) (T := TX10) (N := 40) hx hb hg inX10 hown hK hP 4 rfl rfl 25 (by decide) (hg _ q_6_9) (fun _ h9 => h9) rfl dX10_goesMany_43 ?_
  refine lv_iconst (v := 4) hx hb dX10_goesMany_46 (by decide) ?_
  refine lv_iload hx hb dX10_goesMany_47 (lv_at hl 1 rfl) ?_
  refine lv_imul hx hb dX10_goesMany_49 ?_
  refine tpi (y := 0) (by decide +kernel) ?_
  refine lv_iload hx hb dX10_goesMany_50 (lv_at hl 0 rfl) ?_
  refine lv_iadd hx hb dX10_goesMany_52 ?_
  refine tpi (y := 1) (by decide +kernel) ?_
  refine va_iald hx hb hK hP 1 0 rfl rfl (vin (by decide +kernel)) dX10_goesMany_53 ?_
  refine tpi (y := (-1)) (rfl) ?_
  refine lv_iconst (v := (-1)) hx hb dX10_goesMany_54 (by decide) ?_
  refine lv_icmp_eq (tgt := 96) hx hb dX10_goesMany_55 (by decide) (fun _ => ?_) (fun c_8 => absurd c_8 (by decide))
  refine lv_iinc (v := 2) (lv' := [(7, .int 2), (6, .int 0), (5, .int 0), (0, .ref (z 0)), (1, .long 10), (3, .long 1)]) hx hb dX10_goesMany_96 hl (k := 0) rfl (by decide +kernel) (by decide) rfl (fun ls hl => ?_)
  refine lv_goto (tgt := 24) hx hb dX10_goesMany_99 (by decide) ?_
  refine lv_iload hx hb dX10_goesMany_24 (lv_at hl 0 rfl) ?_
  refine lv_iconst (v := 4) hx hb dX10_goesMany_26 (by decide) ?_
  refine lv_icmp_ge (tgt := 102) hx hb dX10_goesMany_27 (by decide) (fun c_9 => absurd c_9 (by decide)) (fun _ => ?_)
  refine lv_aload_n hx hb dX10_goesMany_30 rfl (lv_at hl 3 rfl) ?_
  refine va_get (ci := 10) (v := .ref (z 30)) (C := RX10) (T := TX10) (N := 40) hx hb hg inX10 hown hK hP 4 rfl rfl 30 (by decide) (hg _ q_6_14) (fun _ h9 => h9) rfl dX10_goesMany_31 ?_
  refine lv_iload hx hb dX10_goesMany_34 (lv_at hl 1 rfl) ?_
  refine va_lald hx hb hK hP 2 2 rfl rfl (vin (by decide +kernel)) dX10_goesMany_36 ?_
  refine tpl (y := 1000000) (rfl) ?_
  refine lv_lconst (v := 0) hx hb dX10_goesMany_37 (by decide) ?_
  refine W.lcmp hx hb dX10_goesMany_38 ?_
  refine lv_if_le (tgt := 102) hx hb dX10_goesMany_39 (by decide) (fun c_10 => absurd ((lg_cmp_le _ _).mp c_10) (by decide)) (fun _ => ?_)
  refine lv_aload_n hx hb dX10_goesMany_42 rfl (lv_at hl 3 rfl) ?_
  refine va_get (ci := 10) (v := .ref (z 25)) (C := RX10) (T := TX10) (N := 40) hx hb hg inX10 hown hK hP 4 rfl rfl 25 (by decide) (hg _ q_6_9) (fun _ h9 => h9) rfl dX10_goesMany_43 ?_
  refine lv_iconst (v := 4) hx hb dX10_goesMany_46 (by decide) ?_
  refine lv_iload hx hb dX10_goesMany_47 (lv_at hl 1 rfl) ?_
  refine lv_imul hx hb dX10_goesMany_49 ?_
  refine tpi (y := 0) (by decide +kernel) ?_
  refine lv_iload hx hb dX10_goesMany_50 (lv_at hl 0 rfl) ?_
  refine lv_iadd hx hb dX10_goesMany_52 ?_
  refine tpi (y := 2) (by decide +kernel) ?_
  refine va_iald hx hb hK hP 1 0 rfl rfl (vin (by decide +kernel)) dX10_goesMany_53 ?_
  refine tpi (y := (-1)) (rfl) ?_
  refine lv_iconst (v := (-1)) hx hb dX10_goesMany_54 (by decide) ?_
  refine lv_icmp_eq (tgt := 96) hx hb dX10_goesMany_55 (by decide) (fun _ => ?_) (fun c_11 => absurd c_11 (by decide))
  refine lv_iinc (v := 3) (lv' := [(7, .int 3), (6, .int 0), (5, .int 0), (0, .ref (z 0)), (1, .long 10), (3, .long 1)]) hx hb dX10_goesMany_96 hl (k := 0) rfl (by decide +kernel) (by decide) rfl (fun ls hl => ?_)
  refine lv_goto (tgt := 24) hx hb dX10_goesMany_99 (by decide) ?_
  refine lv_iload hx hb dX10_goesMany_24 (lv_at hl 0 rfl) ?_
  refine lv_iconst (v := 4) hx hb dX10_goesMany_26 (by decide) ?_
  refine lv_icmp_ge (tgt := 102) hx hb dX10_goesMany_27 (by decide) (fun c_12 => absurd c_12 (by decide)) (fun _ => ?_)
  refine lv_aload_n hx hb dX10_goesMany_30 rfl (lv_at hl 3 rfl) ?_
  refine va_get (ci := 10) (v := .ref (z 30)) (C := RX10) (T := TX10) (N := 40) hx hb hg inX10 hown hK hP 4 rfl rfl 30 (by decide) (hg _ q_6_14) (fun _ h9 => h9) rfl dX10_goesMany_31 ?_
  refine lv_iload hx hb dX10_goesMany_34 (lv_at hl 1 rfl) ?_
  refine va_lald hx hb hK hP 2 2 rfl rfl (vin (by decide +kernel)) dX10_goesMany_36 ?_
  refine tpl (y := 1000000) (rfl) ?_
  refine lv_lconst (v := 0) hx hb dX10_goesMany_37 (by decide) ?_
  refine W.lcmp hx hb dX10_goesMany_38 ?_
  refine lv_if_le (tgt := 102) hx hb dX10_goesMany_39 (by decide) (fun c_13 => absurd ((lg_cmp_le _ _).mp c_13) (by decide)) (fun _ => ?_)
  refine lv_aload_n hx hb dX10_goesMany_42 rfl (lv_at hl 3 rfl) ?_
  refine va_get (ci := 10) (v := .ref (z 25)) (C := RX10) (T := TX10) (N := 40) hx hb hg inX10 hown hK hP 4 rfl rfl 25 (by decide) (hg _ q_6_9) (fun _ h9 => h9) rfl dX10_goesMany_43 ?_
  refine lv_iconst (v := 4) hx hb dX10_goesMany_46 (by decide) ?_
  refine lv_iload hx hb dX10_goesMany_47 (lv_at hl 1 rfl) ?_
  refine lv_imul hx hb dX10_goesMany_49 ?_
  refine tpi (y := 0) (by decide +kernel) ?_
  refine lv_iload hx hb dX10_goesMany_50 (lv_at hl 0 rfl) ?_
  refine lv_iadd hx hb dX10_goesMany_52 ?_
  refine tpi (y := 3) (by decide +kernel) ?_
  refine va_iald hx hb hK hP 1 0 rfl rfl (vin (by decide +kernel)) dX10_goesMany_53 ?_
  refine tpi (y := (-1)) (rfl) ?_
  refine lv_iconst (v := (-1)) hx hb dX10_goesMany_54 (by decide) ?_
  refine lv_icmp_eq (tgt := 96) hx hb dX10_goesMany_55 (by decide) (fun _ => ?_) (fun c_14 => absurd c_14 (by decide))
  refine lv_iinc (v := 4) (lv' := [(7, .int 4), (6, .int 0), (5, .int 0), (0, .ref (z 0)), (1, .long 10), (3, .long 1)]) hx hb dX10_goesMany_96 hl (k := 0) rfl (by decide +kernel) (by decide) rfl (fun ls hl => ?_)
  refine lv_goto (tgt := 24) hx hb dX10_goesMany_99 (by decide) ?_
  refine lv_iload hx hb dX10_goesMany_24 (lv_at hl 0 rfl) ?_
  refine lv_iconst (v := 4) hx hb dX10_goesMany_26 (by decide) ?_
  refine lv_icmp_ge (tgt := 102) hx hb dX10_goesMany_27 (by decide) (fun _ => ?_) (fun c_15 => absurd c_15 (by decide))
  refine lv_iinc (v := 1) (lv' := [(5, .int 1), (7, .int 4), (6, .int 0), (0, .ref (z 0)), (1, .long 10), (3, .long 1)]) hx hb dX10_goesMany_102 hl (k := 2) rfl (by decide +kernel) (by decide) rfl (fun ls hl => ?_)
  refine lv_goto (tgt := 3) hx hb dX10_goesMany_105 (by decide) ?_
  refine lv_iload hx hb dX10_goesMany_3 (lv_at hl 0 rfl) ?_
  refine lv_aload_n hx hb dX10_goesMany_5 rfl (lv_at hl 3 rfl) ?_
  refine va_get (ci := 10) (v := .int 1) (C := RX10) (T := TX10) (N := 40) hx hb hg inX10 hown hK hP 4 rfl rfl 29 (by decide) (hg _ q_6_13) (fun _ h9 => h9) rfl dX10_goesMany_6 ?_
  refine lv_icmp_ge (tgt := 108) hx hb dX10_goesMany_9 (by decide) (fun _ => ?_) (fun c_16 => absurd c_16 (by decide))
  refine lv_aload_n hx hb dX10_goesMany_108 rfl (lv_at hl 3 rfl) ?_
  refine jnV (wr := [(z 24, aI V 10000 (fun _ => 0)), (z 25, aI V 40000 (upd (upd (upd (fun _ => 0) 1 (-1)) 2 (-1)) 3 (-1)))]) (rnV (rest := []) ⟨hx, hb, hml, hown, hg⟩ (c_X10_isThen_6 l V z) mt_X10_isThen q_7_228 ⟨Nat.le_of_ble_eq_true rfl, Nat.le_of_ble_eq_true rfl⟩ hK hP hD hS hA hE [2, 3, 4] rfl rfl 4 rfl rfl rfl rfl hl.1 rfl (Nat.le_of_ble_eq_true rfl) dX10_goesMany_109 ⟨Nat.le_of_ble_eq_true rfl, Nat.le_of_ble_eq_true rfl⟩) hP hD hS hA [2, 3, 4] [0, 1] rfl rfl rfl (by decide) (fun  w H locs hw hP hD hS => ?_)
  subst hw
  have hP : va_P V.1 vwCl [(z 24, aI V 10000 (fun _ => 0)), (z 25, aI V 40000 (upd (upd (upd (fun _ => 0) 1 (-1)) 2 (-1)) 3 (-1))), (z 30, aJ V 10000 (vp_updL (fun _ => 0) 0 10000000)), (z 31, aJ V 10000 (fun _ => 0)), (z 0, .inr (10, mo z 0 0 0 0 0 0 0 0 0 0 (-1) 0 0 0 0 1))] H := hP
  have hD : va_D A [(z 24, aI V 10000 (fun _ => 0)), (z 25, aI V 40000 (upd (upd (upd (fun _ => 0) 1 (-1)) 2 (-1)) 3 (-1))), (z 30, aJ V 10000 (vp_updL (fun _ => 0) 0 10000000)), (z 31, aJ V 10000 (fun _ => 0)), (z 0, .inr (10, mo z 0 0 0 0 0 0 0 0 0 0 (-1) 0 0 0 0 1))] := hD
  exact fiV hx hb hr hlk hK hP hD hS dX10_goesMany_112 (Nat.le_of_ble_eq_true rfl) (Nat.le_of_ble_eq_true rfl) (rfl)
set_option maxHeartbeats 4000000 in
set_option maxRecDepth 100000 in
theorem c_X10_laysLikely_7 (l : Launch) (V : GV) (z : Nat → Nat) : Ct l V yX10_laysLikely (.code yX10_laysLikely cX10_laysLikely 4 none) 4 [.ref (z 0), .int 7] [(z 0, .inr (10, mo z 0 0 0 0 0 0 0 0 0 0 (-1) 0 0 0 0 0)), (z 24, aI V 10000 (fun _ => 0)), (z 25, aI V 40000 (fun _ => 0)), (z 28, aZ V 10000 (fun _ => 0)), (z 30, aJ V 10000 (fun _ => 0)), (z 31, aJ V 10000 (fun _ => 0)), (z 1, aI V 3075 (fun _ => 0))] 0 0 (QV V (fun (w : va_W) => (w = [(z 0, .inr (10, mo z 0 0 0 0 0 0 0 0 0 0 (-1) 0 0 0 0 1)), (z 24, aI V 10000 (fun _ => 0)), (z 25, aI V 40000 (upd (upd (upd (fun _ => 0) 1 (-1)) 2 (-1)) 3 (-1))), (z 28, aZ V 10000 (upd (fun _ => 0) 0 1)), (z 30, aJ V 10000 (vp_updL (fun _ => 0) 0 10000000)), (z 31, aJ V 10000 (fun _ => 0)), (z 1, aI V 3075 (fun _ => 0))]))) := by
  refine Ct.of (by decide) (Nat.le_of_ble_eq_true rfl) (fun p e s m below meth c A ls hx hb hr hml hown hlk hnm hg hP hK hD hE hA hS hl => ?_)
  have hl : lv_has ls 4 [(0, .ref (z 0)), (1, .int 7)] := hl
  refine lv_aload_n hx hb dX10_laysLikely_0 rfl (lv_at hl 0 rfl) ?_
  refine jnV (wr := [(z 30, aJ V 10000 (fun _ => 0)), (z 31, aJ V 10000 (fun _ => 0))]) (rnV (rest := []) ⟨hx, hb, hml, hown, hg⟩ (c_X10_laysStands_0 l V z) mt_X10_laysStands q_7_194 ⟨Nat.le_of_ble_eq_true rfl, Nat.le_of_ble_eq_true rfl⟩ hK hP hD hS hA hE [0, 1, 2, 3, 6] rfl rfl 0 rfl rfl rfl rfl hl.1 rfl (Nat.le_of_ble_eq_true rfl) dX10_laysLikely_1 ⟨Nat.le_of_ble_eq_true rfl, Nat.le_of_ble_eq_true rfl⟩) hP hD hS hA [0, 1, 2, 3, 6] [4, 5] rfl rfl rfl (by decide) (fun  w H locs hw hP hD hS => ?_)
  subst hw
  have hP : va_P V.1 vwCl [(z 30, aJ V 10000 (fun _ => 0)), (z 31, aJ V 10000 (fun _ => 0)), (z 0, .inr (10, mo z 0 0 0 0 0 0 0 0 0 0 (-1) 0 0 0 0 1)), (z 24, aI V 10000 (fun _ => 0)), (z 25, aI V 40000 (upd (upd (upd (fun _ => 0) 1 (-1)) 2 (-1)) 3 (-1))), (z 28, aZ V 10000 (upd (fun _ => 0) 0 1)), (z 1, aI V 3075 (fun _ => 0))] H := hP
  have hD : va_D A [(z 30, aJ V 10000 (fun _ => 0)), (z 31, aJ V 10000 (fun _ => 0)), (z 0, .inr (10, mo z 0 0 0 0 0 0 0 0 0 0 (-1) 0 0 0 0 1)), (z 24, aI V 10000 (fun _ => 0)), (z 25, aI V 40000 (upd (upd (upd (fun _ => 0) 1 (-1)) 2 (-1)) 3 (-1))), (z 28, aZ V 10000 (upd (fun _ => 0) 0 1)), (z 1, aI V 3075 (fun _ => 0))] := hD
  refine lv_aload_n hx hb dX10_laysLikely_4 rfl (lv_at hl 0 rfl) ?_
  refine jnV (wr := [(z 24, aI V 10000 (fun _ => 0)), (z 25, aI V 40000 (upd (upd (upd (fun _ => 0) 1 (-1)) 2 (-1)) 3 (-1))), (z 28, aZ V 10000 (upd (fun _ => 0) 0 1))]) (rnV (rest := []) ⟨hx, hb, hml, hown, hg⟩ (c_X10_beginsMany_0 l V z) mt_X10_beginsMany q_7_220 ⟨Nat.le_of_ble_eq_true rfl, Nat.le_of_ble_eq_true rfl⟩ hK hP hD hS hA hE [0, 1, 2, 6] rfl rfl 2 rfl rfl rfl rfl hl.1 rfl (Nat.le_of_ble_eq_true rfl) dX10_laysLikely_5 ⟨Nat.le_of_ble_eq_true rfl, Nat.le_of_ble_eq_true rfl⟩) hP hD hS hA [0, 1, 2, 6] [3, 4, 5] rfl rfl rfl (by decide) (fun  w H locs hw hP hD hS => ?_)
  subst hw
  have hP : va_P V.1 vwCl [(z 24, aI V 10000 (fun _ => 0)), (z 25, aI V 40000 (upd (upd (upd (fun _ => 0) 1 (-1)) 2 (-1)) 3 (-1))), (z 28, aZ V 10000 (upd (fun _ => 0) 0 1)), (z 30, aJ V 10000 (vp_updL (fun _ => 0) 0 1)), (z 31, aJ V 10000 (fun _ => 0)), (z 0, .inr (10, mo z 0 0 0 0 0 0 0 0 0 0 (-1) 0 0 0 0 1)), (z 1, aI V 3075 (fun _ => 0))] H := hP
  have hD : va_D A [(z 24, aI V 10000 (fun _ => 0)), (z 25, aI V 40000 (upd (upd (upd (fun _ => 0) 1 (-1)) 2 (-1)) 3 (-1))), (z 28, aZ V 10000 (upd (fun _ => 0) 0 1)), (z 30, aJ V 10000 (vp_updL (fun _ => 0) 0 1)), (z 31, aJ V 10000 (fun _ => 0)), (z 0, .inr (10, mo z 0 0 0 0 0 0 0 0 0 0 (-1) 0 0 0 0 1)), (z 1, aI V 3075 (fun _ => 0))] := hD
  refine lv_aload_n hx hb dX10_laysLikely_8 rfl (lv_at hl 0 rfl) ?_
  refine va_get (ci := 10) (v := .ref (z 1)) (C := RX10) (T := TX10) (N := 40) hx hb hg inX10 hown hK hP 5 rfl rfl 1 (by decide) (hg _ q_5_225) (fun _ h9 => h9) rfl dX10_laysLikely_9 ?_
  refine lv_iconst (v := 1) hx hb dX10_laysLikely_12 (by decide) ?_
  refine va_iald hx hb hK hP 6 0 rfl rfl (vin (by decide +kernel)) dX10_laysLikely_13 ?_
  refine tpi (y := 0) (rfl) ?_
  refine lv_if_ne (tgt := 21) hx hb dX10_laysLikely_14 (by decide) (fun c_1 => absurd c_1 (by decide)) (fun _ => ?_)
  refine lv_iconst (v := 0) hx hb dX10_laysLikely_17 (by decide) ?_
  refine lv_goto (tgt := 29) hx hb dX10_laysLikely_18 (by decide) ?_
  refine lv_istore_n (lv' := [(2, .int 0), (0, .ref (z 0)), (1, .int 7)]) hx hb dX10_laysLikely_29 rfl hl (by decide) rfl (fun ls hl => ?_)
  refine lv_iconst (v := 0) hx hb dX10_laysLikely_30 (by decide) ?_
  refine lv_istore_n (lv' := [(3, .int 0), (2, .int 0), (0, .ref (z 0)), (1, .int 7)]) hx hb dX10_laysLikely_31 rfl hl (by decide) rfl (fun ls hl => ?_)
  refine lv_iload_n hx hb dX10_laysLikely_32 rfl (lv_at hl 0 rfl) ?_
  refine lv_iload_n hx hb dX10_laysLikely_33 rfl (lv_at hl 3 rfl) ?_
  refine lv_icmp_ge (tgt := 54) hx hb dX10_laysLikely_34 (by decide) (fun c_2 => absurd c_2 (by decide)) (fun _ => ?_)
  refine lv_aload_n hx hb dX10_laysLikely_37 rfl (lv_at hl 2 rfl) ?_
  refine lv_ldc2 (v := 10) hx hb hown (hg _ q_7_102) dX10_laysLikely_38 ?_
  refine lv_iload_n hx hb dX10_laysLikely_41 rfl (lv_at hl 1 rfl) ?_
  refine lv_i2l (v := 0) hx hb dX10_laysLikely_42 (by decide +kernel) ?_
  refine lv_lsub hx hb dX10_laysLikely_43 ?_
  refine tpl (y := 10) (by decide +kernel) ?_
  refine lv_lconst (v := 1) hx hb dX10_laysLikely_44 (by decide) ?_
  refine jnV (wr := [(z 28, aZ V 10000 (upd (fun _ => 0) 0 1)), (z 1, aI V 3075 (fun _ => 0))]) (rnV (rest := []) ⟨hx, hb, hml, hown, hg⟩ (c_X10_goesMany_0 l V z) mt_X10_goesMany q_7_224 ⟨Nat.le_of_ble_eq_true rfl, Nat.le_of_ble_eq_true rfl⟩ hK hP hD hS hA hE [0, 1, 3, 4, 5] rfl rfl 5 rfl rfl rfl rfl hl.1 rfl (Nat.le_of_ble_eq_true rfl) dX10_laysLikely_45 ⟨Nat.le_of_ble_eq_true rfl, Nat.le_of_ble_eq_true rfl⟩) hP hD hS hA [0, 1, 3, 4, 5] [2, 6] rfl rfl rfl (by decide) (fun  w H locs hw hP hD hS => ?_)
  subst hw
  have hP : va_P V.1 vwCl [(z 28, aZ V 10000 (upd (fun _ => 0) 0 1)), (z 1, aI V 3075 (fun _ => 0)), (z 24, aI V 10000 (fun _ => 0)), (z 25, aI V 40000 (upd (upd (upd (fun _ => 0) 1 (-1)) 2 (-1)) 3 (-1))), (z 30, aJ V 10000 (vp_updL (fun _ => 0) 0 10)), (z 31, aJ V 10000 (fun _ => 0)), (z 0, .inr (10, mo z 0 0 0 0 0 0 0 0 0 0 (-1) 0 0 0 0 1))] H := hP
  have hD : va_D A [(z 28, aZ V 10000 (upd (fun _ => 0) 0 1)), (z 1, aI V 3075 (fun _ => 0)), (z 24, aI V 10000 (fun _ => 0)), (z 25, aI V 40000 (upd (upd (upd (fun _ => 0) 1 (-1)) 2 (-1)) 3 (-1))), (z 30, aJ V 10000 (vp_updL (fun _ => 0) 0 10)), (z 31, aJ V 10000 (fun _ => 0)), (z 0, .inr (10, mo z 0 0 0 0 0 0 0 0 0 0 (-1) 0 0 0 0 1))] := hD
  refine lv_iinc (v := 1) (lv' := [(3, .int 1), (2, .int 0), (0, .ref (z 0)), (1, .int 7)]) hx hb dX10_laysLikely_48 hl (k := 0) rfl (by decide +kernel) (by decide) rfl (fun ls hl => ?_)
  refine lv_goto (tgt := 32) hx hb dX10_laysLikely_51 (by decide) ?_
  refine lv_iload_n hx hb dX10_laysLikely_32 rfl (lv_at hl 0 rfl) ?_
  refine lv_iload_n hx hb dX10_laysLikely_33 rfl (lv_at hl 3 rfl) ?_
  refine lv_icmp_ge (tgt := 54) hx hb dX10_laysLikely_34 (by decide) (fun c_3 => absurd c_3 (by decide)) (fun _ => ?_)
  refine lv_aload_n hx hb dX10_laysLikely_37 rfl (lv_at hl 2 rfl) ?_
  refine lv_ldc2 (v := 10) hx hb hown (hg _ q_7_102) dX10_laysLikely_38 ?_
  refine lv_iload_n hx hb dX10_laysLikely_41 rfl (lv_at hl 1 rfl) ?_
  refine lv_i2l (v := 0) hx hb dX10_laysLikely_42 (by decide +kernel) ?_
  refine lv_lsub hx hb dX10_laysLikely_43 ?_
  refine tpl (y := 10) (by decide +kernel) ?_
  refine lv_lconst (v := 1) hx hb dX10_laysLikely_44 (by decide) ?_
  refine jnV (wr := [(z 28, aZ V 10000 (upd (fun _ => 0) 0 1)), (z 1, aI V 3075 (fun _ => 0))]) (rnV (rest := []) ⟨hx, hb, hml, hown, hg⟩ (c_X10_goesMany_1 l V z) mt_X10_goesMany q_7_224 ⟨Nat.le_of_ble_eq_true rfl, Nat.le_of_ble_eq_true rfl⟩ hK hP hD hS hA hE [2, 3, 4, 5, 6] rfl rfl 6 rfl rfl rfl rfl hl.1 rfl (Nat.le_of_ble_eq_true rfl) dX10_laysLikely_45 ⟨Nat.le_of_ble_eq_true rfl, Nat.le_of_ble_eq_true rfl⟩) hP hD hS hA [2, 3, 4, 5, 6] [0, 1] rfl rfl rfl (by decide) (fun  w H locs hw hP hD hS => ?_)
  subst hw
  have hP : va_P V.1 vwCl [(z 28, aZ V 10000 (upd (fun _ => 0) 0 1)), (z 1, aI V 3075 (fun _ => 0)), (z 24, aI V 10000 (fun _ => 0)), (z 25, aI V 40000 (upd (upd (upd (fun _ => 0) 1 (-1)) 2 (-1)) 3 (-1))), (z 30, aJ V 10000 (vp_updL (fun _ => 0) 0 100)), (z 31, aJ V 10000 (fun _ => 0)), (z 0, .inr (10, mo z 0 0 0 0 0 0 0 0 0 0 (-1) 0 0 0 0 1))] H := hP
  have hD : va_D A [(z 28, aZ V 10000 (upd (fun _ => 0) 0 1)), (z 1, aI V 3075 (fun _ => 0)), (z 24, aI V 10000 (fun _ => 0)), (z 25, aI V 40000 (upd (upd (upd (fun _ => 0) 1 (-1)) 2 (-1)) 3 (-1))), (z 30, aJ V 10000 (vp_updL (fun _ => 0) 0 100)), (z 31, aJ V 10000 (fun _ => 0)), (z 0, .inr (10, mo z 0 0 0 0 0 0 0 0 0 0 (-1) 0 0 0 0 1))] := hD
  refine lv_iinc (v := 2) (lv' := [(3, .int 2), (2, .int 0), (0, .ref (z 0)), (1, .int 7)]) hx hb dX10_laysLikely_48 hl (k := 0) rfl (by decide +kernel) (by decide) rfl (fun ls hl => ?_)
  refine lv_goto (tgt := 32) hx hb dX10_laysLikely_51 (by decide) ?_
  refine lv_iload_n hx hb dX10_laysLikely_32 rfl (lv_at hl 0 rfl) ?_
  refine lv_iload_n hx hb dX10_laysLikely_33 rfl (lv_at hl 3 rfl) ?_
  refine lv_icmp_ge (tgt := 54) hx hb dX10_laysLikely_34 (by decide) (fun c_4 => absurd c_4 (by decide)) (fun _ => ?_)
  refine lv_aload_n hx hb dX10_laysLikely_37 rfl (lv_at hl 2 rfl) ?_
  refine lv_ldc2 (v := 10) hx hb hown (hg _ q_7_102) dX10_laysLikely_38 ?_
  refine lv_iload_n hx hb dX10_laysLikely_41 rfl (lv_at hl 1 rfl) ?_
  refine lv_i2l (v := 0) hx hb dX10_laysLikely_42 (by decide +kernel) ?_
  refine lv_lsub hx hb dX10_laysLikely_43 ?_
  refine tpl (y := 10) (by decide +kernel) ?_
  refine lv_lconst (v := 1) hx hb dX10_laysLikely_44 (by decide) ?_
  refine jnV (wr := [(z 28, aZ V 10000 (upd (fun _ => 0) 0 1)), (z 1, aI V 3075 (fun _ => 0))]) (rnV (rest := []) ⟨hx, hb, hml, hown, hg⟩ (c_X10_goesMany_2 l V z) mt_X10_goesMany q_7_224 ⟨Nat.le_of_ble_eq_true rfl, Nat.le_of_ble_eq_true rfl⟩ hK hP hD hS hA hE [2, 3, 4, 5, 6] rfl rfl 6 rfl rfl rfl rfl hl.1 rfl (Nat.le_of_ble_eq_true rfl) dX10_laysLikely_45 ⟨Nat.le_of_ble_eq_true rfl, Nat.le_of_ble_eq_true rfl⟩) hP hD hS hA [2, 3, 4, 5, 6] [0, 1] rfl rfl rfl (by decide) (fun  w H locs hw hP hD hS => ?_)
  subst hw
  have hP : va_P V.1 vwCl [(z 28, aZ V 10000 (upd (fun _ => 0) 0 1)), (z 1, aI V 3075 (fun _ => 0)), (z 24, aI V 10000 (fun _ => 0)), (z 25, aI V 40000 (upd (upd (upd (fun _ => 0) 1 (-1)) 2 (-1)) 3 (-1))), (z 30, aJ V 10000 (vp_updL (fun _ => 0) 0 1000)), (z 31, aJ V 10000 (fun _ => 0)), (z 0, .inr (10, mo z 0 0 0 0 0 0 0 0 0 0 (-1) 0 0 0 0 1))] H := hP
  have hD : va_D A [(z 28, aZ V 10000 (upd (fun _ => 0) 0 1)), (z 1, aI V 3075 (fun _ => 0)), (z 24, aI V 10000 (fun _ => 0)), (z 25, aI V 40000 (upd (upd (upd (fun _ => 0) 1 (-1)) 2 (-1)) 3 (-1))), (z 30, aJ V 10000 (vp_updL (fun _ => 0) 0 1000)), (z 31, aJ V 10000 (fun _ => 0)), (z 0, .inr (10, mo z 0 0 0 0 0 0 0 0 0 0 (-1) 0 0 0 0 1))] := hD
  refine lv_iinc (v := 3) (lv' := [(3, .int 3), (2, .int 0), (0, .ref (z 0)), (1, .int 7)]) hx hb dX10_laysLikely_48 hl (k := 0) rfl (by decide +kernel) (by decide) rfl (fun ls hl => ?_)
  refine lv_goto (tgt := 32) hx hb dX10_laysLikely_51 (by decide) ?_
  refine lv_iload_n hx hb dX10_laysLikely_32 rfl (lv_at hl 0 rfl) ?_
  refine lv_iload_n hx hb dX10_laysLikely_33 rfl (lv_at hl 3 rfl) ?_
  refine lv_icmp_ge (tgt := 54) hx hb dX10_laysLikely_34 (by decide) (fun c_5 => absurd c_5 (by decide)) (fun _ => ?_)
  refine lv_aload_n hx hb dX10_laysLikely_37 rfl (lv_at hl 2 rfl) ?_
  refine lv_ldc2 (v := 10) hx hb hown (hg _ q_7_102) dX10_laysLikely_38 ?_
  refine lv_iload_n hx hb dX10_laysLikely_41 rfl (lv_at hl 1 rfl) ?_
  refine lv_i2l (v := 0) hx hb dX10_laysLikely_42 (by decide +kernel) ?_
  refine lv_lsub hx hb dX10_laysLikely_43 ?_
  refine tpl (y := 10) (by decide +kernel) ?_
  refine lv_lconst (v := 1) hx hb dX10_laysLikely_44 (by decide) ?_
  refine jnV (wr := [(z 28, aZ V 10000 (upd (fun _ => 0) 0 1)), (z 1, aI V 3075 (fun _ => 0))]) (rnV (rest := []) ⟨hx, hb, hml, hown, hg⟩ (c_X10_goesMany_3 l V z) mt_X10_goesMany q_7_224 ⟨Nat.le_of_ble_eq_true rfl, Nat.le_of_ble_eq_true rfl⟩ hK hP hD hS hA hE [2, 3, 4, 5, 6] rfl rfl 6 rfl rfl rfl rfl hl.1 rfl (Nat.le_of_ble_eq_true rfl) dX10_laysLikely_45 ⟨Nat.le_of_ble_eq_true rfl, Nat.le_of_ble_eq_true rfl⟩) hP hD hS hA [2, 3, 4, 5, 6] [0, 1] rfl rfl rfl (by decide) (fun  w H locs hw hP hD hS => ?_)
  subst hw
  have hP : va_P V.1 vwCl [(z 28, aZ V 10000 (upd (fun _ => 0) 0 1)), (z 1, aI V 3075 (fun _ => 0)), (z 24, aI V 10000 (fun _ => 0)), (z 25, aI V 40000 (upd (upd (upd (fun _ => 0) 1 (-1)) 2 (-1)) 3 (-1))), (z 30, aJ V 10000 (vp_updL (fun _ => 0) 0 10000)), (z 31, aJ V 10000 (fun _ => 0)), (z 0, .inr (10, mo z 0 0 0 0 0 0 0 0 0 0 (-1) 0 0 0 0 1))] H := hP
  have hD : va_D A [(z 28, aZ V 10000 (upd (fun _ => 0) 0 1)), (z 1, aI V 3075 (fun _ => 0)), (z 24, aI V 10000 (fun _ => 0)), (z 25, aI V 40000 (upd (upd (upd (fun _ => 0) 1 (-1)) 2 (-1)) 3 (-1))), (z 30, aJ V 10000 (vp_updL (fun _ => 0) 0 10000)), (z 31, aJ V 10000 (fun _ => 0)), (z 0, .inr (10, mo z 0 0 0 0 0 0 0 0 0 0 (-1) 0 0 0 0 1))] := hD
  refine lv_iinc (v := 4) (lv' := [(3, .int 4), (2, .int 0), (0, .ref (z 0)), (1, .int 7)]) hx hb dX10_laysLikely_48 hl (k := 0) rfl (by decide +kernel) (by decide) rfl (fun ls hl => ?_)
  refine lv_goto (tgt := 32) hx hb dX10_laysLikely_51 (by decide) ?_
  refine lv_iload_n hx hb dX10_laysLikely_32 rfl (lv_at hl 0 rfl) ?_
  refine lv_iload_n hx hb dX10_laysLikely_33 rfl (lv_at hl 3 rfl) ?_
  refine lv_icmp_ge (tgt := 54) hx hb dX10_laysLikely_34 (by decide) (fun c_6 => absurd c_6 (by decide)) (fun _ => ?_)
  refine lv_aload_n hx hb dX10_laysLikely_37 rfl (lv_at hl 2 rfl) ?_
  refine lv_ldc2 (v := 10) hx hb hown (hg _ q_7_102) dX10_laysLikely_38 ?_
  refine lv_iload_n hx hb dX10_laysLikely_41 rfl (lv_at hl 1 rfl) ?_
  refine lv_i2l (v := 0) hx hb dX10_laysLikely_42 (by decide +kernel) ?_
  refine lv_lsub hx hb dX10_laysLikely_43 ?_
  refine tpl (y := 10) (by decide +kernel) ?_
  refine lv_lconst (v := 1) hx hb dX10_laysLikely_44 (by decide) ?_
  refine jnV (wr := [(z 28, aZ V 10000 (upd (fun _ => 0) 0 1)), (z 1, aI V 3075 (fun _ => 0))]) (rnV (rest := []) ⟨hx, hb, hml, hown, hg⟩ (c_X10_goesMany_4 l V z) mt_X10_goesMany q_7_224 ⟨Nat.le_of_ble_eq_true rfl, Nat.le_of_ble_eq_true rfl⟩ hK hP hD hS hA hE [2, 3, 4, 5, 6] rfl rfl 6 rfl rfl rfl rfl hl.1 rfl (Nat.le_of_ble_eq_true rfl) dX10_laysLikely_45 ⟨Nat.le_of_ble_eq_true rfl, Nat.le_of_ble_eq_true rfl⟩) hP hD hS hA [2, 3, 4, 5, 6] [0, 1] rfl rfl rfl (by decide) (fun  w H locs hw hP hD hS => ?_)
  subst hw
  have hP : va_P V.1 vwCl [(z 28, aZ V 10000 (upd (fun _ => 0) 0 1)), (z 1, aI V 3075 (fun _ => 0)), (z 24, aI V 10000 (fun _ => 0)), (z 25, aI V 40000 (upd (upd (upd (fun _ => 0) 1 (-1)) 2 (-1)) 3 (-1))), (z 30, aJ V 10000 (vp_updL (fun _ => 0) 0 100000)), (z 31, aJ V 10000 (fun _ => 0)), (z 0, .inr (10, mo z 0 0 0 0 0 0 0 0 0 0 (-1) 0 0 0 0 1))] H := hP
  have hD : va_D A [(z 28, aZ V 10000 (upd (fun _ => 0) 0 1)), (z 1, aI V 3075 (fun _ => 0)), (z 24, aI V 10000 (fun _ => 0)), (z 25, aI V 40000 (upd (upd (upd (fun _ => 0) 1 (-1)) 2 (-1)) 3 (-1))), (z 30, aJ V 10000 (vp_updL (fun _ => 0) 0 100000)), (z 31, aJ V 10000 (fun _ => 0)), (z 0, .inr (10, mo z 0 0 0 0 0 0 0 0 0 0 (-1) 0 0 0 0 1))] := hD
  refine lv_iinc (v := 5) (lv' := [(3, .int 5), (2, .int 0), (0, .ref (z 0)), (1, .int 7)]) hx hb dX10_laysLikely_48 hl (k := 0) rfl (by decide +kernel) (by decide) rfl (fun ls hl => ?_)
  refine lv_goto (tgt := 32) hx hb dX10_laysLikely_51 (by decide) ?_
  refine lv_iload_n hx hb dX10_laysLikely_32 rfl (lv_at hl 0 rfl) ?_
  refine lv_iload_n hx hb dX10_laysLikely_33 rfl (lv_at hl 3 rfl) ?_
  refine lv_icmp_ge (tgt := 54) hx hb dX10_laysLikely_34 (by decide) (fun c_7 => absurd c_7 (by decide)) (fun _ => ?_)
  refine lv_aload_n hx hb dX10_laysLikely_37 rfl (lv_at hl 2 rfl) ?_
  refine lv_ldc2 (v := 10) hx hb hown (hg _ q_7_102) dX10_laysLikely_38 ?_
  refine lv_iload_n hx hb dX10_laysLikely_41 rfl (lv_at hl 1 rfl) ?_
  refine lv_i2l (v := 0) hx hb dX10_laysLikely_42 (by decide +kernel) ?_
  refine lv_lsub hx hb dX10_laysLikely_43 ?_
  refine tpl (y := 10) (by decide +kernel) ?_
  refine lv_lconst (v := 1) hx hb dX10_laysLikely_44 (by decide) ?_
  refine jnV (wr := [(z 28, aZ V 10000 (upd (fun _ => 0) 0 1)), (z 1, aI V 3075 (fun _ => 0))]) (rnV (rest := []) ⟨hx, hb, hml, hown, hg⟩ (c_X10_goesMany_5 l V z) mt_X10_goesMany q_7_224 ⟨Nat.le_of_ble_eq_true rfl, Nat.le_of_ble_eq_true rfl⟩ hK hP hD hS hA hE [2, 3, 4, 5, 6] rfl rfl 6 rfl rfl rfl rfl hl.1 rfl (Nat.le_of_ble_eq_true rfl) dX10_laysLikely_45 ⟨Nat.le_of_ble_eq_true rfl, Nat.le_of_ble_eq_true rfl⟩) hP hD hS hA [2, 3, 4, 5, 6] [0, 1] rfl rfl rfl (by decide) (fun  w H locs hw hP hD hS => ?_)
  subst hw
  have hP : va_P V.1 vwCl [(z 28, aZ V 10000 (upd (fun _ => 0) 0 1)), (z 1, aI V 3075 (fun _ => 0)), (z 24, aI V 10000 (fun _ => 0)), (z 25, aI V 40000 (upd (upd (upd (fun _ => 0) 1 (-1)) 2 (-1)) 3 (-1))), (z 30, aJ V 10000 (vp_updL (fun _ => 0) 0 1000000)), (z 31, aJ V 10000 (fun _ => 0)), (z 0, .inr (10, mo z 0 0 0 0 0 0 0 0 0 0 (-1) 0 0 0 0 1))] H := hP
  have hD : va_D A [(z 28, aZ V 10000 (upd (fun _ => 0) 0 1)), (z 1, aI V 3075 (fun _ => 0)), (z 24, aI V 10000 (fun _ => 0)), (z 25, aI V 40000 (upd (upd (upd (fun _ => 0) 1 (-1)) 2 (-1)) 3 (-1))), (z 30, aJ V 10000 (vp_updL (fun _ => 0) 0 1000000)), (z 31, aJ V 10000 (fun _ => 0)), (z 0, .inr (10, mo z 0 0 0 0 0 0 0 0 0 0 (-1) 0 0 0 0 1))] := hD
  refine lv_iinc (v := 6) (lv' := [(3, .int 6), (2, .int 0), (0, .ref (z 0)), (1, .int 7)]) hx hb dX10_laysLikely_48 hl (k := 0) rfl (by decide +kernel) (by decide) rfl (fun ls hl => ?_)
  refine lv_goto (tgt := 32) hx hb dX10_laysLikely_51 (by decide) ?_
  refine lv_iload_n hx hb dX10_laysLikely_32 rfl (lv_at hl 0 rfl) ?_
  refine lv_iload_n hx hb dX10_laysLikely_33 rfl (lv_at hl 3 rfl) ?_
  refine lv_icmp_ge (tgt := 54) hx hb dX10_laysLikely_34 (by decide) (fun c_8 => absurd c_8 (by decide)) (fun _ => ?_)
  refine lv_aload_n hx hb dX10_laysLikely_37 rfl (lv_at hl 2 rfl) ?_
  refine lv_ldc2 (v := 10) hx hb hown (hg _ q_7_102) dX10_laysLikely_38 ?_
  refine lv_iload_n hx hb dX10_laysLikely_41 rfl (lv_at hl 1 rfl) ?_
  refine lv_i2l (v := 0) hx hb dX10_laysLikely_42 (by decide +kernel) ?_
  refine lv_lsub hx hb dX10_laysLikely_43 ?_
  refine tpl (y := 10) (by decide +kernel) ?_
  refine lv_lconst (v := 1) hx hb dX10_laysLikely_44 (by decide) ?_
  refine jnV (wr := [(z 28, aZ V 10000 (upd (fun _ => 0) 0 1)), (z 1, aI V 3075 (fun _ => 0))]) (rnV (rest := []) ⟨hx, hb, hml, hown, hg⟩ (c_X10_goesMany_6 l V z) mt_X10_goesMany q_7_224 ⟨Nat.le_of_ble_eq_true rfl, Nat.le_of_ble_eq_true rfl⟩ hK hP hD hS hA hE [2, 3, 4, 5, 6] rfl rfl 6 rfl rfl rfl rfl hl.1 rfl (Nat.le_of_ble_eq_true rfl) dX10_laysLikely_45 ⟨Nat.le_of_ble_eq_true rfl, Nat.le_of_ble_eq_true rfl⟩) hP hD hS hA [2, 3, 4, 5, 6] [0, 1] rfl rfl rfl (by decide) (fun  w H locs hw hP hD hS => ?_)
  subst hw
  have hP : va_P V.1 vwCl [(z 28, aZ V 10000 (upd (fun _ => 0) 0 1)), (z 1, aI V 3075 (fun _ => 0)), (z 24, aI V 10000 (fun _ => 0)), (z 25, aI V 40000 (upd (upd (upd (fun _ => 0) 1 (-1)) 2 (-1)) 3 (-1))), (z 30, aJ V 10000 (vp_updL (fun _ => 0) 0 10000000)), (z 31, aJ V 10000 (fun _ => 0)), (z 0, .inr (10, mo z 0 0 0 0 0 0 0 0 0 0 (-1) 0 0 0 0 1))] H := hP
  have hD : va_D A [(z 28, aZ V 10000 (upd (fun _ => 0) 0 1)), (z 1, aI V 3075 (fun _ => 0)), (z 24, aI V 10000 (fun _ => 0)), (z 25, aI V 40000 (upd (upd (upd (fun _ => 0) 1 (-1)) 2 (-1)) 3 (-1))), (z 30, aJ V 10000 (vp_updL (fun _ => 0) 0 10000000)), (z 31, aJ V 10000 (fun _ => 0)), (z 0, .inr (10, mo z 0 0 0 0 0 0 0 0 0 0 (-1) 0 0 0 0 1))] := hD
  refine lv_iinc (v := 7) (lv' := [(3, .int 7), (2, .int 0), (0, .ref (z 0)), (1, .int 7)]) hx hb dX10_laysLikely_48 hl (k := 0) rfl (by decide +kernel) (by decide) rfl (fun ls hl => ?_)
  refine lv_goto (tgt := 32) hx hb dX10_laysLikely_51 (by decide) ?_
  refine lv_iload_n hx hb dX10_laysLikely_32 rfl (lv_at hl 0 rfl) ?_
  refine lv_iload_n hx hb dX10_laysLikely_33 rfl (lv_at hl 3 rfl) ?_
  refine lv_icmp_ge (tgt := 54) hx hb dX10_laysLikely_34 (by decide) (fun _ => ?_) (fun c_9 => absurd c_9 (by decide))
  have hP := subP (ws' := [(z 0, .inr (10, mo z 0 0 0 0 0 0 0 0 0 0 (-1) 0 0 0 0 1)), (z 24, aI V 10000 (fun _ => 0)), (z 25, aI V 40000 (upd (upd (upd (fun _ => 0) 1 (-1)) 2 (-1)) 3 (-1))), (z 28, aZ V 10000 (upd (fun _ => 0) 0 1)), (z 30, aJ V 10000 (vp_updL (fun _ => 0) 0 10000000)), (z 31, aJ V 10000 (fun _ => 0)), (z 1, aI V 3075 (fun _ => 0))]) hP [6, 2, 3, 0, 4, 5, 1] rfl
  have hD := hD.sub (ws' := [(z 0, .inr (10, mo z 0 0 0 0 0 0 0 0 0 0 (-1) 0 0 0 0 1)), (z 24, aI V 10000 (fun _ => 0)), (z 25, aI V 40000 (upd (upd (upd (fun _ => 0) 1 (-1)) 2 (-1)) 3 (-1))), (z 28, aZ V 10000 (upd (fun _ => 0) 0 1)), (z 30, aJ V 10000 (vp_updL (fun _ => 0) 0 10000000)), (z 31, aJ V 10000 (fun _ => 0)), (z 1, aI V 3075 (fun _ => 0))]) [6, 2, 3, 0, 4, 5, 1] rfl rfl
  exact fiV hx hb hr hlk hK hP hD hS dX10_laysLikely_54 (Nat.le_of_ble_eq_true rfl) (Nat.le_of_ble_eq_true rfl) (rfl)
set_option maxHeartbeats 4000000 in
set_option maxRecDepth 100000 in
theorem c_X10_wholeOf_7 (l : Launch) (V : GV) : Ct l V yX10_wholeOf (.code yX10_wholeOf cX10_wholeOf 4 (some .long)) 1 [.int 7] [] 0 0 (QL V (fun (r : Int64) (w : va_W) => (r = 10000000 ∧ w = []))) := by
  refine Ct.of (by decide) (Nat.le_of_ble_eq_true rfl) (fun p e s m below meth c A ls hx hb hr hml hown hlk hnm hg hP hK hD hE hA hS hl => ?_)
  have hl : lv_has ls 4 [(0, .int 7)] := hl
  refine lv_lconst (v := 1) hx hb dX10_wholeOf_0 (by decide) ?_
  refine lv_lstore_n (lv' := [(1, .long 1), (0, .int 7)]) hx hb dX10_wholeOf_1 rfl hl (by decide) rfl (fun ls hl => ?_)
  refine lv_iconst (v := 0) hx hb dX10_wholeOf_2 (by decide) ?_
  refine lv_istore_n (lv' := [(3, .int 0), (1, .long 1), (0, .int 7)]) hx hb dX10_wholeOf_3 rfl hl (by decide) rfl (fun ls hl => ?_)
  refine lv_iload_n hx hb dX10_wholeOf_4 rfl (lv_at hl 0 rfl) ?_
  refine lv_iload_n hx hb dX10_wholeOf_5 rfl (lv_at hl 2 rfl) ?_
  refine lv_icmp_ge (tgt := 21) hx hb dX10_wholeOf_6 (by decide) (fun c_1 => absurd c_1 (by decide)) (fun _ => ?_)
  refine lv_lload_n hx hb dX10_wholeOf_9 rfl (lv_at hl 1 rfl) ?_
  refine lv_ldc2 (v := 10) hx hb hown (hg _ q_7_102) dX10_wholeOf_10 ?_
  refine lv_lmul hx hb dX10_wholeOf_13 ?_
  refine tpl (y := 10) (by decide +kernel) ?_
  refine lv_lstore_n (lv' := [(1, .long 10), (3, .int 0), (0, .int 7)]) hx hb dX10_wholeOf_14 rfl hl (by decide) rfl (fun ls hl => ?_)
  refine lv_iinc (v := 1) (lv' := [(3, .int 1), (1, .long 10), (0, .int 7)]) hx hb dX10_wholeOf_15 hl (k := 1) rfl (by decide +kernel) (by decide) rfl (fun ls hl => ?_)
  refine lv_goto (tgt := 4) hx hb dX10_wholeOf_18 (by decide) ?_
  refine lv_iload_n hx hb dX10_wholeOf_4 rfl (lv_at hl 0 rfl) ?_
  refine lv_iload_n hx hb dX10_wholeOf_5 rfl (lv_at hl 2 rfl) ?_
  refine lv_icmp_ge (tgt := 21) hx hb dX10_wholeOf_6 (by decide) (fun c_2 => absurd c_2 (by decide)) (fun _ => ?_)
  refine lv_lload_n hx hb dX10_wholeOf_9 rfl (lv_at hl 1 rfl) ?_
  refine lv_ldc2 (v := 10) hx hb hown (hg _ q_7_102) dX10_wholeOf_10 ?_
  refine lv_lmul hx hb dX10_wholeOf_13 ?_
  refine tpl (y := 100) (by decide +kernel) ?_
  refine lv_lstore_n (lv' := [(1, .long 100), (3, .int 1), (0, .int 7)]) hx hb dX10_wholeOf_14 rfl hl (by decide) rfl (fun ls hl => ?_)
  refine lv_iinc (v := 2) (lv' := [(3, .int 2), (1, .long 100), (0, .int 7)]) hx hb dX10_wholeOf_15 hl (k := 1) rfl (by decide +kernel) (by decide) rfl (fun ls hl => ?_)
  refine lv_goto (tgt := 4) hx hb dX10_wholeOf_18 (by decide) ?_
  refine lv_iload_n hx hb dX10_wholeOf_4 rfl (lv_at hl 0 rfl) ?_
  refine lv_iload_n hx hb dX10_wholeOf_5 rfl (lv_at hl 2 rfl) ?_
  refine lv_icmp_ge (tgt := 21) hx hb dX10_wholeOf_6 (by decide) (fun c_3 => absurd c_3 (by decide)) (fun _ => ?_)
  refine lv_lload_n hx hb dX10_wholeOf_9 rfl (lv_at hl 1 rfl) ?_
  refine lv_ldc2 (v := 10) hx hb hown (hg _ q_7_102) dX10_wholeOf_10 ?_
  refine lv_lmul hx hb dX10_wholeOf_13 ?_
  refine tpl (y := 1000) (by decide +kernel) ?_
  refine lv_lstore_n (lv' := [(1, .long 1000), (3, .int 2), (0, .int 7)]) hx hb dX10_wholeOf_14 rfl hl (by decide) rfl (fun ls hl => ?_)
  refine lv_iinc (v := 3) (lv' := [(3, .int 3), (1, .long 1000), (0, .int 7)]) hx hb dX10_wholeOf_15 hl (k := 1) rfl (by decide +kernel) (by decide) rfl (fun ls hl => ?_)
  refine lv_goto (tgt := 4) hx hb dX10_wholeOf_18 (by decide) ?_
  refine lv_iload_n hx hb dX10_wholeOf_4 rfl (lv_at hl 0 rfl) ?_
  refine lv_iload_n hx hb dX10_wholeOf_5 rfl (lv_at hl 2 rfl) ?_
  refine lv_icmp_ge (tgt := 21) hx hb dX10_wholeOf_6 (by decide) (fun c_4 => absurd c_4 (by decide)) (fun _ => ?_)
  refine lv_lload_n hx hb dX10_wholeOf_9 rfl (lv_at hl 1 rfl) ?_
  refine lv_ldc2 (v := 10) hx hb hown (hg _ q_7_102) dX10_wholeOf_10 ?_
  refine lv_lmul hx hb dX10_wholeOf_13 ?_
  refine tpl (y := 10000) (by decide +kernel) ?_
  refine lv_lstore_n (lv' := [(1, .long 10000), (3, .int 3), (0, .int 7)]) hx hb dX10_wholeOf_14 rfl hl (by decide) rfl (fun ls hl => ?_)
  refine lv_iinc (v := 4) (lv' := [(3, .int 4), (1, .long 10000), (0, .int 7)]) hx hb dX10_wholeOf_15 hl (k := 1) rfl (by decide +kernel) (by decide) rfl (fun ls hl => ?_)
  refine lv_goto (tgt := 4) hx hb dX10_wholeOf_18 (by decide) ?_
  refine lv_iload_n hx hb dX10_wholeOf_4 rfl (lv_at hl 0 rfl) ?_
  refine lv_iload_n hx hb dX10_wholeOf_5 rfl (lv_at hl 2 rfl) ?_
  refine lv_icmp_ge (tgt := 21) hx hb dX10_wholeOf_6 (by decide) (fun c_5 => absurd c_5 (by decide)) (fun _ => ?_)
  refine lv_lload_n hx hb dX10_wholeOf_9 rfl (lv_at hl 1 rfl) ?_
  refine lv_ldc2 (v := 10) hx hb hown (hg _ q_7_102) dX10_wholeOf_10 ?_
  refine lv_lmul hx hb dX10_wholeOf_13 ?_
  refine tpl (y := 100000) (by decide +kernel) ?_
  refine lv_lstore_n (lv' := [(1, .long 100000), (3, .int 4), (0, .int 7)]) hx hb dX10_wholeOf_14 rfl hl (by decide) rfl (fun ls hl => ?_)
  refine lv_iinc (v := 5) (lv' := [(3, .int 5), (1, .long 100000), (0, .int 7)]) hx hb dX10_wholeOf_15 hl (k := 1) rfl (by decide +kernel) (by decide) rfl (fun ls hl => ?_)
  refine lv_goto (tgt := 4) hx hb dX10_wholeOf_18 (by decide) ?_
  refine lv_iload_n hx hb dX10_wholeOf_4 rfl (lv_at hl 0 rfl) ?_
  refine lv_iload_n hx hb dX10_wholeOf_5 rfl (lv_at hl 2 rfl) ?_
  refine lv_icmp_ge (tgt := 21) hx hb dX10_wholeOf_6 (by decide) (fun c_6 => absurd c_6 (by decide)) (fun _ => ?_)
  refine lv_lload_n hx hb dX10_wholeOf_9 rfl (lv_at hl 1 rfl) ?_
  refine lv_ldc2 (v := 10) hx hb hown (hg _ q_7_102) dX10_wholeOf_10 ?_
  refine lv_lmul hx hb dX10_wholeOf_13 ?_
  refine tpl (y := 1000000) (by decide +kernel) ?_
  refine lv_lstore_n (lv' := [(1, .long 1000000), (3, .int 5), (0, .int 7)]) hx hb dX10_wholeOf_14 rfl hl (by decide) rfl (fun ls hl => ?_)
  refine lv_iinc (v := 6) (lv' := [(3, .int 6), (1, .long 1000000), (0, .int 7)]) hx hb dX10_wholeOf_15 hl (k := 1) rfl (by decide +kernel) (by decide) rfl (fun ls hl => ?_)
  refine lv_goto (tgt := 4) hx hb dX10_wholeOf_18 (by decide) ?_
  refine lv_iload_n hx hb dX10_wholeOf_4 rfl (lv_at hl 0 rfl) ?_
  refine lv_iload_n hx hb dX10_wholeOf_5 rfl (lv_at hl 2 rfl) ?_
  refine lv_icmp_ge (tgt := 21) hx hb dX10_wholeOf_6 (by decide) (fun c_7 => absurd c_7 (by decide)) (fun _ => ?_)
  refine lv_lload_n hx hb dX10_wholeOf_9 rfl (lv_at hl 1 rfl) ?_
  refine lv_ldc2 (v := 10) hx hb hown (hg _ q_7_102) dX10_wholeOf_10 ?_
  refine lv_lmul hx hb dX10_wholeOf_13 ?_
  refine tpl (y := 10000000) (by decide +kernel) ?_
  refine lv_lstore_n (lv' := [(1, .long 10000000), (3, .int 6), (0, .int 7)]) hx hb dX10_wholeOf_14 rfl hl (by decide) rfl (fun ls hl => ?_)
  refine lv_iinc (v := 7) (lv' := [(3, .int 7), (1, .long 10000000), (0, .int 7)]) hx hb dX10_wholeOf_15 hl (k := 1) rfl (by decide +kernel) (by decide) rfl (fun ls hl => ?_)
  refine lv_goto (tgt := 4) hx hb dX10_wholeOf_18 (by decide) ?_
  refine lv_iload_n hx hb dX10_wholeOf_4 rfl (lv_at hl 0 rfl) ?_
  refine lv_iload_n hx hb dX10_wholeOf_5 rfl (lv_at hl 2 rfl) ?_
  refine lv_icmp_ge (tgt := 21) hx hb dX10_wholeOf_6 (by decide) (fun _ => ?_) (fun c_8 => absurd c_8 (by decide))
  refine lv_lload_n hx hb dX10_wholeOf_21 rfl (lv_at hl 1 rfl) ?_
  exact fiL hx hb hr hlk hK hP hD hS dX10_wholeOf_22 (Nat.le_of_ble_eq_true rfl) (Nat.le_of_ble_eq_true rfl) (⟨rfl, rfl⟩)
set_option maxHeartbeats 4000000 in
set_option maxRecDepth 100000 in
theorem c_X10_common_14 (l : Launch) (V : GV) : Ct l V yX10_common (.code yX10_common cX10_common 4 (some .long)) 1 [.long 10000000, .long 0] [] 0 0 (QL V (fun (r : Int64) (w : va_W) => (r = 10000000 ∧ w = []))) := by
  refine Ct.of (by decide) (Nat.le_of_ble_eq_true rfl) (fun p e s m below meth c A ls hx hb hr hml hown hlk hnm hg hP hK hD hE hA hS hl => ?_)
  have hl : lv_has ls 4 [(0, .long 10000000), (2, .long 0)] := hl
  refine lv_lload_n hx hb dX10_common_0 rfl (lv_at hl 1 rfl) ?_
  refine lv_lconst (v := 0) hx hb dX10_common_1 (by decide) ?_
  refine W.lcmp hx hb dX10_common_2 ?_
  refine lv_if_ne (tgt := 10) hx hb dX10_common_3 (by decide) (fun c_1 => absurd (fun z => c_1 ((lg_cmp_eq _ _).mpr z)) (by decide)) (fun _ => ?_)
  refine lv_lload_n hx hb dX10_common_6 rfl (lv_at hl 0 rfl) ?_
  refine lv_goto (tgt := 17) hx hb dX10_common_7 (by decide) ?_
  exact fiL hx hb hr hlk hK hP hD hS dX10_common_17 (Nat.le_of_ble_eq_true rfl) (Nat.le_of_ble_eq_true rfl) (⟨rfl, rfl⟩)
set_option maxHeartbeats 4000000 in
set_option maxRecDepth 100000 in
theorem c_X10_common_15 (l : Launch) (V : GV) : Ct l V yX10_common (.code yX10_common cX10_common 4 (some .long)) 2 [.long 0, .long 10000000] [] 0 0 (QL V (fun (r : Int64) (w : va_W) => (r = 10000000 ∧ w = []))) := by
  refine Ct.of (by decide) (Nat.le_of_ble_eq_true rfl) (fun p e s m below meth c A ls hx hb hr hml hown hlk hnm hg hP hK hD hE hA hS hl => ?_)
  have hl : lv_has ls 4 [(0, .long 0), (2, .long 10000000)] := hl
  refine lv_lload_n hx hb dX10_common_0 rfl (lv_at hl 1 rfl) ?_
  refine lv_lconst (v := 0) hx hb dX10_common_1 (by decide) ?_
  refine W.lcmp hx hb dX10_common_2 ?_
  refine lv_if_ne (tgt := 10) hx hb dX10_common_3 (by decide) (fun _ => ?_) (fun c_1 => absurd ((lg_cmp_eq _ _).mp c_1) (by decide))
  refine lv_lload_n hx hb dX10_common_10 rfl (lv_at hl 1 rfl) ?_
  refine lv_lload_n hx hb dX10_common_11 rfl (lv_at hl 0 rfl) ?_
  refine lv_lload_n hx hb dX10_common_12 rfl (lv_at hl 1 rfl) ?_
  refine lv_lrem hx hb dX10_common_13 (by decide) ?_
  refine tpl (y := 0) (by decide +kernel) ?_
  refine jnL (wr := []) (rnS (rest := []) ⟨hx, hb, hml, hown, hg⟩ (c_X10_common_14 l V) mt_X10_common q_8_124 ⟨Nat.le_of_ble_eq_true rfl, Nat.le_of_ble_eq_true rfl⟩ hK hP hD hS hA hE [] rfl rfl rfl hl.1 rfl (Nat.le_of_ble_eq_true rfl) dX10_common_14 ⟨Nat.le_of_ble_eq_true rfl, Nat.le_of_ble_eq_true rfl⟩) hP hD hS hA [] [] rfl rfl rfl (by decide) (fun r_2 w H locs hw hP hD hS => ?_)
  obtain ⟨rfl, rfl⟩ := hw
  have hP : va_P V.1 vwCl [] H := hP
  have hD : va_D A [] := hD
  exact fiL hx hb hr hlk hK hP hD hS dX10_common_17 (Nat.le_of_ble_eq_true rfl) (Nat.le_of_ble_eq_true rfl) (⟨rfl, rfl⟩)
set_option maxHeartbeats 4000000 in
set_option maxRecDepth 100000 in
theorem c_X10_part_7 (l : Launch) (V : GV) (p0 : Int32) : Ct l V yX10_part (.code yX10_part cX10_part 5 (some .int)) 3 [.long 0, .long 10000000, .int p0] [] 0 0 (QI V (fun (r : Int32) (w : va_W) => ((¬ p0 = 0) ∧ r = 1 ∧ w = []) ∨ (p0 = 0 ∧ r = 0 ∧ w = []))) := by
  refine Ct.of (by decide) (Nat.le_of_ble_eq_true rfl) (fun p e s m below meth c A ls hx hb hr hml hown hlk hnm hg hP hK hD hE hA hS hl => ?_)
  have hl : lv_has ls 5 [(0, .long 0), (2, .long 10000000), (4, .int p0)] := hl
  refine lv_iload hx hb dX10_part_0 (lv_at hl 2 rfl) ?_
  refine lv_if_ne (tgt := 9) hx hb dX10_part_2 (by decide) (fun c_1 => ?_) (fun c_1 => ?_)
  · refine lv_lload_n hx hb dX10_part_9 rfl (lv_at hl 1 rfl) ?_
    refine lv_lload_n hx hb dX10_part_10 rfl (lv_at hl 0 rfl) ?_
    refine lv_lload_n hx hb dX10_part_11 rfl (lv_at hl 1 rfl) ?_
    refine jnL (wr := []) (rnS (rest := [.long 10000000]) ⟨hx, hb, hml, hown, hg⟩ (c_X10_common_15 l V) mt_X10_common q_8_124 ⟨Nat.le_of_ble_eq_true rfl, Nat.le_of_ble_eq_true rfl⟩ hK hP hD hS hA hE [] rfl rfl rfl hl.1 rfl (Nat.le_of_ble_eq_true rfl) dX10_part_12 ⟨Nat.le_of_ble_eq_true rfl, Nat.le_of_ble_eq_true rfl⟩) hP hD hS hA [] [] rfl rfl rfl (by decide) (fun r_2 w H locs hw hP hD hS => ?_)
    obtain ⟨rfl, rfl⟩ := hw
    have hP : va_P V.1 vwCl [] H := hP
    have hD : va_D A [] := hD
    refine lv_ldiv hx hb dX10_part_15 (by decide) ?_
    refine tpl (y := 1) (by decide +kernel) ?_
    refine lv_l2i (v := 1) hx hb dX10_part_16 (by decide +kernel) ?_
    exact fiI hx hb hr hlk hK hP hD hS dX10_part_17 (Nat.le_of_ble_eq_true rfl) (Nat.le_of_ble_eq_true rfl) (Or.inl ⟨c_1, rfl, rfl⟩)
  · refine lv_lload_n hx hb dX10_part_5 rfl (lv_at hl 0 rfl) ?_
    refine lv_goto (tgt := 10) hx hb dX10_part_6 (by decide) ?_
    refine lv_lload_n hx hb dX10_part_10 rfl (lv_at hl 0 rfl) ?_
    refine lv_lload_n hx hb dX10_part_11 rfl (lv_at hl 1 rfl) ?_
    refine jnL (wr := []) (rnS (rest := [.long 0]) ⟨hx, hb, hml, hown, hg⟩ (c_X10_common_15 l V) mt_X10_common q_8_124 ⟨Nat.le_of_ble_eq_true rfl, Nat.le_of_ble_eq_true rfl⟩ hK hP hD hS hA hE [] rfl rfl rfl hl.1 rfl (Nat.le_of_ble_eq_true rfl) dX10_part_12 ⟨Nat.le_of_ble_eq_true rfl, Nat.le_of_ble_eq_true rfl⟩) hP hD hS hA [] [] rfl rfl rfl (by decide) (fun r_3 w H locs hw hP hD hS => ?_)
    obtain ⟨rfl, rfl⟩ := hw
    have hP : va_P V.1 vwCl [] H := hP
    have hD : va_D A [] := hD
    refine lv_ldiv hx hb dX10_part_15 (by decide) ?_
    refine tpl (y := 0) (by decide +kernel) ?_
    refine lv_l2i (v := 0) hx hb dX10_part_16 (by decide +kernel) ?_
    exact fiI hx hb hr hlk hK hP hD hS dX10_part_17 (Nat.le_of_ble_eq_true rfl) (Nat.le_of_ble_eq_true rfl) (Or.inr (⟨c_1, rfl, rfl⟩))
theorem dX10_mean_0 : decode cX10_mean 0 = .ok (.aload_n 0, 1) := by decide +kernel
theorem dX10_mean_1 : decode cX10_mean 1 = .ok (.iconst 0, 1) := by decide +kernel
theorem dX10_mean_2 : decode cX10_mean 2 = .ok (.putfield 1, 3) := by decide +kernel
theorem dX10_mean_5 : decode cX10_mean 5 = .ok (.iload_n 2, 1) := by decide +kernel
theorem dX10_mean_6 : decode cX10_mean 6 = .ok (.i2l, 1) := by decide +kernel
theorem dX10_mean_7 : decode cX10_mean 7 = .ok (.lconst 0, 1) := by decide +kernel
theorem dX10_mean_8 : decode cX10_mean 8 = .ok (.lconst 1, 1) := by decide +kernel
theorem dX10_mean_9 : decode cX10_mean 9 = .ok (.invokestatic 159, 3) := by decide +kernel
theorem dX10_mean_12 : decode cX10_mean 12 = .ok (.ifCond .ne 6, 3) := by decide +kernel
theorem dX10_mean_15 : decode cX10_mean 15 = .ok (.bipush (-2), 2) := by decide +kernel
theorem dX10_mean_17 : decode cX10_mean 17 = .ok (.ireturn, 1) := by decide +kernel
theorem dX10_mean_18 : decode cX10_mean 18 = .ok (.iload_n 1, 1) := by decide +kernel
theorem dX10_mean_19 : decode cX10_mean 19 = .ok (.i2l, 1) := by decide +kernel
theorem dX10_mean_20 : decode cX10_mean 20 = .ok (.lconst 0, 1) := by decide +kernel
theorem q_8_113 : Cond.constantLong "BeaconDelayModel" 451 (7 : Int64) ∈ gw := gw_8 (i := 113) (by decide +kernel) rfl
theorem dX10_mean_21 : decode cX10_mean 21 = .ok (.ldc2_w 451, 3) := by decide +kernel
theorem dX10_mean_24 : decode cX10_mean 24 = .ok (.invokestatic 159, 3) := by decide +kernel
theorem dX10_mean_27 : decode cX10_mean 27 = .ok (.ifCond .ne 6, 3) := by decide +kernel
theorem dX10_mean_30 : decode cX10_mean 30 = .ok (.bipush (-3), 2) := by decide +kernel
theorem dX10_mean_32 : decode cX10_mean 32 = .ok (.ireturn, 1) := by decide +kernel
theorem dX10_mean_33 : decode cX10_mean 33 = .ok (.aload_n 0, 1) := by decide +kernel
theorem dX10_mean_34 : decode cX10_mean 34 = .ok (.iload_n 1, 1) := by decide +kernel
theorem q_8_117 : Cond.code yX10_laysLikely prog_12_method_122_code 4 none ∈ gw := gw_8 (i := 117) (rfl) rfl
theorem q_8_116 : Cond.instanceMethod yX10_laysLikely ∈ gw := gw_8 (i := 116) (by decide +kernel) rfl
theorem q_s_125 : Cond.selects "BeaconDelayModel" yX10_laysLikely yX10_laysLikely ∈ gw := gw_s (i := 125) (by decide +kernel) rfl
theorem mt_X10_laysLikely : MtV yX10_laysLikely cX10_laysLikely 4 none 1 := ⟨⟨q_8_117, q_1_9, by decide +kernel, by decide +kernel, by decide +kernel⟩, q_8_116, q_s_125⟩
theorem q_8_114 : Cond.methodLink "BeaconDelayModel" 453 yX10_laysLikely ∈ gw := gw_8 (i := 114) (by decide +kernel) rfl
theorem dX10_mean_35 : decode cX10_mean 35 = .ok (.invokevirtual 453, 3) := by decide +kernel
theorem dX10_mean_38 : decode cX10_mean 38 = .ok (.lconst 0, 1) := by decide +kernel
theorem dX10_mean_39 : decode cX10_mean 39 = .ok (.lstore_n 3, 1) := by decide +kernel
theorem dX10_mean_40 : decode cX10_mean 40 = .ok (.iconst 0, 1) := by decide +kernel
theorem dX10_mean_41 : decode cX10_mean 41 = .ok (.istore 5, 2) := by decide +kernel
theorem dX10_mean_43 : decode cX10_mean 43 = .ok (.iload 5, 2) := by decide +kernel
theorem dX10_mean_45 : decode cX10_mean 45 = .ok (.aload_n 0, 1) := by decide +kernel
theorem dX10_mean_46 : decode cX10_mean 46 = .ok (.getfield 355, 3) := by decide +kernel
theorem dX10_mean_49 : decode cX10_mean 49 = .ok (.if_icmp .ge 37, 3) := by decide +kernel
theorem dX10_mean_52 : decode cX10_mean 52 = .ok (.lload_n 3, 1) := by decide +kernel
theorem dX10_mean_53 : decode cX10_mean 53 = .ok (.aload_n 0, 1) := by decide +kernel
theorem dX10_mean_54 : decode cX10_mean 54 = .ok (.getfield 61, 3) := by decide +kernel
theorem dX10_mean_57 : decode cX10_mean 57 = .ok (.aload_n 0, 1) := by decide +kernel
theorem dX10_mean_58 : decode cX10_mean 58 = .ok (.getfield 45, 3) := by decide +kernel
theorem dX10_mean_61 : decode cX10_mean 61 = .ok (.iload 5, 2) := by decide +kernel
theorem dX10_mean_63 : decode cX10_mean 63 = .ok (.iaload, 1) := by decide +kernel
theorem dX10_mean_64 : decode cX10_mean 64 = .ok (.laload, 1) := by decide +kernel
theorem dX10_mean_65 : decode cX10_mean 65 = .ok (.aload_n 0, 1) := by decide +kernel
theorem dX10_mean_66 : decode cX10_mean 66 = .ok (.aload_n 0, 1) := by decide +kernel
theorem dX10_mean_67 : decode cX10_mean 67 = .ok (.getfield 45, 3) := by decide +kernel
theorem dX10_mean_70 : decode cX10_mean 70 = .ok (.iload 5, 2) := by decide +kernel
theorem dX10_mean_72 : decode cX10_mean 72 = .ok (.iaload, 1) := by decide +kernel
theorem q_7_134 : Cond.code yX10_sumIn prog_12_method_43_code 4 (some FieldType.int) ∈ gw := gw_7 (i := 134) (rfl) rfl
theorem q_7_133 : Cond.instanceMethod yX10_sumIn ∈ gw := gw_7 (i := 133) (by decide +kernel) rfl
theorem q_s_98 : Cond.selects "BeaconDelayModel" yX10_sumIn yX10_sumIn ∈ gw := gw_s (i := 98) (by decide +kernel) rfl
theorem mt_X10_sumIn : MtV yX10_sumIn cX10_sumIn 4 (some .int) 1 := ⟨⟨q_7_134, q_1_9, by decide +kernel, by decide +kernel, by decide +kernel⟩, q_7_133, q_s_98⟩
theorem q_7_131 : Cond.methodLink "BeaconDelayModel" 326 yX10_sumIn ∈ gw := gw_7 (i := 131) (by decide +kernel) rfl
theorem dX10_mean_73 : decode cX10_mean 73 = .ok (.invokevirtual 326, 3) := by decide +kernel
theorem dX10_mean_76 : decode cX10_mean 76 = .ok (.i2l, 1) := by decide +kernel
theorem dX10_mean_77 : decode cX10_mean 77 = .ok (.lmul, 1) := by decide +kernel
theorem dX10_mean_78 : decode cX10_mean 78 = .ok (.ladd, 1) := by decide +kernel
theorem dX10_mean_79 : decode cX10_mean 79 = .ok (.lstore_n 3, 1) := by decide +kernel
theorem dX10_mean_80 : decode cX10_mean 80 = .ok (.iinc 5 1, 3) := by decide +kernel
theorem dX10_mean_83 : decode cX10_mean 83 = .ok (.goto (-40), 3) := by decide +kernel
theorem dX10_mean_86 : decode cX10_mean 86 = .ok (.lload_n 3, 1) := by decide +kernel
theorem dX10_mean_87 : decode cX10_mean 87 = .ok (.iload_n 1, 1) := by decide +kernel
theorem q_8_120 : Cond.code yX10_wholeOf prog_12_method_123_code 4 (some FieldType.long) ∈ gw := gw_8 (i := 120) (rfl) rfl
theorem q_8_119 : Cond.static yX10_wholeOf ∈ gw := gw_8 (i := 119) (by decide +kernel) rfl
theorem mt_X10_wholeOf : MtS yX10_wholeOf cX10_wholeOf 4 (some .long) 1 := ⟨⟨q_8_120, q_1_9, by decide +kernel, by decide +kernel, by decide +kernel⟩, q_8_119⟩
theorem q_8_118 : Cond.methodLink "BeaconDelayModel" 456 yX10_wholeOf ∈ gw := gw_8 (i := 118) (by decide +kernel) rfl
theorem dX10_mean_88 : decode cX10_mean 88 = .ok (.invokestatic 456, 3) := by decide +kernel
theorem dX10_mean_91 : decode cX10_mean 91 = .ok (.iload_n 2, 1) := by decide +kernel
theorem q_8_123 : Cond.code yX10_part prog_12_method_125_code 5 (some FieldType.int) ∈ gw := gw_8 (i := 123) (rfl) rfl
theorem q_8_122 : Cond.static yX10_part ∈ gw := gw_8 (i := 122) (by decide +kernel) rfl
theorem mt_X10_part : MtS yX10_part cX10_part 5 (some .int) 3 := ⟨⟨q_8_123, q_1_9, by decide +kernel, by decide +kernel, by decide +kernel⟩, q_8_122⟩
theorem q_8_121 : Cond.methodLink "BeaconDelayModel" 460 yX10_part ∈ gw := gw_8 (i := 121) (by decide +kernel) rfl
theorem dX10_mean_92 : decode cX10_mean 92 = .ok (.invokestatic 460, 3) := by decide +kernel
theorem dX10_mean_95 : decode cX10_mean 95 = .ok (.ireturn, 1) := by decide +kernel
set_option maxHeartbeats 4000000 in
set_option maxRecDepth 100000 in
theorem c_X10_mean_0 (l : Launch) (V : GV) (z : Nat → Nat) (p0 : Int32) (p1 : Int32) : Ct l V yX10_mean (.code yX10_mean cX10_mean 6 (some .int)) 5 [.ref (z 0), .int p0, .int p1] [(z 0, .inr (10, mo z 0 0 0 0 0 0 0 0 0 0 (-1) 0 0 0 0 0)), (z 24, aI V 10000 (fun _ => 0)), (z 25, aI V 40000 (fun _ => 0)), (z 28, aZ V 10000 (fun _ => 0)), (z 30, aJ V 10000 (fun _ => 0)), (z 31, aJ V 10000 (fun _ => 0)), (z 1, aI V 3075 (fun _ => 0))] 0 0 (QI V (fun (r : Int32) (w : va_W) => (p1.toInt64 < 0 ∧ r = (-2) ∧ w = [(z 0, .inr (10, mo z 0 0 0 0 0 0 0 0 0 0 (-1) 0 0 0 0 0)), (z 24, aI V 10000 (fun _ => 0)), (z 25, aI V 40000 (fun _ => 0)), (z 28, aZ V 10000 (fun _ => 0)), (z 30, aJ V 10000 (fun _ => 0)), (z 31, aJ V 10000 (fun _ => 0)), (z 1, aI V 3075 (fun _ => 0))]) ∨ ((¬ p1.toInt64 < 0) ∧ 1 < p1.toInt64 ∧ r = (-2) ∧ w = [(z 0, .inr (10, mo z 0 0 0 0 0 0 0 0 0 0 (-1) 0 0 0 0 0)), (z 24, aI V 10000 (fun _ => 0)), (z 25, aI V 40000 (fun _ => 0)), (z 28, aZ V 10000 (fun _ => 0)), (z 30, aJ V 10000 (fun _ => 0)), (z 31, aJ V 10000 (fun _ => 0)), (z 1, aI V 3075 (fun _ => 0))]) ∨ ((¬ p1.toInt64 < 0) ∧ (¬ 1 < p1.toInt64) ∧ p0.toInt64 < 0 ∧ r = (-3) ∧ w = [(z 0, .inr (10, mo z 0 0 0 0 0 0 0 0 0 0 (-1) 0 0 0 0 0)), (z 24, aI V 10000 (fun _ => 0)), (z 25, aI V 40000 (fun _ => 0)), (z 28, aZ V 10000 (fun _ => 0)), (z 30, aJ V 10000 (fun _ => 0)), (z 31, aJ V 10000 (fun _ => 0)), (z 1, aI V 3075 (fun _ => 0))]) ∨ ((¬ p1.toInt64 < 0) ∧ (¬ 1 < p1.toInt64) ∧ (¬ p0.toInt64 < 0) ∧ 7 < p0.toInt64 ∧ r = (-3) ∧ w = [(z 0, .inr (10, mo z 0 0 0 0 0 0 0 0 0 0 (-1) 0 0 0 0 0)), (z 24, aI V 10000 (fun _ => 0)), (z 25, aI V 40000 (fun _ => 0)), (z 28, aZ V 10000 (fun _ => 0)), (z 30, aJ V 10000 (fun _ => 0)), (z 31, aJ V 10000 (fun _ => 0)), (z 1, aI V 3075 (fun _ => 0))]) ∨ ((¬ p1.toInt64 < 0) ∧ (¬ 1 < p1.toInt64) ∧ (¬ p0.toInt64 < 0) ∧ (¬ 7 < p0.toInt64) ∧ p0 = 0 ∧ (¬ p1 = 0) ∧ r = 1 ∧ w = [(z 0, .inr (10, mo z 0 0 0 0 0 0 0 0 0 0 (-1) 0 0 0 0 1)), (z 24, aI V 10000 (fun _ => 0)), (z 25, aI V 40000 (upd (upd (upd (fun _ => 0) 1 (-1)) 2 (-1)) 3 (-1))), (z 28, aZ V 10000 (upd (fun _ => 0) 0 1)), (z 30, aJ V 10000 (vp_updL (fun _ => 0) 0 1)), (z 31, aJ V 10000 (fun _ => 0)), (z 1, aI V 3075 (fun _ => 0))]) ∨ ((¬ p1.toInt64 < 0) ∧ (¬ 1 < p1.toInt64) ∧ (¬ p0.toInt64 < 0) ∧ (¬ 7 < p0.toInt64) ∧ p0 = 0 ∧ p1 = 0 ∧ r = 0 ∧ w = [(z 0, .inr (10, mo z 0 0 0 0 0 0 0 0 0 0 (-1) 0 0 0 0 1)), (z 24, aI V 10000 (fun _ => 0)), (z 25, aI V 40000 (upd (upd (upd (fun _ => 0) 1 (-1)) 2 (-1)) 3 (-1))), (z 28, aZ V 10000 (upd (fun _ => 0) 0 1)), (z 30, aJ V 10000 (vp_updL (fun _ => 0) 0 1)), (z 31, aJ V 10000 (fun _ => 0)), (z 1, aI V 3075 (fun _ => 0))]) ∨ ((¬ p1.toInt64 < 0) ∧ (¬ 1 < p1.toInt64) ∧ (¬ p0.toInt64 < 0) ∧ (¬ 7 < p0.toInt64) ∧ p0 = 1 ∧ (¬ p1 = 0) ∧ r = 1 ∧ w = [(z 0, .inr (10, mo z 0 0 0 0 0 0 0 0 0 0 (-1) 0 0 0 0 1)), (z 24, aI V 10000 (fun _ => 0)), (z 25, aI V 40000 (upd (upd (upd (fun _ => 0) 1 (-1)) 2 (-1)) 3 (-1))), (z 28, aZ V 10000 (upd (fun _ => 0) 0 1)), (z 30, aJ V 10000 (vp_updL (fun _ => 0) 0 10)), (z 31, aJ V 10000 (fun _ => 0)), (z 1, aI V 3075 (fun _ => 0))]) ∨ ((¬ p1.toInt64 < 0) ∧ (¬ 1 < p1.toInt64) ∧ (¬ p0.toInt64 < 0) ∧ (¬ 7 < p0.toInt64) ∧ p0 = 1 ∧ p1 = 0 ∧ r = 0 ∧ w = [(z 0, .inr (10, mo z 0 0 0 0 0 0 0 0 0 0 (-1) 0 0 0 0 1)), (z 24, aI V 10000 (fun _ => 0)), (z 25, aI V 40000 (upd (upd (upd (fun _ => 0) 1 (-1)) 2 (-1)) 3 (-1))), (z 28, aZ V 10000 (upd (fun _ => 0) 0 1)), (z 30, aJ V 10000 (vp_updL (fun _ => 0) 0 10)), (z 31, aJ V 10000 (fun _ => 0)), (z 1, aI V 3075 (fun _ => 0))]) ∨ ((¬ p1.toInt64 < 0) ∧ (¬ 1 < p1.toInt64) ∧ (¬ p0.toInt64 < 0) ∧ (¬ 7 < p0.toInt64) ∧ p0 = 2 ∧ (¬ p1 = 0) ∧ r = 1 ∧ w = [(z 0, .inr (10, mo z 0 0 0 0 0 0 0 0 0 0 (-1) 0 0 0 0 1)), (z 24, aI V 10000 (fun _ => 0)), (z 25, aI V 40000 (upd (upd (upd (fun _ => 0) 1 (-1)) 2 (-1)) 3 (-1))), (z 28, aZ V 10000 (upd (fun _ => 0) 0 1)), (z 30, aJ V 10000 (vp_updL (fun _ => 0) 0 100)), (z 31, aJ V 10000 (fun _ => 0)), (z 1, aI V 3075 (fun _ => 0))]) ∨ ((¬ p1.toInt64 < 0) ∧ (¬ 1 < p1.toInt64) ∧ (¬ p0.toInt64 < 0) ∧ (¬ 7 < p0.toInt64) ∧ p0 = 2 ∧ p1 = 0 ∧ r = 0 ∧ w = [(z 0, .inr (10, mo z 0 0 0 0 0 0 0 0 0 0 (-1) 0 0 0 0 1)), (z 24, aI V 10000 (fun _ => 0)), (z 25, aI V 40000 (upd (upd (upd (fun _ => 0) 1 (-1)) 2 (-1)) 3 (-1))), (z 28, aZ V 10000 (upd (fun _ => 0) 0 1)), (z 30, aJ V 10000 (vp_updL (fun _ => 0) 0 100)), (z 31, aJ V 10000 (fun _ => 0)), (z 1, aI V 3075 (fun _ => 0))]) ∨ ((¬ p1.toInt64 < 0) ∧ (¬ 1 < p1.toInt64) ∧ (¬ p0.toInt64 < 0) ∧ (¬ 7 < p0.toInt64) ∧ p0 = 3 ∧ (¬ p1 = 0) ∧ r = 1 ∧ w = [(z 0, .inr (10, mo z 0 0 0 0 0 0 0 0 0 0 (-1) 0 0 0 0 1)), (z 24, aI V 10000 (fun _ => 0)), (z 25, aI V 40000 (upd (upd (upd (fun _ => 0) 1 (-1)) 2 (-1)) 3 (-1))), (z 28, aZ V 10000 (upd (fun _ => 0) 0 1)), (z 30, aJ V 10000 (vp_updL (fun _ => 0) 0 1000)), (z 31, aJ V 10000 (fun _ => 0)), (z 1, aI V 3075 (fun _ => 0))]) ∨ ((¬ p1.toInt64 < 0) ∧ (¬ 1 < p1.toInt64) ∧ (¬ p0.toInt64 < 0) ∧ (¬ 7 < p0.toInt64) ∧ p0 = 3 ∧ p1 = 0 ∧ r = 0 ∧ w = [(z 0, .inr (10, mo z 0 0 0 0 0 0 0 0 0 0 (-1) 0 0 0 0 1)), (z 24, aI V 10000 (fun _ => 0)), (z 25, aI V 40000 (upd (upd (upd (fun _ => 0) 1 (-1)) 2 (-1)) 3 (-1))), (z 28, aZ V 10000 (upd (fun _ => 0) 0 1)), (z 30, aJ V 10000 (vp_updL (fun _ => 0) 0 1000)), (z 31, aJ V 10000 (fun _ => 0)), (z 1, aI V 3075 (fun _ => 0))]) ∨ ((¬ p1.toInt64 < 0) ∧ (¬ 1 < p1.toInt64) ∧ (¬ p0.toInt64 < 0) ∧ (¬ 7 < p0.toInt64) ∧ p0 = 4 ∧ (¬ p1 = 0) ∧ r = 1 ∧ w = [(z 0, .inr (10, mo z 0 0 0 0 0 0 0 0 0 0 (-1) 0 0 0 0 1)), (z 24, aI V 10000 (fun _ => 0)), (z 25, aI V 40000 (upd (upd (upd (fun _ => 0) 1 (-1)) 2 (-1)) 3 (-1))), (z 28, aZ V 10000 (upd (fun _ => 0) 0 1)), (z 30, aJ V 10000 (vp_updL (fun _ => 0) 0 10000)), (z 31, aJ V 10000 (fun _ => 0)), (z 1, aI V 3075 (fun _ => 0))]) ∨ ((¬ p1.toInt64 < 0) ∧ (¬ 1 < p1.toInt64) ∧ (¬ p0.toInt64 < 0) ∧ (¬ 7 < p0.toInt64) ∧ p0 = 4 ∧ p1 = 0 ∧ r = 0 ∧ w = [(z 0, .inr (10, mo z 0 0 0 0 0 0 0 0 0 0 (-1) 0 0 0 0 1)), (z 24, aI V 10000 (fun _ => 0)), (z 25, aI V 40000 (upd (upd (upd (fun _ => 0) 1 (-1)) 2 (-1)) 3 (-1))), (z 28, aZ V 10000 (upd (fun _ => 0) 0 1)), (z 30, aJ V 10000 (vp_updL (fun _ => 0) 0 10000)), (z 31, aJ V 10000 (fun _ => 0)), (z 1, aI V 3075 (fun _ => 0))]) ∨ ((¬ p1.toInt64 < 0) ∧ (¬ 1 < p1.toInt64) ∧ (¬ p0.toInt64 < 0) ∧ (¬ 7 < p0.toInt64) ∧ p0 = 5 ∧ (¬ p1 = 0) ∧ r = 1 ∧ w = [(z 0, .inr (10, mo z 0 0 0 0 0 0 0 0 0 0 (-1) 0 0 0 0 1)), (z 24, aI V 10000 (fun _ => 0)), (z 25, aI V 40000 (upd (upd (upd (fun _ => 0) 1 (-1)) 2 (-1)) 3 (-1))), (z 28, aZ V 10000 (upd (fun _ => 0) 0 1)), (z 30, aJ V 10000 (vp_updL (fun _ => 0) 0 100000)), (z 31, aJ V 10000 (fun _ => 0)), (z 1, aI V 3075 (fun _ => 0))]) ∨ ((¬ p1.toInt64 < 0) ∧ (¬ 1 < p1.toInt64) ∧ (¬ p0.toInt64 < 0) ∧ (¬ 7 < p0.toInt64) ∧ p0 = 5 ∧ p1 = 0 ∧ r = 0 ∧ w = [(z 0, .inr (10, mo z 0 0 0 0 0 0 0 0 0 0 (-1) 0 0 0 0 1)), (z 24, aI V 10000 (fun _ => 0)), (z 25, aI V 40000 (upd (upd (upd (fun _ => 0) 1 (-1)) 2 (-1)) 3 (-1))), (z 28, aZ V 10000 (upd (fun _ => 0) 0 1)), (z 30, aJ V 10000 (vp_updL (fun _ => 0) 0 100000)), (z 31, aJ V 10000 (fun _ => 0)), (z 1, aI V 3075 (fun _ => 0))]) ∨ ((¬ p1.toInt64 < 0) ∧ (¬ 1 < p1.toInt64) ∧ (¬ p0.toInt64 < 0) ∧ (¬ 7 < p0.toInt64) ∧ p0 = 6 ∧ (¬ p1 = 0) ∧ r = 1 ∧ w = [(z 0, .inr (10, mo z 0 0 0 0 0 0 0 0 0 0 (-1) 0 0 0 0 1)), (z 24, aI V 10000 (fun _ => 0)), (z 25, aI V 40000 (upd (upd (upd (fun _ => 0) 1 (-1)) 2 (-1)) 3 (-1))), (z 28, aZ V 10000 (upd (fun _ => 0) 0 1)), (z 30, aJ V 10000 (vp_updL (fun _ => 0) 0 1000000)), (z 31, aJ V 10000 (fun _ => 0)), (z 1, aI V 3075 (fun _ => 0))]) ∨ ((¬ p1.toInt64 < 0) ∧ (¬ 1 < p1.toInt64) ∧ (¬ p0.toInt64 < 0) ∧ (¬ 7 < p0.toInt64) ∧ p0 = 6 ∧ p1 = 0 ∧ r = 0 ∧ w = [(z 0, .inr (10, mo z 0 0 0 0 0 0 0 0 0 0 (-1) 0 0 0 0 1)), (z 24, aI V 10000 (fun _ => 0)), (z 25, aI V 40000 (upd (upd (upd (fun _ => 0) 1 (-1)) 2 (-1)) 3 (-1))), (z 28, aZ V 10000 (upd (fun _ => 0) 0 1)), (z 30, aJ V 10000 (vp_updL (fun _ => 0) 0 1000000)), (z 31, aJ V 10000 (fun _ => 0)), (z 1, aI V 3075 (fun _ => 0))]) ∨ ((¬ p1.toInt64 < 0) ∧ (¬ 1 < p1.toInt64) ∧ (¬ p0.toInt64 < 0) ∧ (¬ 7 < p0.toInt64) ∧ p0 = 7 ∧ (¬ p1 = 0) ∧ r = 1 ∧ w = [(z 0, .inr (10, mo z 0 0 0 0 0 0 0 0 0 0 (-1) 0 0 0 0 1)), (z 24, aI V 10000 (fun _ => 0)), (z 25, aI V 40000 (upd (upd (upd (fun _ => 0) 1 (-1)) 2 (-1)) 3 (-1))), (z 28, aZ V 10000 (upd (fun _ => 0) 0 1)), (z 30, aJ V 10000 (vp_updL (fun _ => 0) 0 10000000)), (z 31, aJ V 10000 (fun _ => 0)), (z 1, aI V 3075 (fun _ => 0))]) ∨ ((¬ p1.toInt64 < 0) ∧ (¬ 1 < p1.toInt64) ∧ (¬ p0.toInt64 < 0) ∧ (¬ 7 < p0.toInt64) ∧ p0 = 7 ∧ p1 = 0 ∧ r = 0 ∧ w = [(z 0, .inr (10, mo z 0 0 0 0 0 0 0 0 0 0 (-1) 0 0 0 0 1)), (z 24, aI V 10000 (fun _ => 0)), (z 25, aI V 40000 (upd (upd (upd (fun _ => 0) 1 (-1)) 2 (-1)) 3 (-1))), (z 28, aZ V 10000 (upd (fun _ => 0) 0 1)), (z 30, aJ V 10000 (vp_updL (fun _ => 0) 0 10000000)), (z 31, aJ V 10000 (fun _ => 0)), (z 1, aI V 3075 (fun _ => 0))]))) := by
  refine Ct.of (by decide) (Nat.le_of_ble_eq_true rfl) (fun p e s m below meth c A ls hx hb hr hml hown hlk hnm hg hP hK hD hE hA hS hl => ?_)
  have hl : lv_has ls 6 [(0, .ref (z 0)), (1, .int p0), (2, .int p1)] := hl
  refine lv_aload_n hx hb dX10_mean_0 rfl (lv_at hl 0 rfl) ?_
  refine lv_iconst (v := 0) hx hb dX10_mean_1 (by decide) ?_
  refine va_put (ci := 10) (v := .int 0) (ty := .int) (C := RX10) (T := TX10) (N := 40) hx hb hg inX10 tyX10 tyX10_ok nmX10 hown hK hP hD hS 0 rfl rfl 0 (by decide) (hg _ q_5_224) (fun _ h9 => h9) rfl (by decide +kernel) rfl rfl (Nat.le_of_ble_eq_true rfl) dX10_mean_2 (fun H locs hP hD hS => ?_)
  have hP : va_P V.1 vwCl [(z 0, .inr (10, mo z 0 0 0 0 0 0 0 0 0 0 (-1) 0 0 0 0 0)), (z 24, aI V 10000 (fun _ => 0)), (z 25, aI V 40000 (fun _ => 0)), (z 28, aZ V 10000 (fun _ => 0)), (z 30, aJ V 10000 (fun _ => 0)), (z 31, aJ V 10000 (fun _ => 0)), (z 1, aI V 3075 (fun _ => 0))] H := hP
  have hD : va_D A [(z 0, .inr (10, mo z 0 0 0 0 0 0 0 0 0 0 (-1) 0 0 0 0 0)), (z 24, aI V 10000 (fun _ => 0)), (z 25, aI V 40000 (fun _ => 0)), (z 28, aZ V 10000 (fun _ => 0)), (z 30, aJ V 10000 (fun _ => 0)), (z 31, aJ V 10000 (fun _ => 0)), (z 1, aI V 3075 (fun _ => 0))] := hD
  refine lv_iload_n hx hb dX10_mean_5 rfl (lv_at hl 2 rfl) ?_
  refine lv_i2l (v := p1.toInt64) hx hb dX10_mean_6 rfl ?_
  refine lv_lconst (v := 0) hx hb dX10_mean_7 (by decide) ?_
  refine lv_lconst (v := 1) hx hb dX10_mean_8 (by decide) ?_
  refine jnI (wr := [(z 0, .inr (10, mo z 0 0 0 0 0 0 0 0 0 0 (-1) 0 0 0 0 0)), (z 24, aI V 10000 (fun _ => 0)), (z 25, aI V 40000 (fun _ => 0)), (z 28, aZ V 10000 (fun _ => 0)), (z 30, aJ V 10000 (fun _ => 0)), (z 31, aJ V 10000 (fun _ => 0)), (z 1, aI V 3075 (fun _ => 0))]) (rnS (rest := []) ⟨hx, hb, hml, hown, hg⟩ (c_X10_within_0 l V p1.toInt64 0 1) mt_X10_within q_6_114 ⟨Nat.le_of_ble_eq_true rfl, Nat.le_of_ble_eq_true rfl⟩ hK hP hD hS hA hE [] rfl rfl rfl hl.1 rfl (Nat.le_of_ble_eq_true rfl) dX10_mean_9 ⟨Nat.le_of_ble_eq_true rfl, Nat.le_of_ble_eq_true rfl⟩) hP hD hS hA [] [0, 1, 2, 3, 4, 5, 6] rfl rfl rfl (by decide) (fun r_1 w H locs hw hP hD hS => ?_)
  rcases hw with ⟨c_2, rfl, rfl⟩ | ⟨c_3, c_4, rfl, rfl⟩ | ⟨c_5, c_6, rfl, rfl⟩
  · have hP : va_P V.1 vwCl [(z 0, .inr (10, mo z 0 0 0 0 0 0 0 0 0 0 (-1) 0 0 0 0 0)), (z 24, aI V 10000 (fun _ => 0)), (z 25, aI V 40000 (fun _ => 0)), (z 28, aZ V 10000 (fun _ => 0)), (z 30, aJ V 10000 (fun _ => 0)), (z 31, aJ V 10000 (fun _ => 0)), (z 1, aI V 3075 (fun _ => 0))] H := hP
    have hD : va_D A [(z 0, .inr (10, mo z 0 0 0 0 0 0 0 0 0 0 (-1) 0 0 0 0 0)), (z 24, aI V 10000 (fun _ => 0)), (z 25, aI V 40000 (fun _ => 0)), (z 28, aZ V 10000 (fun _ => 0)), (z 30, aJ V 10000 (fun _ => 0)), (z 31, aJ V 10000 (fun _ => 0)), (z 1, aI V 3075 (fun _ => 0))] := hD
    refine lv_if_ne (tgt := 18) hx hb dX10_mean_12 (by decide) (fun c_7 => absurd c_7 (by decide)) (fun _ => ?_)
    refine lv_bipush (v := (-2)) hx hb dX10_mean_15 (by decide) ?_
    exact fiI hx hb hr hlk hK hP hD hS dX10_mean_17 (Nat.le_of_ble_eq_true rfl) (Nat.le_of_ble_eq_true rfl) (Or.inl ⟨c_2, rfl, rfl⟩)
  · have hP : va_P V.1 vwCl [(z 0, .inr (10, mo z 0 0 0 0 0 0 0 0 0 0 (-1) 0 0 0 0 0)), (z 24, aI V 10000 (fun _ => 0)), (z 25, aI V 40000 (fun _ => 0)), (z 28, aZ V 10000 (fun _ => 0)), (z 30, aJ V 10000 (fun _ => 0)), (z 31, aJ V 10000 (fun _ => 0)), (z 1, aI V 3075 (fun _ => 0))] H := hP
    have hD : va_D A [(z 0, .inr (10, mo z 0 0 0 0 0 0 0 0 0 0 (-1) 0 0 0 0 0)), (z 24, aI V 10000 (fun _ => 0)), (z 25, aI V 40000 (fun _ => 0)), (z 28, aZ V 10000 (fun _ => 0)), (z 30, aJ V 10000 (fun _ => 0)), (z 31, aJ V 10000 (fun _ => 0)), (z 1, aI V 3075 (fun _ => 0))] := hD
    refine lv_if_ne (tgt := 18) hx hb dX10_mean_12 (by decide) (fun c_8 => absurd c_8 (by decide)) (fun _ => ?_)
    refine lv_bipush (v := (-2)) hx hb dX10_mean_15 (by decide) ?_
    exact fiI hx hb hr hlk hK hP hD hS dX10_mean_17 (Nat.le_of_ble_eq_true rfl) (Nat.le_of_ble_eq_true rfl) (Or.inr (Or.inl ⟨c_3, c_4, rfl, rfl⟩))
  · have hP : va_P V.1 vwCl [(z 0, .inr (10, mo z 0 0 0 0 0 0 0 0 0 0 (-1) 0 0 0 0 0)), (z 24, aI V 10000 (fun _ => 0)), (z 25, aI V 40000 (fun _ => 0)), (z 28, aZ V 10000 (fun _ => 0)), (z 30, aJ V 10000 (fun _ => 0)), (z 31, aJ V 10000 (fun _ => 0)), (z 1, aI V 3075 (fun _ => 0))] H := hP
    have hD : va_D A [(z 0, .inr (10, mo z 0 0 0 0 0 0 0 0 0 0 (-1) 0 0 0 0 0)), (z 24, aI V 10000 (fun _ => 0)), (z 25, aI V 40000 (fun _ => 0)), (z 28, aZ V 10000 (fun _ => 0)), (z 30, aJ V 10000 (fun _ => 0)), (z 31, aJ V 10000 (fun _ => 0)), (z 1, aI V 3075 (fun _ => 0))] := hD
    refine lv_if_ne (tgt := 18) hx hb dX10_mean_12 (by decide) (fun _ => ?_) (fun c_9 => absurd c_9 (by decide))
    refine lv_iload_n hx hb dX10_mean_18 rfl (lv_at hl 1 rfl) ?_
    refine lv_i2l (v := p0.toInt64) hx hb dX10_mean_19 rfl ?_
    refine lv_lconst (v := 0) hx hb dX10_mean_20 (by decide) ?_
    refine lv_ldc2 (v := 7) hx hb hown (hg _ q_8_113) dX10_mean_21 ?_
    refine jnI (wr := [(z 0, .inr (10, mo z 0 0 0 0 0 0 0 0 0 0 (-1) 0 0 0 0 0)), (z 24, aI V 10000 (fun _ => 0)), (z 25, aI V 40000 (fun _ => 0)), (z 28, aZ V 10000 (fun _ => 0)), (z 30, aJ V 10000 (fun _ => 0)), (z 31, aJ V 10000 (fun _ => 0)), (z 1, aI V 3075 (fun _ => 0))]) (rnS (rest := []) ⟨hx, hb, hml, hown, hg⟩ (c_X10_within_0 l V p0.toInt64 0 7) mt_X10_within q_6_114 ⟨Nat.le_of_ble_eq_true rfl, Nat.le_of_ble_eq_true rfl⟩ hK hP hD hS hA hE [] rfl rfl rfl hl.1 rfl (Nat.le_of_ble_eq_true rfl) dX10_mean_24 ⟨Nat.le_of_ble_eq_true rfl, Nat.le_of_ble_eq_true rfl⟩) hP hD hS hA [] [0, 1, 2, 3, 4, 5, 6] rfl rfl rfl (by decide) (fun r_10 w H locs hw hP hD hS => ?_)
    rcases hw with ⟨c_11, rfl, rfl⟩ | ⟨c_12, c_13, rfl, rfl⟩ | ⟨c_14, c_15, rfl, rfl⟩
    · have hP : va_P V.1 vwCl [(z 0, .inr (10, mo z 0 0 0 0 0 0 0 0 0 0 (-1) 0 0 0 0 0)), (z 24, aI V 10000 (fun _ => 0)), (z 25, aI V 40000 (fun _ => 0)), (z 28, aZ V 10000 (fun _ => 0)), (z 30, aJ V 10000 (fun _ => 0)), (z 31, aJ V 10000 (fun _ => 0)), (z 1, aI V 3075 (fun _ => 0))] H := hP
      have hD : va_D A [(z 0, .inr (10, mo z 0 0 0 0 0 0 0 0 0 0 (-1) 0 0 0 0 0)), (z 24, aI V 10000 (fun _ => 0)), (z 25, aI V 40000 (fun _ => 0)), (z 28, aZ V 10000 (fun _ => 0)), (z 30, aJ V 10000 (fun _ => 0)), (z 31, aJ V 10000 (fun _ => 0)), (z 1, aI V 3075 (fun _ => 0))] := hD
      refine lv_if_ne (tgt := 33) hx hb dX10_mean_27 (by decide) (fun c_16 => absurd c_16 (by decide)) (fun _ => ?_)
      refine lv_bipush (v := (-3)) hx hb dX10_mean_30 (by decide) ?_
      exact fiI hx hb hr hlk hK hP hD hS dX10_mean_32 (Nat.le_of_ble_eq_true rfl) (Nat.le_of_ble_eq_true rfl) (Or.inr (Or.inr (Or.inl ⟨c_5, c_6, c_11, rfl, rfl⟩)))
    · have hP : va_P V.1 vwCl [(z 0, .inr (10, mo z 0 0 0 0 0 0 0 0 0 0 (-1) 0 0 0 0 0)), (z 24, aI V 10000 (fun _ => 0)), (z 25, aI V 40000 (fun _ => 0)), (z 28, aZ V 10000 (fun _ => 0)), (z 30, aJ V 10000 (fun _ => 0)), (z 31, aJ V 10000 (fun _ => 0)), (z 1, aI V 3075 (fun _ => 0))] H := hP
      have hD : va_D A [(z 0, .inr (10, mo z 0 0 0 0 0 0 0 0 0 0 (-1) 0 0 0 0 0)), (z 24, aI V 10000 (fun _ => 0)), (z 25, aI V 40000 (fun _ => 0)), (z 28, aZ V 10000 (fun _ => 0)), (z 30, aJ V 10000 (fun _ => 0)), (z 31, aJ V 10000 (fun _ => 0)), (z 1, aI V 3075 (fun _ => 0))] := hD
      refine lv_if_ne (tgt := 33) hx hb dX10_mean_27 (by decide) (fun c_17 => absurd c_17 (by decide)) (fun _ => ?_)
      refine lv_bipush (v := (-3)) hx hb dX10_mean_30 (by decide) ?_
      exact fiI hx hb hr hlk hK hP hD hS dX10_mean_32 (Nat.le_of_ble_eq_true rfl) (Nat.le_of_ble_eq_true rfl) (Or.inr (Or.inr (Or.inr (Or.inl ⟨c_5, c_6, c_12, c_13, rfl, rfl⟩))))
    · have hP : va_P V.1 vwCl [(z 0, .inr (10, mo z 0 0 0 0 0 0 0 0 0 0 (-1) 0 0 0 0 0)), (z 24, aI V 10000 (fun _ => 0)), (z 25, aI V 40000 (fun _ => 0)), (z 28, aZ V 10000 (fun _ => 0)), (z 30, aJ V 10000 (fun _ => 0)), (z 31, aJ V 10000 (fun _ => 0)), (z 1, aI V 3075 (fun _ => 0))] H := hP
      have hD : va_D A [(z 0, .inr (10, mo z 0 0 0 0 0 0 0 0 0 0 (-1) 0 0 0 0 0)), (z 24, aI V 10000 (fun _ => 0)), (z 25, aI V 40000 (fun _ => 0)), (z 28, aZ V 10000 (fun _ => 0)), (z 30, aJ V 10000 (fun _ => 0)), (z 31, aJ V 10000 (fun _ => 0)), (z 1, aI V 3075 (fun _ => 0))] := hD
      refine lv_if_ne (tgt := 33) hx hb dX10_mean_27 (by decide) (fun _ => ?_) (fun c_18 => absurd c_18 (by decide))
      have c_19 : p0 = 0 ∨ p0 = 1 ∨ p0 = 2 ∨ p0 = 3 ∨ p0 = 4 ∨ p0 = 5 ∨ p0 = 6 ∨ p0 = 7 := by simp only [tI_lt, tI_le, tI_eq, tL_lt, tL_le, tL_eq, tWx, (by decide : (0 : Int32).toInt = 0), (by decide : (0 : Int64).toInt = 0), (by decide : (1 : Int32).toInt = 1), (by decide : (2 : Int32).toInt = 2), (by decide : (3 : Int32).toInt = 3), (by decide : (4 : Int32).toInt = 4), (by decide : (5 : Int32).toInt = 5), (by decide : (6 : Int32).toInt = 6), (by decide : (7 : Int32).toInt = 7), (by decide : (7 : Int64).toInt = 7)] at c_14 c_15 ⊢; omega
      rcases c_19 with rfl | rfl | rfl | rfl | rfl | rfl | rfl | rfl
      · refine lv_aload_n hx hb dX10_mean_33 rfl (lv_at hl 0 rfl) ?_
        refine lv_iload_n hx hb dX10_mean_34 rfl (lv_at hl 1 rfl) ?_
        refine jnV (wr := []) (rnV (rest := []) ⟨hx, hb, hml, hown, hg⟩ (c_X10_laysLikely_0 l V z) mt_X10_laysLikely q_8_114 ⟨Nat.le_of_ble_eq_true rfl, Nat.le_of_ble_eq_true rfl⟩ hK hP hD hS hA hE [0, 1, 2, 3, 4, 5, 6] rfl rfl 0 rfl rfl rfl rfl hl.1 rfl (Nat.le_of_ble_eq_true rfl) dX10_mean_35 ⟨Nat.le_of_ble_eq_true rfl, Nat.le_of_ble_eq_true rfl⟩) hP hD hS hA [0, 1, 2, 3, 4, 5, 6] [] rfl rfl rfl (by decide) (fun  w H locs hw hP hD hS => ?_)
        subst hw
        have hP : va_P V.1 vwCl [(z 0, .inr (10, mo z 0 0 0 0 0 0 0 0 0 0 (-1) 0 0 0 0 1)), (z 24, aI V 10000 (fun _ => 0)), (z 25, aI V 40000 (upd (upd (upd (fun _ => 0) 1 (-1)) 2 (-1)) 3 (-1))), (z 28, aZ V 10000 (upd (fun _ => 0) 0 1)), (z 30, aJ V 10000 (vp_updL (fun _ => 0) 0 1)), (z 31, aJ V 10000 (fun _ => 0)), (z 1, aI V 3075 (fun _ => 0))] H := hP
        have hD : va_D A [(z 0, .inr (10, mo z 0 0 0 0 0 0 0 0 0 0 (-1) 0 0 0 0 1)), (z 24, aI V 10000 (fun _ => 0)), (z 25, aI V 40000 (upd (upd (upd (fun _ => 0) 1 (-1)) 2 (-1)) 3 (-1))), (z 28, aZ V 10000 (upd (fun _ => 0) 0 1)), (z 30, aJ V 10000 (vp_updL (fun _ => 0) 0 1)), (z 31, aJ V 10000 (fun _ => 0)), (z 1, aI V 3075 (fun _ => 0))] := hD
        refine lv_lconst (v := 0) hx hb dX10_mean_38 (by decide) ?_
        refine lv_lstore_n (lv' := [(3, .long 0), (0, .ref (z 0)), (1, .int 0), (2, .int p1)]) hx hb dX10_mean_39 rfl hl (by decide) rfl (fun ls hl => ?_)
        refine lv_iconst (v := 0) hx hb dX10_mean_40 (by decide) ?_
        refine lv_istore (lv' := [(5, .int 0), (3, .long 0), (0, .ref (z 0)), (1, .int 0), (2, .int p1)]) hx hb dX10_mean_41 hl (by decide) rfl (fun ls hl => ?_)
        refine lv_iload hx hb dX10_mean_43 (lv_at hl 0 rfl) ?_
        refine lv_aload_n hx hb dX10_mean_45 rfl (lv_at hl 2 rfl) ?_
        refine va_get (ci := 10) (v := .int 1) (C := RX10) (T := TX10) (N := 40) hx hb hg inX10 hown hK hP 0 rfl rfl 29 (by decide) (hg _ q_6_13) (fun _ h9 => h9) rfl dX10_mean_46 ?_
        refine lv_icmp_ge (tgt := 86) hx hb dX10_mean_49 (by decide) (fun c_20 => absurd c_20 (by decide)) (fun _ => ?_)
        refine lv_lload_n hx hb dX10_mean_52 rfl (lv_at hl 1 rfl) ?_
        refine lv_aload_n hx hb dX10_mean_53 rfl (lv_at hl 2 rfl) ?_
        refine va_get (ci := 10) (v := .ref (z 30)) (C := RX10) (T := TX10) (N := 40) hx hb hg inX10 hown hK hP 0 rfl rfl 30 (by decide) (hg _ q_6_14) (fun _ h9 => h9) rfl dX10_mean_54 ?_
        refine lv_aload_n hx hb dX10_mean_57 rfl (lv_at hl 2 rfl) ?_
        refine va_get (ci := 10) (v := .ref (z 24)) (C := RX10) (T := TX10) (N := 40) hx hb hg inX10 hown hK hP 0 rfl rfl 24 (by decide) (hg _ q_6_8) (fun _ h9 => h9) rfl dX10_mean_58 ?_
        refine lv_iload hx hb dX10_mean_61 (lv_at hl 0 rfl) ?_
        refine va_iald hx hb hK hP 1 0 rfl rfl (vin (by decide +kernel)) dX10_mean_63 ?_
        refine tpi (y := 0) (rfl) ?_
        refine va_lald hx hb hK hP 4 2 rfl rfl (vin (by decide +kernel)) dX10_mean_64 ?_
        refine tpl (y := 1) (rfl) ?_
        refine lv_aload_n hx hb dX10_mean_65 rfl (lv_at hl 2 rfl) ?_
        refine lv_aload_n hx hb dX10_mean_66 rfl (lv_at hl 2 rfl) ?_
        refine va_get (ci := 10) (v := .ref (z 24)) (C := RX10) (T := TX10) (N := 40) hx hb hg inX10 hown hK hP 0 rfl rfl 24 (by decide) (hg _ q_6_8) (fun _ h9 => h9) rfl dX10_mean_67 ?_
        refine lv_iload hx hb dX10_mean_70 (lv_at hl 0 rfl) ?_
        refine va_iald hx hb hK hP 1 0 rfl rfl (vin (by decide +kernel)) dX10_mean_72 ?_
        refine tpi (y := 0) (rfl) ?_
        refine jnI (wr := [(z 24, aI V 10000 (fun _ => 0)), (z 25, aI V 40000 (upd (upd (upd (fun _ => 0) 1 (-1)) 2 (-1)) 3 (-1))), (z 28, aZ V 10000 (upd (fun _ => 0) 0 1)), (z 30, aJ V 10000 (vp_updL (fun _ => 0) 0 1)), (z 31, aJ V 10000 (fun _ => 0))]) (rnV (rest := [.long 1, .long 0]) ⟨hx, hb, hml, hown, hg⟩ (c_X10_sumIn_0 l V z) mt_X10_sumIn q_7_131 ⟨Nat.le_of_ble_eq_true rfl, Nat.le_of_ble_eq_true rfl⟩ hK hP hD hS hA hE [0, 6] rfl rfl 0 rfl rfl rfl rfl hl.1 rfl (Nat.le_of_ble_eq_true rfl) dX10_mean_73 ⟨Nat.le_of_ble_eq_true rfl, Nat.le_of_ble_eq_true rfl⟩) hP hD hS hA [0, 6] [1, 2, 3, 4, 5] rfl rfl rfl (by decide) (fun r_21 w H locs hw hP hD hS => ?_)
        obtain ⟨rfl, rfl⟩ := hw
        have hP : va_P V.1 vwCl [(z 24, aI V 10000 (fun _ => 0)), (z 25, aI V 40000 (upd (upd (upd (fun _ => 0) 1 (-1)) 2 (-1)) 3 (-1))), (z 28, aZ V 10000 (upd (fun _ => 0) 0 1)), (z 30, aJ V 10000 (vp_updL (fun _ => 0) 0 1)), (z 31, aJ V 10000 (fun _ => 0)), (z 0, .inr (10, mo z 0 0 0 0 0 0 0 0 0 0 (-1) 0 0 0 0 1)), (z 1, aI V 3075 (fun _ => 0))] H := hP
        have hD : va_D A [(z 24, aI V 10000 (fun _ => 0)), (z 25, aI V 40000 (upd (upd (upd (fun _ => 0) 1 (-1)) 2 (-1)) 3 (-1))), (z 28, aZ V 10000 (upd (fun _ => 0) 0 1)), (z 30, aJ V 10000 (vp_updL (fun _ => 0) 0 1)), (z 31, aJ V 10000 (fun _ => 0)), (z 0, .inr (10, mo z 0 0 0 0 0 0 0 0 0 0 (-1) 0 0 0 0 1)), (z 1, aI V 3075 (fun _ => 0))] := hD
        refine lv_i2l (v := 0) hx hb dX10_mean_76 (by decide +kernel) ?_
        refine lv_lmul hx hb dX10_mean_77 ?_
        refine tpl (y := 0) (by decide +kernel) ?_
        refine lv_ladd hx hb dX10_mean_78 ?_
        refine tpl (y := 0) (by decide +kernel) ?_
        refine lv_lstore_n (lv' := [(3, .long 0), (5, .int 0), (0, .ref (z 0)), (1, .int 0), (2, .int p1)]) hx hb dX10_mean_79 rfl hl (by decide) rfl (fun ls hl => ?_)
        refine lv_iinc (v := 1) (lv' := [(5, .int 1), (3, .long 0), (0, .ref (z 0)), (1, .int 0), (2, .int p1)]) hx hb dX10_mean_80 hl (k := 1) rfl (by decide +kernel) (by decide) rfl (fun ls hl => ?_)
        refine lv_goto (tgt := 43) hx hb dX10_mean_83 (by decide) ?_
        refine lv_iload hx hb dX10_mean_43 (lv_at hl 0 rfl) ?_
        refine lv_aload_n hx hb dX10_mean_45 rfl (lv_at hl 2 rfl) ?_
        refine va_get (ci := 10) (v := .int 1) (C := RX10) (T := TX10) (N := 40) hx hb hg inX10 hown hK hP 5 rfl rfl 29 (by decide) (hg _ q_6_13) (fun _ h9 => h9) rfl dX10_mean_46 ?_
        refine lv_icmp_ge (tgt := 86) hx hb dX10_mean_49 (by decide) (fun _ => ?_) (fun c_22 => absurd c_22 (by decide))
        refine lv_lload_n hx hb dX10_mean_86 rfl (lv_at hl 1 rfl) ?_
        refine lv_iload_n hx hb dX10_mean_87 rfl (lv_at hl 3 rfl) ?_
        refine jnL (wr := [(z 24, aI V 10000 (fun _ => 0)), (z 25, aI V 40000 (upd (upd (upd (fun _ => 0) 1 (-1)) 2 (-1)) 3 (-1))), (z 28, aZ V 10000 (upd (fun _ => 0) 0 1)), (z 30, aJ V 10000 (vp_updL (fun _ => 0) 0 1)), (z 31, aJ V 10000 (fun _ => 0)), (z 0, .inr (10, mo z 0 0 0 0 0 0 0 0 0 0 (-1) 0 0 0 0 1)), (z 1, aI V 3075 (fun _ => 0))]) (rnS (rest := [.long 0]) ⟨hx, hb, hml, hown, hg⟩ (c_X10_wholeOf_0 l V) mt_X10_wholeOf q_8_118 ⟨Nat.le_of_ble_eq_true rfl, Nat.le_of_ble_eq_true rfl⟩ hK hP hD hS hA hE [] rfl rfl rfl hl.1 rfl (Nat.le_of_ble_eq_true rfl) dX10_mean_88 ⟨Nat.le_of_ble_eq_true rfl, Nat.le_of_ble_eq_true rfl⟩) hP hD hS hA [] [0, 1, 2, 3, 4, 5, 6] rfl rfl rfl (by decide) (fun r_23 w H locs hw hP hD hS => ?_)
        obtain ⟨rfl, rfl⟩ := hw
        have hP : va_P V.1 vwCl [(z 24, aI V 10000 (fun _ => 0)), (z 25, aI V 40000 (upd (upd (upd (fun _ => 0) 1 (-1)) 2 (-1)) 3 (-1))), (z 28, aZ V 10000 (upd (fun _ => 0) 0 1)), (z 30, aJ V 10000 (vp_updL (fun _ => 0) 0 1)), (z 31, aJ V 10000 (fun _ => 0)), (z 0, .inr (10, mo z 0 0 0 0 0 0 0 0 0 0 (-1) 0 0 0 0 1)), (z 1, aI V 3075 (fun _ => 0))] H := hP
        have hD : va_D A [(z 24, aI V 10000 (fun _ => 0)), (z 25, aI V 40000 (upd (upd (upd (fun _ => 0) 1 (-1)) 2 (-1)) 3 (-1))), (z 28, aZ V 10000 (upd (fun _ => 0) 0 1)), (z 30, aJ V 10000 (vp_updL (fun _ => 0) 0 1)), (z 31, aJ V 10000 (fun _ => 0)), (z 0, .inr (10, mo z 0 0 0 0 0 0 0 0 0 0 (-1) 0 0 0 0 1)), (z 1, aI V 3075 (fun _ => 0))] := hD
        refine lv_iload_n hx hb dX10_mean_91 rfl (lv_at hl 4 rfl) ?_
        refine jnI (wr := [(z 24, aI V 10000 (fun _ => 0)), (z 25, aI V 40000 (upd (upd (upd (fun _ => 0) 1 (-1)) 2 (-1)) 3 (-1))), (z 28, aZ V 10000 (upd (fun _ => 0) 0 1)), (z 30, aJ V 10000 (vp_updL (fun _ => 0) 0 1)), (z 31, aJ V 10000 (fun _ => 0)), (z 0, .inr (10, mo z 0 0 0 0 0 0 0 0 0 0 (-1) 0 0 0 0 1)), (z 1, aI V 3075 (fun _ => 0))]) (rnS (rest := []) ⟨hx, hb, hml, hown, hg⟩ (c_X10_part_0 l V p1) mt_X10_part q_8_121 ⟨Nat.le_of_ble_eq_true rfl, Nat.le_of_ble_eq_true rfl⟩ hK hP hD hS hA hE [] rfl rfl rfl hl.1 rfl (Nat.le_of_ble_eq_true rfl) dX10_mean_92 ⟨Nat.le_of_ble_eq_true rfl, Nat.le_of_ble_eq_true rfl⟩) hP hD hS hA [] [0, 1, 2, 3, 4, 5, 6] rfl rfl rfl (by decide) (fun r_24 w H locs hw hP hD hS => ?_)
        rcases hw with ⟨c_25, rfl, rfl⟩ | ⟨c_26, rfl, rfl⟩
        · have hP : va_P V.1 vwCl [(z 24, aI V 10000 (fun _ => 0)), (z 25, aI V 40000 (upd (upd (upd (fun _ => 0) 1 (-1)) 2 (-1)) 3 (-1))), (z 28, aZ V 10000 (upd (fun _ => 0) 0 1)), (z 30, aJ V 10000 (vp_updL (fun _ => 0) 0 1)), (z 31, aJ V 10000 (fun _ => 0)), (z 0, .inr (10, mo z 0 0 0 0 0 0 0 0 0 0 (-1) 0 0 0 0 1)), (z 1, aI V 3075 (fun _ => 0))] H := hP
          have hD : va_D A [(z 24, aI V 10000 (fun _ => 0)), (z 25, aI V 40000 (upd (upd (upd (fun _ => 0) 1 (-1)) 2 (-1)) 3 (-1))), (z 28, aZ V 10000 (upd (fun _ => 0) 0 1)), (z 30, aJ V 10000 (vp_updL (fun _ => 0) 0 1)), (z 31, aJ V 10000 (fun _ => 0)), (z 0, .inr (10, mo z 0 0 0 0 0 0 0 0 0 0 (-1) 0 0 0 0 1)), (z 1, aI V 3075 (fun _ => 0))] := hD
          have hP := subP (ws' := [(z 0, .inr (10, mo z 0 0 0 0 0 0 0 0 0 0 (-1) 0 0 0 0 1)), (z 24, aI V 10000 (fun _ => 0)), (z 25, aI V 40000 (upd (upd (upd (fun _ => 0) 1 (-1)) 2 (-1)) 3 (-1))), (z 28, aZ V 10000 (upd (fun _ => 0) 0 1)), (z 30, aJ V 10000 (vp_updL (fun _ => 0) 0 1)), (z 31, aJ V 10000 (fun _ => 0)), (z 1, aI V 3075 (fun _ => 0))]) hP [5, 0, 1, 2, 3, 4, 6] rfl
          have hD := hD.sub (ws' := [(z 0, .inr (10, mo z 0 0 0 0 0 0 0 0 0 0 (-1) 0 0 0 0 1)), (z 24, aI V 10000 (fun _ => 0)), (z 25, aI V 40000 (upd (upd (upd (fun _ => 0) 1 (-1)) 2 (-1)) 3 (-1))), (z 28, aZ V 10000 (upd (fun _ => 0) 0 1)), (z 30, aJ V 10000 (vp_updL (fun _ => 0) 0 1)), (z 31, aJ V 10000 (fun _ => 0)), (z 1, aI V 3075 (fun _ => 0))]) [5, 0, 1, 2, 3, 4, 6] rfl rfl
          exact fiI hx hb hr hlk hK hP hD hS dX10_mean_95 (Nat.le_of_ble_eq_true rfl) (Nat.le_of_ble_eq_true rfl) (Or.inr (Or.inr (Or.inr (Or.inr (Or.inl ⟨c_5, c_6, c_14, c_15, rfl, c_25, rfl, rfl⟩)))))
        · have hP : va_P V.1 vwCl [(z 24, aI V 10000 (fun _ => 0)), (z 25, aI V 40000 (upd (upd (upd (fun _ => 0) 1 (-1)) 2 (-1)) 3 (-1))), (z 28, aZ V 10000 (upd (fun _ => 0) 0 1)), (z 30, aJ V 10000 (vp_updL (fun _ => 0) 0 1)), (z 31, aJ V 10000 (fun _ => 0)), (z 0, .inr (10, mo z 0 0 0 0 0 0 0 0 0 0 (-1) 0 0 0 0 1)), (z 1, aI V 3075 (fun _ => 0))] H := hP
          have hD : va_D A [(z 24, aI V 10000 (fun _ => 0)), (z 25, aI V 40000 (upd (upd (upd (fun _ => 0) 1 (-1)) 2 (-1)) 3 (-1))), (z 28, aZ V 10000 (upd (fun _ => 0) 0 1)), (z 30, aJ V 10000 (vp_updL (fun _ => 0) 0 1)), (z 31, aJ V 10000 (fun _ => 0)), (z 0, .inr (10, mo z 0 0 0 0 0 0 0 0 0 0 (-1) 0 0 0 0 1)), (z 1, aI V 3075 (fun _ => 0))] := hD
          have hP := subP (ws' := [(z 0, .inr (10, mo z 0 0 0 0 0 0 0 0 0 0 (-1) 0 0 0 0 1)), (z 24, aI V 10000 (fun _ => 0)), (z 25, aI V 40000 (upd (upd (upd (fun _ => 0) 1 (-1)) 2 (-1)) 3 (-1))), (z 28, aZ V 10000 (upd (fun _ => 0) 0 1)), (z 30, aJ V 10000 (vp_updL (fun _ => 0) 0 1)), (z 31, aJ V 10000 (fun _ => 0)), (z 1, aI V 3075 (fun _ => 0))]) hP [5, 0, 1, 2, 3, 4, 6] rfl
          have hD := hD.sub (ws' := [(z 0, .inr (10, mo z 0 0 0 0 0 0 0 0 0 0 (-1) 0 0 0 0 1)), (z 24, aI V 10000 (fun _ => 0)), (z 25, aI V 40000 (upd (upd (upd (fun _ => 0) 1 (-1)) 2 (-1)) 3 (-1))), (z 28, aZ V 10000 (upd (fun _ => 0) 0 1)), (z 30, aJ V 10000 (vp_updL (fun _ => 0) 0 1)), (z 31, aJ V 10000 (fun _ => 0)), (z 1, aI V 3075 (fun _ => 0))]) [5, 0, 1, 2, 3, 4, 6] rfl rfl
          exact fiI hx hb hr hlk hK hP hD hS dX10_mean_95 (Nat.le_of_ble_eq_true rfl) (Nat.le_of_ble_eq_true rfl) (Or.inr (Or.inr (Or.inr (Or.inr (Or.inr (Or.inl ⟨c_5, c_6, c_14, c_15, rfl, c_26, rfl, rfl⟩))))))
      · refine lv_aload_n hx hb dX10_mean_33 rfl (lv_at hl 0 rfl) ?_
        refine lv_iload_n hx hb dX10_mean_34 rfl (lv_at hl 1 rfl) ?_
        refine jnV (wr := []) (rnV (rest := []) ⟨hx, hb, hml, hown, hg⟩ (c_X10_laysLikely_1 l V z) mt_X10_laysLikely q_8_114 ⟨Nat.le_of_ble_eq_true rfl, Nat.le_of_ble_eq_true rfl⟩ hK hP hD hS hA hE [0, 1, 2, 3, 4, 5, 6] rfl rfl 0 rfl rfl rfl rfl hl.1 rfl (Nat.le_of_ble_eq_true rfl) dX10_mean_35 ⟨Nat.le_of_ble_eq_true rfl, Nat.le_of_ble_eq_true rfl⟩) hP hD hS hA [0, 1, 2, 3, 4, 5, 6] [] rfl rfl rfl (by decide) (fun  w H locs hw hP hD hS => ?_)
        subst hw
        have hP : va_P V.1 vwCl [(z 0, .inr (10, mo z 0 0 0 0 0 0 0 0 0 0 (-1) 0 0 0 0 1)), (z 24, aI V 10000 (fun _ => 0)), (z 25, aI V 40000 (upd (upd (upd (fun _ => 0) 1 (-1)) 2 (-1)) 3 (-1))), (z 28, aZ V 10000 (upd (fun _ => 0) 0 1)), (z 30, aJ V 10000 (vp_updL (fun _ => 0) 0 10)), (z 31, aJ V 10000 (fun _ => 0)), (z 1, aI V 3075 (fun _ => 0))] H := hP
        have hD : va_D A [(z 0, .inr (10, mo z 0 0 0 0 0 0 0 0 0 0 (-1) 0 0 0 0 1)), (z 24, aI V 10000 (fun _ => 0)), (z 25, aI V 40000 (upd (upd (upd (fun _ => 0) 1 (-1)) 2 (-1)) 3 (-1))), (z 28, aZ V 10000 (upd (fun _ => 0) 0 1)), (z 30, aJ V 10000 (vp_updL (fun _ => 0) 0 10)), (z 31, aJ V 10000 (fun _ => 0)), (z 1, aI V 3075 (fun _ => 0))] := hD
        refine lv_lconst (v := 0) hx hb dX10_mean_38 (by decide) ?_
        refine lv_lstore_n (lv' := [(3, .long 0), (0, .ref (z 0)), (1, .int 1), (2, .int p1)]) hx hb dX10_mean_39 rfl hl (by decide) rfl (fun ls hl => ?_)
        refine lv_iconst (v := 0) hx hb dX10_mean_40 (by decide) ?_
        refine lv_istore (lv' := [(5, .int 0), (3, .long 0), (0, .ref (z 0)), (1, .int 1), (2, .int p1)]) hx hb dX10_mean_41 hl (by decide) rfl (fun ls hl => ?_)
        refine lv_iload hx hb dX10_mean_43 (lv_at hl 0 rfl) ?_
        refine lv_aload_n hx hb dX10_mean_45 rfl (lv_at hl 2 rfl) ?_
        refine va_get (ci := 10) (v := .int 1) (C := RX10) (T := TX10) (N := 40) hx hb hg inX10 hown hK hP 0 rfl rfl 29 (by decide) (hg _ q_6_13) (fun _ h9 => h9) rfl dX10_mean_46 ?_
        refine lv_icmp_ge (tgt := 86) hx hb dX10_mean_49 (by decide) (fun c_27 => absurd c_27 (by decide)) (fun _ => ?_)
        refine lv_lload_n hx hb dX10_mean_52 rfl (lv_at hl 1 rfl) ?_
        refine lv_aload_n hx hb dX10_mean_53 rfl (lv_at hl 2 rfl) ?_
        refine va_get (ci := 10) (v := .ref (z 30)) (C := RX10) (T := TX10) (N := 40) hx hb hg inX10 hown hK hP 0 rfl rfl 30 (by decide) (hg _ q_6_14) (fun _ h9 => h9) rfl dX10_mean_54 ?_
        refine lv_aload_n hx hb dX10_mean_57 rfl (lv_at hl 2 rfl) ?_
        refine va_get (ci := 10) (v := .ref (z 24)) (C := RX10) (T := TX10) (N := 40) hx hb hg inX10 hown hK hP 0 rfl rfl 24 (by decide) (hg _ q_6_8) (fun _ h9 => h9) rfl dX10_mean_58 ?_
        refine lv_iload hx hb dX10_mean_61 (lv_at hl 0 rfl) ?_
        refine va_iald hx hb hK hP 1 0 rfl rfl (vin (by decide +kernel)) dX10_mean_63 ?_
        refine tpi (y := 0) (rfl) ?_
        refine va_lald hx hb hK hP 4 2 rfl rfl (vin (by decide +kernel)) dX10_mean_64 ?_
        refine tpl (y := 10) (rfl) ?_
        refine lv_aload_n hx hb dX10_mean_65 rfl (lv_at hl 2 rfl) ?_
        refine lv_aload_n hx hb dX10_mean_66 rfl (lv_at hl 2 rfl) ?_
        refine va_get (ci := 10) (v := .ref (z 24)) (C := RX10) (T := TX10) (N := 40) hx hb hg inX10 hown hK hP 0 rfl rfl 24 (by decide) (hg _ q_6_8) (fun _ h9 => h9) rfl dX10_mean_67 ?_
        refine lv_iload hx hb dX10_mean_70 (lv_at hl 0 rfl) ?_
        refine va_iald hx hb hK hP 1 0 rfl rfl (vin (by decide +kernel)) dX10_mean_72 ?_
        refine tpi (y := 0) (rfl) ?_
        refine jnI (wr := [(z 24, aI V 10000 (fun _ => 0)), (z 25, aI V 40000 (upd (upd (upd (fun _ => 0) 1 (-1)) 2 (-1)) 3 (-1))), (z 28, aZ V 10000 (upd (fun _ => 0) 0 1)), (z 30, aJ V 10000 (vp_updL (fun _ => 0) 0 10)), (z 31, aJ V 10000 (fun _ => 0))]) (rnV (rest := [.long 10, .long 0]) ⟨hx, hb, hml, hown, hg⟩ (c_X10_sumIn_0 l V z) mt_X10_sumIn q_7_131 ⟨Nat.le_of_ble_eq_true rfl, Nat.le_of_ble_eq_true rfl⟩ hK hP hD hS hA hE [0, 6] rfl rfl 0 rfl rfl rfl rfl hl.1 rfl (Nat.le_of_ble_eq_true rfl) dX10_mean_73 ⟨Nat.le_of_ble_eq_true rfl, Nat.le_of_ble_eq_true rfl⟩) hP hD hS hA [0, 6] [1, 2, 3, 4, 5] rfl rfl rfl (by decide) (fun r_28 w H locs hw hP hD hS => ?_)
        obtain ⟨rfl, rfl⟩ := hw
        have hP : va_P V.1 vwCl [(z 24, aI V 10000 (fun _ => 0)), (z 25, aI V 40000 (upd (upd (upd (fun _ => 0) 1 (-1)) 2 (-1)) 3 (-1))), (z 28, aZ V 10000 (upd (fun _ => 0) 0 1)), (z 30, aJ V 10000 (vp_updL (fun _ => 0) 0 10)), (z 31, aJ V 10000 (fun _ => 0)), (z 0, .inr (10, mo z 0 0 0 0 0 0 0 0 0 0 (-1) 0 0 0 0 1)), (z 1, aI V 3075 (fun _ => 0))] H := hP
        have hD : va_D A [(z 24, aI V 10000 (fun _ => 0)), (z 25, aI V 40000 (upd (upd (upd (fun _ => 0) 1 (-1)) 2 (-1)) 3 (-1))), (z 28, aZ V 10000 (upd (fun _ => 0) 0 1)), (z 30, aJ V 10000 (vp_updL (fun _ => 0) 0 10)), (z 31, aJ V 10000 (fun _ => 0)), (z 0, .inr (10, mo z 0 0 0 0 0 0 0 0 0 0 (-1) 0 0 0 0 1)), (z 1, aI V 3075 (fun _ => 0))] := hD
        refine lv_i2l (v := 0) hx hb dX10_mean_76 (by decide +kernel) ?_
        refine lv_lmul hx hb dX10_mean_77 ?_
        refine tpl (y := 0) (by decide +kernel) ?_
        refine lv_ladd hx hb dX10_mean_78 ?_
        refine tpl (y := 0) (by decide +kernel) ?_
        refine lv_lstore_n (lv' := [(3, .long 0), (5, .int 0), (0, .ref (z 0)), (1, .int 1), (2, .int p1)]) hx hb dX10_mean_79 rfl hl (by decide) rfl (fun ls hl => ?_)
        refine lv_iinc (v := 1) (lv' := [(5, .int 1), (3, .long 0), (0, .ref (z 0)), (1, .int 1), (2, .int p1)]) hx hb dX10_mean_80 hl (k := 1) rfl (by decide +kernel) (by decide) rfl (fun ls hl => ?_)
        refine lv_goto (tgt := 43) hx hb dX10_mean_83 (by decide) ?_
        refine lv_iload hx hb dX10_mean_43 (lv_at hl 0 rfl) ?_
        refine lv_aload_n hx hb dX10_mean_45 rfl (lv_at hl 2 rfl) ?_
        refine va_get (ci := 10) (v := .int 1) (C := RX10) (T := TX10) (N := 40) hx hb hg inX10 hown hK hP 5 rfl rfl 29 (by decide) (hg _ q_6_13) (fun _ h9 => h9) rfl dX10_mean_46 ?_
        refine lv_icmp_ge (tgt := 86) hx hb dX10_mean_49 (by decide) (fun _ => ?_) (fun c_29 => absurd c_29 (by decide))
        refine lv_lload_n hx hb dX10_mean_86 rfl (lv_at hl 1 rfl) ?_
        refine lv_iload_n hx hb dX10_mean_87 rfl (lv_at hl 3 rfl) ?_
        refine jnL (wr := [(z 24, aI V 10000 (fun _ => 0)), (z 25, aI V 40000 (upd (upd (upd (fun _ => 0) 1 (-1)) 2 (-1)) 3 (-1))), (z 28, aZ V 10000 (upd (fun _ => 0) 0 1)), (z 30, aJ V 10000 (vp_updL (fun _ => 0) 0 10)), (z 31, aJ V 10000 (fun _ => 0)), (z 0, .inr (10, mo z 0 0 0 0 0 0 0 0 0 0 (-1) 0 0 0 0 1)), (z 1, aI V 3075 (fun _ => 0))]) (rnS (rest := [.long 0]) ⟨hx, hb, hml, hown, hg⟩ (c_X10_wholeOf_1 l V) mt_X10_wholeOf q_8_118 ⟨Nat.le_of_ble_eq_true rfl, Nat.le_of_ble_eq_true rfl⟩ hK hP hD hS hA hE [] rfl rfl rfl hl.1 rfl (Nat.le_of_ble_eq_true rfl) dX10_mean_88 ⟨Nat.le_of_ble_eq_true rfl, Nat.le_of_ble_eq_true rfl⟩) hP hD hS hA [] [0, 1, 2, 3, 4, 5, 6] rfl rfl rfl (by decide) (fun r_30 w H locs hw hP hD hS => ?_)
        obtain ⟨rfl, rfl⟩ := hw
        have hP : va_P V.1 vwCl [(z 24, aI V 10000 (fun _ => 0)), (z 25, aI V 40000 (upd (upd (upd (fun _ => 0) 1 (-1)) 2 (-1)) 3 (-1))), (z 28, aZ V 10000 (upd (fun _ => 0) 0 1)), (z 30, aJ V 10000 (vp_updL (fun _ => 0) 0 10)), (z 31, aJ V 10000 (fun _ => 0)), (z 0, .inr (10, mo z 0 0 0 0 0 0 0 0 0 0 (-1) 0 0 0 0 1)), (z 1, aI V 3075 (fun _ => 0))] H := hP
        have hD : va_D A [(z 24, aI V 10000 (fun _ => 0)), (z 25, aI V 40000 (upd (upd (upd (fun _ => 0) 1 (-1)) 2 (-1)) 3 (-1))), (z 28, aZ V 10000 (upd (fun _ => 0) 0 1)), (z 30, aJ V 10000 (vp_updL (fun _ => 0) 0 10)), (z 31, aJ V 10000 (fun _ => 0)), (z 0, .inr (10, mo z 0 0 0 0 0 0 0 0 0 0 (-1) 0 0 0 0 1)), (z 1, aI V 3075 (fun _ => 0))] := hD
        refine lv_iload_n hx hb dX10_mean_91 rfl (lv_at hl 4 rfl) ?_
        refine jnI (wr := [(z 24, aI V 10000 (fun _ => 0)), (z 25, aI V 40000 (upd (upd (upd (fun _ => 0) 1 (-1)) 2 (-1)) 3 (-1))), (z 28, aZ V 10000 (upd (fun _ => 0) 0 1)), (z 30, aJ V 10000 (vp_updL (fun _ => 0) 0 10)), (z 31, aJ V 10000 (fun _ => 0)), (z 0, .inr (10, mo z 0 0 0 0 0 0 0 0 0 0 (-1) 0 0 0 0 1)), (z 1, aI V 3075 (fun _ => 0))]) (rnS (rest := []) ⟨hx, hb, hml, hown, hg⟩ (c_X10_part_1 l V p1) mt_X10_part q_8_121 ⟨Nat.le_of_ble_eq_true rfl, Nat.le_of_ble_eq_true rfl⟩ hK hP hD hS hA hE [] rfl rfl rfl hl.1 rfl (Nat.le_of_ble_eq_true rfl) dX10_mean_92 ⟨Nat.le_of_ble_eq_true rfl, Nat.le_of_ble_eq_true rfl⟩) hP hD hS hA [] [0, 1, 2, 3, 4, 5, 6] rfl rfl rfl (by decide) (fun r_31 w H locs hw hP hD hS => ?_)
        rcases hw with ⟨c_32, rfl, rfl⟩ | ⟨c_33, rfl, rfl⟩
        · have hP : va_P V.1 vwCl [(z 24, aI V 10000 (fun _ => 0)), (z 25, aI V 40000 (upd (upd (upd (fun _ => 0) 1 (-1)) 2 (-1)) 3 (-1))), (z 28, aZ V 10000 (upd (fun _ => 0) 0 1)), (z 30, aJ V 10000 (vp_updL (fun _ => 0) 0 10)), (z 31, aJ V 10000 (fun _ => 0)), (z 0, .inr (10, mo z 0 0 0 0 0 0 0 0 0 0 (-1) 0 0 0 0 1)), (z 1, aI V 3075 (fun _ => 0))] H := hP
          have hD : va_D A [(z 24, aI V 10000 (fun _ => 0)), (z 25, aI V 40000 (upd (upd (upd (fun _ => 0) 1 (-1)) 2 (-1)) 3 (-1))), (z 28, aZ V 10000 (upd (fun _ => 0) 0 1)), (z 30, aJ V 10000 (vp_updL (fun _ => 0) 0 10)), (z 31, aJ V 10000 (fun _ => 0)), (z 0, .inr (10, mo z 0 0 0 0 0 0 0 0 0 0 (-1) 0 0 0 0 1)), (z 1, aI V 3075 (fun _ => 0))] := hD
          have hP := subP (ws' := [(z 0, .inr (10, mo z 0 0 0 0 0 0 0 0 0 0 (-1) 0 0 0 0 1)), (z 24, aI V 10000 (fun _ => 0)), (z 25, aI V 40000 (upd (upd (upd (fun _ => 0) 1 (-1)) 2 (-1)) 3 (-1))), (z 28, aZ V 10000 (upd (fun _ => 0) 0 1)), (z 30, aJ V 10000 (vp_updL (fun _ => 0) 0 10)), (z 31, aJ V 10000 (fun _ => 0)), (z 1, aI V 3075 (fun _ => 0))]) hP [5, 0, 1, 2, 3, 4, 6] rfl
          have hD := hD.sub (ws' := [(z 0, .inr (10, mo z 0 0 0 0 0 0 0 0 0 0 (-1) 0 0 0 0 1)), (z 24, aI V 10000 (fun _ => 0)), (z 25, aI V 40000 (upd (upd (upd (fun _ => 0) 1 (-1)) 2 (-1)) 3 (-1))), (z 28, aZ V 10000 (upd (fun _ => 0) 0 1)), (z 30, aJ V 10000 (vp_updL (fun _ => 0) 0 10)), (z 31, aJ V 10000 (fun _ => 0)), (z 1, aI V 3075 (fun _ => 0))]) [5, 0, 1, 2, 3, 4, 6] rfl rfl
          exact fiI hx hb hr hlk hK hP hD hS dX10_mean_95 (Nat.le_of_ble_eq_true rfl) (Nat.le_of_ble_eq_true rfl) (Or.inr (Or.inr (Or.inr (Or.inr (Or.inr (Or.inr (Or.inl ⟨c_5, c_6, c_14, c_15, rfl, c_32, rfl, rfl⟩)))))))
        · have hP : va_P V.1 vwCl [(z 24, aI V 10000 (fun _ => 0)), (z 25, aI V 40000 (upd (upd (upd (fun _ => 0) 1 (-1)) 2 (-1)) 3 (-1))), (z 28, aZ V 10000 (upd (fun _ => 0) 0 1)), (z 30, aJ V 10000 (vp_updL (fun _ => 0) 0 10)), (z 31, aJ V 10000 (fun _ => 0)), (z 0, .inr (10, mo z 0 0 0 0 0 0 0 0 0 0 (-1) 0 0 0 0 1)), (z 1, aI V 3075 (fun _ => 0))] H := hP
          have hD : va_D A [(z 24, aI V 10000 (fun _ => 0)), (z 25, aI V 40000 (upd (upd (upd (fun _ => 0) 1 (-1)) 2 (-1)) 3 (-1))), (z 28, aZ V 10000 (upd (fun _ => 0) 0 1)), (z 30, aJ V 10000 (vp_updL (fun _ => 0) 0 10)), (z 31, aJ V 10000 (fun _ => 0)), (z 0, .inr (10, mo z 0 0 0 0 0 0 0 0 0 0 (-1) 0 0 0 0 1)), (z 1, aI V 3075 (fun _ => 0))] := hD
          have hP := subP (ws' := [(z 0, .inr (10, mo z 0 0 0 0 0 0 0 0 0 0 (-1) 0 0 0 0 1)), (z 24, aI V 10000 (fun _ => 0)), (z 25, aI V 40000 (upd (upd (upd (fun _ => 0) 1 (-1)) 2 (-1)) 3 (-1))), (z 28, aZ V 10000 (upd (fun _ => 0) 0 1)), (z 30, aJ V 10000 (vp_updL (fun _ => 0) 0 10)), (z 31, aJ V 10000 (fun _ => 0)), (z 1, aI V 3075 (fun _ => 0))]) hP [5, 0, 1, 2, 3, 4, 6] rfl
          have hD := hD.sub (ws' := [(z 0, .inr (10, mo z 0 0 0 0 0 0 0 0 0 0 (-1) 0 0 0 0 1)), (z 24, aI V 10000 (fun _ => 0)), (z 25, aI V 40000 (upd (upd (upd (fun _ => 0) 1 (-1)) 2 (-1)) 3 (-1))), (z 28, aZ V 10000 (upd (fun _ => 0) 0 1)), (z 30, aJ V 10000 (vp_updL (fun _ => 0) 0 10)), (z 31, aJ V 10000 (fun _ => 0)), (z 1, aI V 3075 (fun _ => 0))]) [5, 0, 1, 2, 3, 4, 6] rfl rfl
          exact fiI hx hb hr hlk hK hP hD hS dX10_mean_95 (Nat.le_of_ble_eq_true rfl) (Nat.le_of_ble_eq_true rfl) (Or.inr (Or.inr (Or.inr (Or.inr (Or.inr (Or.inr (Or.inr (Or.inl ⟨c_5, c_6, c_14, c_15, rfl, c_33, rfl, rfl⟩))))))))
      · refine lv_aload_n hx hb dX10_mean_33 rfl (lv_at hl 0 rfl) ?_
        refine lv_iload_n hx hb dX10_mean_34 rfl (lv_at hl 1 rfl) ?_
        refine jnV (wr := []) (rnV (rest := []) ⟨hx, hb, hml, hown, hg⟩ (c_X10_laysLikely_2 l V z) mt_X10_laysLikely q_8_114 ⟨Nat.le_of_ble_eq_true rfl, Nat.le_of_ble_eq_true rfl⟩ hK hP hD hS hA hE [0, 1, 2, 3, 4, 5, 6] rfl rfl 0 rfl rfl rfl rfl hl.1 rfl (Nat.le_of_ble_eq_true rfl) dX10_mean_35 ⟨Nat.le_of_ble_eq_true rfl, Nat.le_of_ble_eq_true rfl⟩) hP hD hS hA [0, 1, 2, 3, 4, 5, 6] [] rfl rfl rfl (by decide) (fun  w H locs hw hP hD hS => ?_)
        subst hw
        have hP : va_P V.1 vwCl [(z 0, .inr (10, mo z 0 0 0 0 0 0 0 0 0 0 (-1) 0 0 0 0 1)), (z 24, aI V 10000 (fun _ => 0)), (z 25, aI V 40000 (upd (upd (upd (fun _ => 0) 1 (-1)) 2 (-1)) 3 (-1))), (z 28, aZ V 10000 (upd (fun _ => 0) 0 1)), (z 30, aJ V 10000 (vp_updL (fun _ => 0) 0 100)), (z 31, aJ V 10000 (fun _ => 0)), (z 1, aI V 3075 (fun _ => 0))] H := hP
        have hD : va_D A [(z 0, .inr (10, mo z 0 0 0 0 0 0 0 0 0 0 (-1) 0 0 0 0 1)), (z 24, aI V 10000 (fun _ => 0)), (z 25, aI V 40000 (upd (upd (upd (fun _ => 0) 1 (-1)) 2 (-1)) 3 (-1))), (z 28, aZ V 10000 (upd (fun _ => 0) 0 1)), (z 30, aJ V 10000 (vp_updL (fun _ => 0) 0 100)), (z 31, aJ V 10000 (fun _ => 0)), (z 1, aI V 3075 (fun _ => 0))] := hD
        refine lv_lconst (v := 0) hx hb dX10_mean_38 (by decide) ?_
        refine lv_lstore_n (lv' := [(3, .long 0), (0, .ref (z 0)), (1, .int 2), (2, .int p1)]) hx hb dX10_mean_39 rfl hl (by decide) rfl (fun ls hl => ?_)
        refine lv_iconst (v := 0) hx hb dX10_mean_40 (by decide) ?_
        refine lv_istore (lv' := [(5, .int 0), (3, .long 0), (0, .ref (z 0)), (1, .int 2), (2, .int p1)]) hx hb dX10_mean_41 hl (by decide) rfl (fun ls hl => ?_)
        refine lv_iload hx hb dX10_mean_43 (lv_at hl 0 rfl) ?_
        refine lv_aload_n hx hb dX10_mean_45 rfl (lv_at hl 2 rfl) ?_
        refine va_get (ci := 10) (v := .int 1) (C := RX10) (T := TX10) (N := 40) hx hb hg inX10 hown hK hP 0 rfl rfl 29 (by decide) (hg _ q_6_13) (fun _ h9 => h9) rfl dX10_mean_46 ?_
        refine lv_icmp_ge (tgt := 86) hx hb dX10_mean_49 (by decide) (fun c_34 => absurd c_34 (by decide)) (fun _ => ?_)
        refine lv_lload_n hx hb dX10_mean_52 rfl (lv_at hl 1 rfl) ?_
        refine lv_aload_n hx hb dX10_mean_53 rfl (lv_at hl 2 rfl) ?_
        refine va_get (ci := 10) (v := .ref (z 30)) (C := RX10) (T := TX10) (N := 40) hx hb hg inX10 hown hK hP 0 rfl rfl 30 (by decide) (hg _ q_6_14) (fun _ h9 => h9) rfl dX10_mean_54 ?_
        refine lv_aload_n hx hb dX10_mean_57 rfl (lv_at hl 2 rfl) ?_
        refine va_get (ci := 10) (v := .ref (z 24)) (C := RX10) (T := TX10) (N := 40) hx hb hg inX10 hown hK hP 0 rfl rfl 24 (by decide) (hg _ q_6_8) (fun _ h9 => h9) rfl dX10_mean_58 ?_
        refine lv_iload hx hb dX10_mean_61 (lv_at hl 0 rfl) ?_
        refine va_iald hx hb hK hP 1 0 rfl rfl (vin (by decide +kernel)) dX10_mean_63 ?_
        refine tpi (y := 0) (rfl) ?_
        refine va_lald hx hb hK hP 4 2 rfl rfl (vin (by decide +kernel)) dX10_mean_64 ?_
        refine tpl (y := 100) (rfl) ?_
        refine lv_aload_n hx hb dX10_mean_65 rfl (lv_at hl 2 rfl) ?_
        refine lv_aload_n hx hb dX10_mean_66 rfl (lv_at hl 2 rfl) ?_
        refine va_get (ci := 10) (v := .ref (z 24)) (C := RX10) (T := TX10) (N := 40) hx hb hg inX10 hown hK hP 0 rfl rfl 24 (by decide) (hg _ q_6_8) (fun _ h9 => h9) rfl dX10_mean_67 ?_
        refine lv_iload hx hb dX10_mean_70 (lv_at hl 0 rfl) ?_
        refine va_iald hx hb hK hP 1 0 rfl rfl (vin (by decide +kernel)) dX10_mean_72 ?_
        refine tpi (y := 0) (rfl) ?_
        refine jnI (wr := [(z 24, aI V 10000 (fun _ => 0)), (z 25, aI V 40000 (upd (upd (upd (fun _ => 0) 1 (-1)) 2 (-1)) 3 (-1))), (z 28, aZ V 10000 (upd (fun _ => 0) 0 1)), (z 30, aJ V 10000 (vp_updL (fun _ => 0) 0 100)), (z 31, aJ V 10000 (fun _ => 0))]) (rnV (rest := [.long 100, .long 0]) ⟨hx, hb, hml, hown, hg⟩ (c_X10_sumIn_0 l V z) mt_X10_sumIn q_7_131 ⟨Nat.le_of_ble_eq_true rfl, Nat.le_of_ble_eq_true rfl⟩ hK hP hD hS hA hE [0, 6] rfl rfl 0 rfl rfl rfl rfl hl.1 rfl (Nat.le_of_ble_eq_true rfl) dX10_mean_73 ⟨Nat.le_of_ble_eq_true rfl, Nat.le_of_ble_eq_true rfl⟩) hP hD hS hA [0, 6] [1, 2, 3, 4, 5] rfl rfl rfl (by decide) (fun r_35 w H locs hw hP hD hS => ?_)
        obtain ⟨rfl, rfl⟩ := hw
        have hP : va_P V.1 vwCl [(z 24, aI V 10000 (fun _ => 0)), (z 25, aI V 40000 (upd (upd (upd (fun _ => 0) 1 (-1)) 2 (-1)) 3 (-1))), (z 28, aZ V 10000 (upd (fun _ => 0) 0 1)), (z 30, aJ V 10000 (vp_updL (fun _ => 0) 0 100)), (z 31, aJ V 10000 (fun _ => 0)), (z 0, .inr (10, mo z 0 0 0 0 0 0 0 0 0 0 (-1) 0 0 0 0 1)), (z 1, aI V 3075 (fun _ => 0))] H := hP
        have hD : va_D A [(z 24, aI V 10000 (fun _ => 0)), (z 25, aI V 40000 (upd (upd (upd (fun _ => 0) 1 (-1)) 2 (-1)) 3 (-1))), (z 28, aZ V 10000 (upd (fun _ => 0) 0 1)), (z 30, aJ V 10000 (vp_updL (fun _ => 0) 0 100)), (z 31, aJ V 10000 (fun _ => 0)), (z 0, .inr (10, mo z 0 0 0 0 0 0 0 0 0 0 (-1) 0 0 0 0 1)), (z 1, aI V 3075 (fun _ => 0))] := hD
        refine lv_i2l (v := 0) hx hb dX10_mean_76 (by decide +kernel) ?_
        refine lv_lmul hx hb dX10_mean_77 ?_
        refine tpl (y := 0) (by decide +kernel) ?_
        refine lv_ladd hx hb dX10_mean_78 ?_
        refine tpl (y := 0) (by decide +kernel) ?_
        refine lv_lstore_n (lv' := [(3, .long 0), (5, .int 0), (0, .ref (z 0)), (1, .int 2), (2, .int p1)]) hx hb dX10_mean_79 rfl hl (by decide) rfl (fun ls hl => ?_)
        refine lv_iinc (v := 1) (lv' := [(5, .int 1), (3, .long 0), (0, .ref (z 0)), (1, .int 2), (2, .int p1)]) hx hb dX10_mean_80 hl (k := 1) rfl (by decide +kernel) (by decide) rfl (fun ls hl => ?_)
        refine lv_goto (tgt := 43) hx hb dX10_mean_83 (by decide) ?_
        refine lv_iload hx hb dX10_mean_43 (lv_at hl 0 rfl) ?_
        refine lv_aload_n hx hb dX10_mean_45 rfl (lv_at hl 2 rfl) ?_
        refine va_get (ci := 10) (v := .int 1) (C := RX10) (T := TX10) (N := 40) hx hb hg inX10 hown hK hP 5 rfl rfl 29 (by decide) (hg _ q_6_13) (fun _ h9 => h9) rfl dX10_mean_46 ?_
        refine lv_icmp_ge (tgt := 86) hx hb dX10_mean_49 (by decide) (fun _ => ?_) (fun c_36 => absurd c_36 (by decide))
        refine lv_lload_n hx hb dX10_mean_86 rfl (lv_at hl 1 rfl) ?_
        refine lv_iload_n hx hb dX10_mean_87 rfl (lv_at hl 3 rfl) ?_
        refine jnL (wr := [(z 24, aI V 10000 (fun _ => 0)), (z 25, aI V 40000 (upd (upd (upd (fun _ => 0) 1 (-1)) 2 (-1)) 3 (-1))), (z 28, aZ V 10000 (upd (fun _ => 0) 0 1)), (z 30, aJ V 10000 (vp_updL (fun _ => 0) 0 100)), (z 31, aJ V 10000 (fun _ => 0)), (z 0, .inr (10, mo z 0 0 0 0 0 0 0 0 0 0 (-1) 0 0 0 0 1)), (z 1, aI V 3075 (fun _ => 0))]) (rnS (rest := [.long 0]) ⟨hx, hb, hml, hown, hg⟩ (c_X10_wholeOf_2 l V) mt_X10_wholeOf q_8_118 ⟨Nat.le_of_ble_eq_true rfl, Nat.le_of_ble_eq_true rfl⟩ hK hP hD hS hA hE [] rfl rfl rfl hl.1 rfl (Nat.le_of_ble_eq_true rfl) dX10_mean_88 ⟨Nat.le_of_ble_eq_true rfl, Nat.le_of_ble_eq_true rfl⟩) hP hD hS hA [] [0, 1, 2, 3, 4, 5, 6] rfl rfl rfl (by decide) (fun r_37 w H locs hw hP hD hS => ?_)
        obtain ⟨rfl, rfl⟩ := hw
        have hP : va_P V.1 vwCl [(z 24, aI V 10000 (fun _ => 0)), (z 25, aI V 40000 (upd (upd (upd (fun _ => 0) 1 (-1)) 2 (-1)) 3 (-1))), (z 28, aZ V 10000 (upd (fun _ => 0) 0 1)), (z 30, aJ V 10000 (vp_updL (fun _ => 0) 0 100)), (z 31, aJ V 10000 (fun _ => 0)), (z 0, .inr (10, mo z 0 0 0 0 0 0 0 0 0 0 (-1) 0 0 0 0 1)), (z 1, aI V 3075 (fun _ => 0))] H := hP
        have hD : va_D A [(z 24, aI V 10000 (fun _ => 0)), (z 25, aI V 40000 (upd (upd (upd (fun _ => 0) 1 (-1)) 2 (-1)) 3 (-1))), (z 28, aZ V 10000 (upd (fun _ => 0) 0 1)), (z 30, aJ V 10000 (vp_updL (fun _ => 0) 0 100)), (z 31, aJ V 10000 (fun _ => 0)), (z 0, .inr (10, mo z 0 0 0 0 0 0 0 0 0 0 (-1) 0 0 0 0 1)), (z 1, aI V 3075 (fun _ => 0))] := hD
        refine lv_iload_n hx hb dX10_mean_91 rfl (lv_at hl 4 rfl) ?_
        refine jnI (wr := [(z 24, aI V 10000 (fun _ => 0)), (z 25, aI V 40000 (upd (upd (upd (fun _ => 0) 1 (-1)) 2 (-1)) 3 (-1))), (z 28, aZ V 10000 (upd (fun _ => 0) 0 1)), (z 30, aJ V 10000 (vp_updL (fun _ => 0) 0 100)), (z 31, aJ V 10000 (fun _ => 0)), (z 0, .inr (10, mo z 0 0 0 0 0 0 0 0 0 0 (-1) 0 0 0 0 1)), (z 1, aI V 3075 (fun _ => 0))]) (rnS (rest := []) ⟨hx, hb, hml, hown, hg⟩ (c_X10_part_2 l V p1) mt_X10_part q_8_121 ⟨Nat.le_of_ble_eq_true rfl, Nat.le_of_ble_eq_true rfl⟩ hK hP hD hS hA hE [] rfl rfl rfl hl.1 rfl (Nat.le_of_ble_eq_true rfl) dX10_mean_92 ⟨Nat.le_of_ble_eq_true rfl, Nat.le_of_ble_eq_true rfl⟩) hP hD hS hA [] [0, 1, 2, 3, 4, 5, 6] rfl rfl rfl (by decide) (fun r_38 w H locs hw hP hD hS => ?_)
        rcases hw with ⟨c_39, rfl, rfl⟩ | ⟨c_40, rfl, rfl⟩
        · have hP : va_P V.1 vwCl [(z 24, aI V 10000 (fun _ => 0)), (z 25, aI V 40000 (upd (upd (upd (fun _ => 0) 1 (-1)) 2 (-1)) 3 (-1))), (z 28, aZ V 10000 (upd (fun _ => 0) 0 1)), (z 30, aJ V 10000 (vp_updL (fun _ => 0) 0 100)), (z 31, aJ V 10000 (fun _ => 0)), (z 0, .inr (10, mo z 0 0 0 0 0 0 0 0 0 0 (-1) 0 0 0 0 1)), (z 1, aI V 3075 (fun _ => 0))] H := hP
          have hD : va_D A [(z 24, aI V 10000 (fun _ => 0)), (z 25, aI V 40000 (upd (upd (upd (fun _ => 0) 1 (-1)) 2 (-1)) 3 (-1))), (z 28, aZ V 10000 (upd (fun _ => 0) 0 1)), (z 30, aJ V 10000 (vp_updL (fun _ => 0) 0 100)), (z 31, aJ V 10000 (fun _ => 0)), (z 0, .inr (10, mo z 0 0 0 0 0 0 0 0 0 0 (-1) 0 0 0 0 1)), (z 1, aI V 3075 (fun _ => 0))] := hD
          have hP := subP (ws' := [(z 0, .inr (10, mo z 0 0 0 0 0 0 0 0 0 0 (-1) 0 0 0 0 1)), (z 24, aI V 10000 (fun _ => 0)), (z 25, aI V 40000 (upd (upd (upd (fun _ => 0) 1 (-1)) 2 (-1)) 3 (-1))), (z 28, aZ V 10000 (upd (fun _ => 0) 0 1)), (z 30, aJ V 10000 (vp_updL (fun _ => 0) 0 100)), (z 31, aJ V 10000 (fun _ => 0)), (z 1, aI V 3075 (fun _ => 0))]) hP [5, 0, 1, 2, 3, 4, 6] rfl
          have hD := hD.sub (ws' := [(z 0, .inr (10, mo z 0 0 0 0 0 0 0 0 0 0 (-1) 0 0 0 0 1)), (z 24, aI V 10000 (fun _ => 0)), (z 25, aI V 40000 (upd (upd (upd (fun _ => 0) 1 (-1)) 2 (-1)) 3 (-1))), (z 28, aZ V 10000 (upd (fun _ => 0) 0 1)), (z 30, aJ V 10000 (vp_updL (fun _ => 0) 0 100)), (z 31, aJ V 10000 (fun _ => 0)), (z 1, aI V 3075 (fun _ => 0))]) [5, 0, 1, 2, 3, 4, 6] rfl rfl
          exact fiI hx hb hr hlk hK hP hD hS dX10_mean_95 (Nat.le_of_ble_eq_true rfl) (Nat.le_of_ble_eq_true rfl) (Or.inr (Or.inr (Or.inr (Or.inr (Or.inr (Or.inr (Or.inr (Or.inr (Or.inl ⟨c_5, c_6, c_14, c_15, rfl, c_39, rfl, rfl⟩)))))))))
        · have hP : va_P V.1 vwCl [(z 24, aI V 10000 (fun _ => 0)), (z 25, aI V 40000 (upd (upd (upd (fun _ => 0) 1 (-1)) 2 (-1)) 3 (-1))), (z 28, aZ V 10000 (upd (fun _ => 0) 0 1)), (z 30, aJ V 10000 (vp_updL (fun _ => 0) 0 100)), (z 31, aJ V 10000 (fun _ => 0)), (z 0, .inr (10, mo z 0 0 0 0 0 0 0 0 0 0 (-1) 0 0 0 0 1)), (z 1, aI V 3075 (fun _ => 0))] H := hP
          have hD : va_D A [(z 24, aI V 10000 (fun _ => 0)), (z 25, aI V 40000 (upd (upd (upd (fun _ => 0) 1 (-1)) 2 (-1)) 3 (-1))), (z 28, aZ V 10000 (upd (fun _ => 0) 0 1)), (z 30, aJ V 10000 (vp_updL (fun _ => 0) 0 100)), (z 31, aJ V 10000 (fun _ => 0)), (z 0, .inr (10, mo z 0 0 0 0 0 0 0 0 0 0 (-1) 0 0 0 0 1)), (z 1, aI V 3075 (fun _ => 0))] := hD
          have hP := subP (ws' := [(z 0, .inr (10, mo z 0 0 0 0 0 0 0 0 0 0 (-1) 0 0 0 0 1)), (z 24, aI V 10000 (fun _ => 0)), (z 25, aI V 40000 (upd (upd (upd (fun _ => 0) 1 (-1)) 2 (-1)) 3 (-1))), (z 28, aZ V 10000 (upd (fun _ => 0) 0 1)), (z 30, aJ V 10000 (vp_updL (fun _ => 0) 0 100)), (z 31, aJ V 10000 (fun _ => 0)), (z 1, aI V 3075 (fun _ => 0))]) hP [5, 0, 1, 2, 3, 4, 6] rfl
          have hD := hD.sub (ws' := [(z 0, .inr (10, mo z 0 0 0 0 0 0 0 0 0 0 (-1) 0 0 0 0 1)), (z 24, aI V 10000 (fun _ => 0)), (z 25, aI V 40000 (upd (upd (upd (fun _ => 0) 1 (-1)) 2 (-1)) 3 (-1))), (z 28, aZ V 10000 (upd (fun _ => 0) 0 1)), (z 30, aJ V 10000 (vp_updL (fun _ => 0) 0 100)), (z 31, aJ V 10000 (fun _ => 0)), (z 1, aI V 3075 (fun _ => 0))]) [5, 0, 1, 2, 3, 4, 6] rfl rfl
          exact fiI hx hb hr hlk hK hP hD hS dX10_mean_95 (Nat.le_of_ble_eq_true rfl) (Nat.le_of_ble_eq_true rfl) (Or.inr (Or.inr (Or.inr (Or.inr (Or.inr (Or.inr (Or.inr (Or.inr (Or.inr (Or.inl ⟨c_5, c_6, c_14, c_15, rfl, c_40, rfl, rfl⟩))))))))))
      · refine lv_aload_n hx hb dX10_mean_33 rfl (lv_at hl 0 rfl) ?_
        refine lv_iload_n hx hb dX10_mean_34 rfl (lv_at hl 1 rfl) ?_
        refine jnV (wr := []) (rnV (rest := []) ⟨hx, hb, hml, hown, hg⟩ (c_X10_laysLikely_3 l V z) mt_X10_laysLikely q_8_114 ⟨Nat.le_of_ble_eq_true rfl, Nat.le_of_ble_eq_true rfl⟩ hK hP hD hS hA hE [0, 1, 2, 3, 4, 5, 6] rfl rfl 0 rfl rfl rfl rfl hl.1 rfl (Nat.le_of_ble_eq_true rfl) dX10_mean_35 ⟨Nat.le_of_ble_eq_true rfl, Nat.le_of_ble_eq_true rfl⟩) hP hD hS hA [0, 1, 2, 3, 4, 5, 6] [] rfl rfl rfl (by decide) (fun  w H locs hw hP hD hS => ?_)
        subst hw
        have hP : va_P V.1 vwCl [(z 0, .inr (10, mo z 0 0 0 0 0 0 0 0 0 0 (-1) 0 0 0 0 1)), (z 24, aI V 10000 (fun _ => 0)), (z 25, aI V 40000 (upd (upd (upd (fun _ => 0) 1 (-1)) 2 (-1)) 3 (-1))), (z 28, aZ V 10000 (upd (fun _ => 0) 0 1)), (z 30, aJ V 10000 (vp_updL (fun _ => 0) 0 1000)), (z 31, aJ V 10000 (fun _ => 0)), (z 1, aI V 3075 (fun _ => 0))] H := hP
        have hD : va_D A [(z 0, .inr (10, mo z 0 0 0 0 0 0 0 0 0 0 (-1) 0 0 0 0 1)), (z 24, aI V 10000 (fun _ => 0)), (z 25, aI V 40000 (upd (upd (upd (fun _ => 0) 1 (-1)) 2 (-1)) 3 (-1))), (z 28, aZ V 10000 (upd (fun _ => 0) 0 1)), (z 30, aJ V 10000 (vp_updL (fun _ => 0) 0 1000)), (z 31, aJ V 10000 (fun _ => 0)), (z 1, aI V 3075 (fun _ => 0))] := hD
        refine lv_lconst (v := 0) hx hb dX10_mean_38 (by decide) ?_
        refine lv_lstore_n (lv' := [(3, .long 0), (0, .ref (z 0)), (1, .int 3), (2, .int p1)]) hx hb dX10_mean_39 rfl hl (by decide) rfl (fun ls hl => ?_)
        refine lv_iconst (v := 0) hx hb dX10_mean_40 (by decide) ?_
        refine lv_istore (lv' := [(5, .int 0), (3, .long 0), (0, .ref (z 0)), (1, .int 3), (2, .int p1)]) hx hb dX10_mean_41 hl (by decide) rfl (fun ls hl => ?_)
        refine lv_iload hx hb dX10_mean_43 (lv_at hl 0 rfl) ?_
        refine lv_aload_n hx hb dX10_mean_45 rfl (lv_at hl 2 rfl) ?_
        refine va_get (ci := 10) (v := .int 1) (C := RX10) (T := TX10) (N := 40) hx hb hg inX10 hown hK hP 0 rfl rfl 29 (by decide) (hg _ q_6_13) (fun _ h9 => h9) rfl dX10_mean_46 ?_
        refine lv_icmp_ge (tgt := 86) hx hb dX10_mean_49 (by decide) (fun c_41 => absurd c_41 (by decide)) (fun _ => ?_)
        refine lv_lload_n hx hb dX10_mean_52 rfl (lv_at hl 1 rfl) ?_
        refine lv_aload_n hx hb dX10_mean_53 rfl (lv_at hl 2 rfl) ?_
        refine va_get (ci := 10) (v := .ref (z 30)) (C := RX10) (T := TX10) (N := 40) hx hb hg inX10 hown hK hP 0 rfl rfl 30 (by decide) (hg _ q_6_14) (fun _ h9 => h9) rfl dX10_mean_54 ?_
        refine lv_aload_n hx hb dX10_mean_57 rfl (lv_at hl 2 rfl) ?_
        refine va_get (ci := 10) (v := .ref (z 24)) (C := RX10) (T := TX10) (N := 40) hx hb hg inX10 hown hK hP 0 rfl rfl 24 (by decide) (hg _ q_6_8) (fun _ h9 => h9) rfl dX10_mean_58 ?_
        refine lv_iload hx hb dX10_mean_61 (lv_at hl 0 rfl) ?_
        refine va_iald hx hb hK hP 1 0 rfl rfl (vin (by decide +kernel)) dX10_mean_63 ?_
        refine tpi (y := 0) (rfl) ?_
        refine va_lald hx hb hK hP 4 2 rfl rfl (vin (by decide +kernel)) dX10_mean_64 ?_
        refine tpl (y := 1000) (rfl) ?_
        refine lv_aload_n hx hb dX10_mean_65 rfl (lv_at hl 2 rfl) ?_
        refine lv_aload_n hx hb dX10_mean_66 rfl (lv_at hl 2 rfl) ?_
        refine va_get (ci := 10) (v := .ref (z 24)) (C := RX10) (T := TX10) (N := 40) hx hb hg inX10 hown hK hP 0 rfl rfl 24 (by decide) (hg _ q_6_8) (fun _ h9 => h9) rfl dX10_mean_67 ?_
        refine lv_iload hx hb dX10_mean_70 (lv_at hl 0 rfl) ?_
        refine va_iald hx hb hK hP 1 0 rfl rfl (vin (by decide +kernel)) dX10_mean_72 ?_
        refine tpi (y := 0) (rfl) ?_
        refine jnI (wr := [(z 24, aI V 10000 (fun _ => 0)), (z 25, aI V 40000 (upd (upd (upd (fun _ => 0) 1 (-1)) 2 (-1)) 3 (-1))), (z 28, aZ V 10000 (upd (fun _ => 0) 0 1)), (z 30, aJ V 10000 (vp_updL (fun _ => 0) 0 1000)), (z 31, aJ V 10000 (fun _ => 0))]) (rnV (rest := [.long 1000, .long 0]) ⟨hx, hb, hml, hown, hg⟩ (c_X10_sumIn_0 l V z) mt_X10_sumIn q_7_131 ⟨Nat.le_of_ble_eq_true rfl, Nat.le_of_ble_eq_true rfl⟩ hK hP hD hS hA hE [0, 6] rfl rfl 0 rfl rfl rfl rfl hl.1 rfl (Nat.le_of_ble_eq_true rfl) dX10_mean_73 ⟨Nat.le_of_ble_eq_true rfl, Nat.le_of_ble_eq_true rfl⟩) hP hD hS hA [0, 6] [1, 2, 3, 4, 5] rfl rfl rfl (by decide) (fun r_42 w H locs hw hP hD hS => ?_)
        obtain ⟨rfl, rfl⟩ := hw
        have hP : va_P V.1 vwCl [(z 24, aI V 10000 (fun _ => 0)), (z 25, aI V 40000 (upd (upd (upd (fun _ => 0) 1 (-1)) 2 (-1)) 3 (-1))), (z 28, aZ V 10000 (upd (fun _ => 0) 0 1)), (z 30, aJ V 10000 (vp_updL (fun _ => 0) 0 1000)), (z 31, aJ V 10000 (fun _ => 0)), (z 0, .inr (10, mo z 0 0 0 0 0 0 0 0 0 0 (-1) 0 0 0 0 1)), (z 1, aI V 3075 (fun _ => 0))] H := hP
        have hD : va_D A [(z 24, aI V 10000 (fun _ => 0)), (z 25, aI V 40000 (upd (upd (upd (fun _ => 0) 1 (-1)) 2 (-1)) 3 (-1))), (z 28, aZ V 10000 (upd (fun _ => 0) 0 1)), (z 30, aJ V 10000 (vp_updL (fun _ => 0) 0 1000)), (z 31, aJ V 10000 (fun _ => 0)), (z 0, .inr (10, mo z 0 0 0 0 0 0 0 0 0 0 (-1) 0 0 0 0 1)), (z 1, aI V 3075 (fun _ => 0))] := hD
        refine lv_i2l (v := 0) hx hb dX10_mean_76 (by decide +kernel) ?_
        refine lv_lmul hx hb dX10_mean_77 ?_
        refine tpl (y := 0) (by decide +kernel) ?_
        refine lv_ladd hx hb dX10_mean_78 ?_
        refine tpl (y := 0) (by decide +kernel) ?_
        refine lv_lstore_n (lv' := [(3, .long 0), (5, .int 0), (0, .ref (z 0)), (1, .int 3), (2, .int p1)]) hx hb dX10_mean_79 rfl hl (by decide) rfl (fun ls hl => ?_)
        refine lv_iinc (v := 1) (lv' := [(5, .int 1), (3, .long 0), (0, .ref (z 0)), (1, .int 3), (2, .int p1)]) hx hb dX10_mean_80 hl (k := 1) rfl (by decide +kernel) (by decide) rfl (fun ls hl => ?_)
        refine lv_goto (tgt := 43) hx hb dX10_mean_83 (by decide) ?_
        refine lv_iload hx hb dX10_mean_43 (lv_at hl 0 rfl) ?_
        refine lv_aload_n hx hb dX10_mean_45 rfl (lv_at hl 2 rfl) ?_
        refine va_get (ci := 10) (v := .int 1) (C := RX10) (T := TX10) (N := 40) hx hb hg inX10 hown hK hP 5 rfl rfl 29 (by decide) (hg _ q_6_13) (fun _ h9 => h9) rfl dX10_mean_46 ?_
        refine lv_icmp_ge (tgt := 86) hx hb dX10_mean_49 (by decide) (fun _ => ?_) (fun c_43 => absurd c_43 (by decide))
        refine lv_lload_n hx hb dX10_mean_86 rfl (lv_at hl 1 rfl) ?_
        refine lv_iload_n hx hb dX10_mean_87 rfl (lv_at hl 3 rfl) ?_
        refine jnL (wr := [(z 24, aI V 10000 (fun _ => 0)), (z 25, aI V 40000 (upd (upd (upd (fun _ => 0) 1 (-1)) 2 (-1)) 3 (-1))), (z 28, aZ V 10000 (upd (fun _ => 0) 0 1)), (z 30, aJ V 10000 (vp_updL (fun _ => 0) 0 1000)), (z 31, aJ V 10000 (fun _ => 0)), (z 0, .inr (10, mo z 0 0 0 0 0 0 0 0 0 0 (-1) 0 0 0 0 1)), (z 1, aI V 3075 (fun _ => 0))]) (rnS (rest := [.long 0]) ⟨hx, hb, hml, hown, hg⟩ (c_X10_wholeOf_3 l V) mt_X10_wholeOf q_8_118 ⟨Nat.le_of_ble_eq_true rfl, Nat.le_of_ble_eq_true rfl⟩ hK hP hD hS hA hE [] rfl rfl rfl hl.1 rfl (Nat.le_of_ble_eq_true rfl) dX10_mean_88 ⟨Nat.le_of_ble_eq_true rfl, Nat.le_of_ble_eq_true rfl⟩) hP hD hS hA [] [0, 1, 2, 3, 4, 5, 6] rfl rfl rfl (by decide) (fun r_44 w H locs hw hP hD hS => ?_)
        obtain ⟨rfl, rfl⟩ := hw
        have hP : va_P V.1 vwCl [(z 24, aI V 10000 (fun _ => 0)), (z 25, aI V 40000 (upd (upd (upd (fun _ => 0) 1 (-1)) 2 (-1)) 3 (-1))), (z 28, aZ V 10000 (upd (fun _ => 0) 0 1)), (z 30, aJ V 10000 (vp_updL (fun _ => 0) 0 1000)), (z 31, aJ V 10000 (fun _ => 0)), (z 0, .inr (10, mo z 0 0 0 0 0 0 0 0 0 0 (-1) 0 0 0 0 1)), (z 1, aI V 3075 (fun _ => 0))] H := hP
        have hD : va_D A [(z 24, aI V 10000 (fun _ => 0)), (z 25, aI V 40000 (upd (upd (upd (fun _ => 0) 1 (-1)) 2 (-1)) 3 (-1))), (z 28, aZ V 10000 (upd (fun _ => 0) 0 1)), (z 30, aJ V 10000 (vp_updL (fun _ => 0) 0 1000)), (z 31, aJ V 10000 (fun _ => 0)), (z 0, .inr (10, mo z 0 0 0 0 0 0 0 0 0 0 (-1) 0 0 0 0 1)), (z 1, aI V 3075 (fun _ => 0))] := hD
        refine lv_iload_n hx hb dX10_mean_91 rfl (lv_at hl 4 rfl) ?_
        refine jnI (wr := [(z 24, aI V 10000 (fun _ => 0)), (z 25, aI V 40000 (upd (upd (upd (fun _ => 0) 1 (-1)) 2 (-1)) 3 (-1))), (z 28, aZ V 10000 (upd (fun _ => 0) 0 1)), (z 30, aJ V 10000 (vp_updL (fun _ => 0) 0 1000)), (z 31, aJ V 10000 (fun _ => 0)), (z 0, .inr (10, mo z 0 0 0 0 0 0 0 0 0 0 (-1) 0 0 0 0 1)), (z 1, aI V 3075 (fun _ => 0))]) (rnS (rest := []) ⟨hx, hb, hml, hown, hg⟩ (c_X10_part_3 l V p1) mt_X10_part q_8_121 ⟨Nat.le_of_ble_eq_true rfl, Nat.le_of_ble_eq_true rfl⟩ hK hP hD hS hA hE [] rfl rfl rfl hl.1 rfl (Nat.le_of_ble_eq_true rfl) dX10_mean_92 ⟨Nat.le_of_ble_eq_true rfl, Nat.le_of_ble_eq_true rfl⟩) hP hD hS hA [] [0, 1, 2, 3, 4, 5, 6] rfl rfl rfl (by decide) (fun r_45 w H locs hw hP hD hS => ?_)
        rcases hw with ⟨c_46, rfl, rfl⟩ | ⟨c_47, rfl, rfl⟩
        · have hP : va_P V.1 vwCl [(z 24, aI V 10000 (fun _ => 0)), (z 25, aI V 40000 (upd (upd (upd (fun _ => 0) 1 (-1)) 2 (-1)) 3 (-1))), (z 28, aZ V 10000 (upd (fun _ => 0) 0 1)), (z 30, aJ V 10000 (vp_updL (fun _ => 0) 0 1000)), (z 31, aJ V 10000 (fun _ => 0)), (z 0, .inr (10, mo z 0 0 0 0 0 0 0 0 0 0 (-1) 0 0 0 0 1)), (z 1, aI V 3075 (fun _ => 0))] H := hP
          have hD : va_D A [(z 24, aI V 10000 (fun _ => 0)), (z 25, aI V 40000 (upd (upd (upd (fun _ => 0) 1 (-1)) 2 (-1)) 3 (-1))), (z 28, aZ V 10000 (upd (fun _ => 0) 0 1)), (z 30, aJ V 10000 (vp_updL (fun _ => 0) 0 1000)), (z 31, aJ V 10000 (fun _ => 0)), (z 0, .inr (10, mo z 0 0 0 0 0 0 0 0 0 0 (-1) 0 0 0 0 1)), (z 1, aI V 3075 (fun _ => 0))] := hD
          have hP := subP (ws' := [(z 0, .inr (10, mo z 0 0 0 0 0 0 0 0 0 0 (-1) 0 0 0 0 1)), (z 24, aI V 10000 (fun _ => 0)), (z 25, aI V 40000 (upd (upd (upd (fun _ => 0) 1 (-1)) 2 (-1)) 3 (-1))), (z 28, aZ V 10000 (upd (fun _ => 0) 0 1)), (z 30, aJ V 10000 (vp_updL (fun _ => 0) 0 1000)), (z 31, aJ V 10000 (fun _ => 0)), (z 1, aI V 3075 (fun _ => 0))]) hP [5, 0, 1, 2, 3, 4, 6] rfl
          have hD := hD.sub (ws' := [(z 0, .inr (10, mo z 0 0 0 0 0 0 0 0 0 0 (-1) 0 0 0 0 1)), (z 24, aI V 10000 (fun _ => 0)), (z 25, aI V 40000 (upd (upd (upd (fun _ => 0) 1 (-1)) 2 (-1)) 3 (-1))), (z 28, aZ V 10000 (upd (fun _ => 0) 0 1)), (z 30, aJ V 10000 (vp_updL (fun _ => 0) 0 1000)), (z 31, aJ V 10000 (fun _ => 0)), (z 1, aI V 3075 (fun _ => 0))]) [5, 0, 1, 2, 3, 4, 6] rfl rfl
          exact fiI hx hb hr hlk hK hP hD hS dX10_mean_95 (Nat.le_of_ble_eq_true rfl) (Nat.le_of_ble_eq_true rfl) (Or.inr (Or.inr (Or.inr (Or.inr (Or.inr (Or.inr (Or.inr (Or.inr (Or.inr (Or.inr (Or.inl ⟨c_5, c_6, c_14, c_15, rfl, c_46, rfl, rfl⟩)))))))))))
        · have hP : va_P V.1 vwCl [(z 24, aI V 10000 (fun _ => 0)), (z 25, aI V 40000 (upd (upd (upd (fun _ => 0) 1 (-1)) 2 (-1)) 3 (-1))), (z 28, aZ V 10000 (upd (fun _ => 0) 0 1)), (z 30, aJ V 10000 (vp_updL (fun _ => 0) 0 1000)), (z 31, aJ V 10000 (fun _ => 0)), (z 0, .inr (10, mo z 0 0 0 0 0 0 0 0 0 0 (-1) 0 0 0 0 1)), (z 1, aI V 3075 (fun _ => 0))] H := hP
          have hD : va_D A [(z 24, aI V 10000 (fun _ => 0)), (z 25, aI V 40000 (upd (upd (upd (fun _ => 0) 1 (-1)) 2 (-1)) 3 (-1))), (z 28, aZ V 10000 (upd (fun _ => 0) 0 1)), (z 30, aJ V 10000 (vp_updL (fun _ => 0) 0 1000)), (z 31, aJ V 10000 (fun _ => 0)), (z 0, .inr (10, mo z 0 0 0 0 0 0 0 0 0 0 (-1) 0 0 0 0 1)), (z 1, aI V 3075 (fun _ => 0))] := hD
          have hP := subP (ws' := [(z 0, .inr (10, mo z 0 0 0 0 0 0 0 0 0 0 (-1) 0 0 0 0 1)), (z 24, aI V 10000 (fun _ => 0)), (z 25, aI V 40000 (upd (upd (upd (fun _ => 0) 1 (-1)) 2 (-1)) 3 (-1))), (z 28, aZ V 10000 (upd (fun _ => 0) 0 1)), (z 30, aJ V 10000 (vp_updL (fun _ => 0) 0 1000)), (z 31, aJ V 10000 (fun _ => 0)), (z 1, aI V 3075 (fun _ => 0))]) hP [5, 0, 1, 2, 3, 4, 6] rfl
          have hD := hD.sub (ws' := [(z 0, .inr (10, mo z 0 0 0 0 0 0 0 0 0 0 (-1) 0 0 0 0 1)), (z 24, aI V 10000 (fun _ => 0)), (z 25, aI V 40000 (upd (upd (upd (fun _ => 0) 1 (-1)) 2 (-1)) 3 (-1))), (z 28, aZ V 10000 (upd (fun _ => 0) 0 1)), (z 30, aJ V 10000 (vp_updL (fun _ => 0) 0 1000)), (z 31, aJ V 10000 (fun _ => 0)), (z 1, aI V 3075 (fun _ => 0))]) [5, 0, 1, 2, 3, 4, 6] rfl rfl
          exact fiI hx hb hr hlk hK hP hD hS dX10_mean_95 (Nat.le_of_ble_eq_true rfl) (Nat.le_of_ble_eq_true rfl) (Or.inr (Or.inr (Or.inr (Or.inr (Or.inr (Or.inr (Or.inr (Or.inr (Or.inr (Or.inr (Or.inr (Or.inl ⟨c_5, c_6, c_14, c_15, rfl, c_47, rfl, rfl⟩))))))))))))
      · refine lv_aload_n hx hb dX10_mean_33 rfl (lv_at hl 0 rfl) ?_
        refine lv_iload_n hx hb dX10_mean_34 rfl (lv_at hl 1 rfl) ?_
        refine jnV (wr := []) (rnV (rest := []) ⟨hx, hb, hml, hown, hg⟩ (c_X10_laysLikely_4 l V z) mt_X10_laysLikely q_8_114 ⟨Nat.le_of_ble_eq_true rfl, Nat.le_of_ble_eq_true rfl⟩ hK hP hD hS hA hE [0, 1, 2, 3, 4, 5, 6] rfl rfl 0 rfl rfl rfl rfl hl.1 rfl (Nat.le_of_ble_eq_true rfl) dX10_mean_35 ⟨Nat.le_of_ble_eq_true rfl, Nat.le_of_ble_eq_true rfl⟩) hP hD hS hA [0, 1, 2, 3, 4, 5, 6] [] rfl rfl rfl (by decide) (fun  w H locs hw hP hD hS => ?_)
        subst hw
        have hP : va_P V.1 vwCl [(z 0, .inr (10, mo z 0 0 0 0 0 0 0 0 0 0 (-1) 0 0 0 0 1)), (z 24, aI V 10000 (fun _ => 0)), (z 25, aI V 40000 (upd (upd (upd (fun _ => 0) 1 (-1)) 2 (-1)) 3 (-1))), (z 28, aZ V 10000 (upd (fun _ => 0) 0 1)), (z 30, aJ V 10000 (vp_updL (fun _ => 0) 0 10000)), (z 31, aJ V 10000 (fun _ => 0)), (z 1, aI V 3075 (fun _ => 0))] H := hP
        have hD : va_D A [(z 0, .inr (10, mo z 0 0 0 0 0 0 0 0 0 0 (-1) 0 0 0 0 1)), (z 24, aI V 10000 (fun _ => 0)), (z 25, aI V 40000 (upd (upd (upd (fun _ => 0) 1 (-1)) 2 (-1)) 3 (-1))), (z 28, aZ V 10000 (upd (fun _ => 0) 0 1)), (z 30, aJ V 10000 (vp_updL (fun _ => 0) 0 10000)), (z 31, aJ V 10000 (fun _ => 0)), (z 1, aI V 3075 (fun _ => 0))] := hD
        refine lv_lconst (v := 0) hx hb dX10_mean_38 (by decide) ?_
        refine lv_lstore_n (lv' := [(3, .long 0), (0, .ref (z 0)), (1, .int 4), (2, .int p1)]) hx hb dX10_mean_39 rfl hl (by decide) rfl (fun ls hl => ?_)
        refine lv_iconst (v := 0) hx hb dX10_mean_40 (by decide) ?_
        refine lv_istore (lv' := [(5, .int 0), (3, .long 0), (0, .ref (z 0)), (1, .int 4), (2, .int p1)]) hx hb dX10_mean_41 hl (by decide) rfl (fun ls hl => ?_)
        refine lv_iload hx hb dX10_mean_43 (lv_at hl 0 rfl) ?_
        refine lv_aload_n hx hb dX10_mean_45 rfl (lv_at hl 2 rfl) ?_
        refine va_get (ci := 10) (v := .int 1) (C := RX10) (T := TX10) (N := 40) hx hb hg inX10 hown hK hP 0 rfl rfl 29 (by decide) (hg _ q_6_13) (fun _ h9 => h9) rfl dX10_mean_46 ?_
        refine lv_icmp_ge (tgt := 86) hx hb dX10_mean_49 (by decide) (fun c_48 => absurd c_48 (by decide)) (fun _ => ?_)
        refine lv_lload_n hx hb dX10_mean_52 rfl (lv_at hl 1 rfl) ?_
        refine lv_aload_n hx hb dX10_mean_53 rfl (lv_at hl 2 rfl) ?_
        refine va_get (ci := 10) (v := .ref (z 30)) (C := RX10) (T := TX10) (N := 40) hx hb hg inX10 hown hK hP 0 rfl rfl 30 (by decide) (hg _ q_6_14) (fun _ h9 => h9) rfl dX10_mean_54 ?_
        refine lv_aload_n hx hb dX10_mean_57 rfl (lv_at hl 2 rfl) ?_
        refine va_get (ci := 10) (v := .ref (z 24)) (C := RX10) (T := TX10) (N := 40) hx hb hg inX10 hown hK hP 0 rfl rfl 24 (by decide) (hg _ q_6_8) (fun _ h9 => h9) rfl dX10_mean_58 ?_
        refine lv_iload hx hb dX10_mean_61 (lv_at hl 0 rfl) ?_
        refine va_iald hx hb hK hP 1 0 rfl rfl (vin (by decide +kernel)) dX10_mean_63 ?_
        refine tpi (y := 0) (rfl) ?_
        refine va_lald hx hb hK hP 4 2 rfl rfl (vin (by decide +kernel)) dX10_mean_64 ?_
        refine tpl (y := 10000) (rfl) ?_
        refine lv_aload_n hx hb dX10_mean_65 rfl (lv_at hl 2 rfl) ?_
        refine lv_aload_n hx hb dX10_mean_66 rfl (lv_at hl 2 rfl) ?_
        refine va_get (ci := 10) (v := .ref (z 24)) (C := RX10) (T := TX10) (N := 40) hx hb hg inX10 hown hK hP 0 rfl rfl 24 (by decide) (hg _ q_6_8) (fun _ h9 => h9) rfl dX10_mean_67 ?_
        refine lv_iload hx hb dX10_mean_70 (lv_at hl 0 rfl) ?_
        refine va_iald hx hb hK hP 1 0 rfl rfl (vin (by decide +kernel)) dX10_mean_72 ?_
        refine tpi (y := 0) (rfl) ?_
        refine jnI (wr := [(z 24, aI V 10000 (fun _ => 0)), (z 25, aI V 40000 (upd (upd (upd (fun _ => 0) 1 (-1)) 2 (-1)) 3 (-1))), (z 28, aZ V 10000 (upd (fun _ => 0) 0 1)), (z 30, aJ V 10000 (vp_updL (fun _ => 0) 0 10000)), (z 31, aJ V 10000 (fun _ => 0))]) (rnV (rest := [.long 10000, .long 0]) ⟨hx, hb, hml, hown, hg⟩ (c_X10_sumIn_0 l V z) mt_X10_sumIn q_7_131 ⟨Nat.le_of_ble_eq_true rfl, Nat.le_of_ble_eq_true rfl⟩ hK hP hD hS hA hE [0, 6] rfl rfl 0 rfl rfl rfl rfl hl.1 rfl (Nat.le_of_ble_eq_true rfl) dX10_mean_73 ⟨Nat.le_of_ble_eq_true rfl, Nat.le_of_ble_eq_true rfl⟩) hP hD hS hA [0, 6] [1, 2, 3, 4, 5] rfl rfl rfl (by decide) (fun r_49 w H locs hw hP hD hS => ?_)
        obtain ⟨rfl, rfl⟩ := hw
        have hP : va_P V.1 vwCl [(z 24, aI V 10000 (fun _ => 0)), (z 25, aI V 40000 (upd (upd (upd (fun _ => 0) 1 (-1)) 2 (-1)) 3 (-1))), (z 28, aZ V 10000 (upd (fun _ => 0) 0 1)), (z 30, aJ V 10000 (vp_updL (fun _ => 0) 0 10000)), (z 31, aJ V 10000 (fun _ => 0)), (z 0, .inr (10, mo z 0 0 0 0 0 0 0 0 0 0 (-1) 0 0 0 0 1)), (z 1, aI V 3075 (fun _ => 0))] H := hP
        have hD : va_D A [(z 24, aI V 10000 (fun _ => 0)), (z 25, aI V 40000 (upd (upd (upd (fun _ => 0) 1 (-1)) 2 (-1)) 3 (-1))), (z 28, aZ V 10000 (upd (fun _ => 0) 0 1)), (z 30, aJ V 10000 (vp_updL (fun _ => 0) 0 10000)), (z 31, aJ V 10000 (fun _ => 0)), (z 0, .inr (10, mo z 0 0 0 0 0 0 0 0 0 0 (-1) 0 0 0 0 1)), (z 1, aI V 3075 (fun _ => 0))] := hD
        refine lv_i2l (v := 0) hx hb dX10_mean_76 (by decide +kernel) ?_
        refine lv_lmul hx hb dX10_mean_77 ?_
        refine tpl (y := 0) (by decide +kernel) ?_
        refine lv_ladd hx hb dX10_mean_78 ?_
        refine tpl (y := 0) (by decide +kernel) ?_
        refine lv_lstore_n (lv' := [(3, .long 0), (5, .int 0), (0, .ref (z 0)), (1, .int 4), (2, .int p1)]) hx hb dX10_mean_79 rfl hl (by decide) rfl (fun ls hl => ?_)
        refine lv_iinc (v := 1) (lv' := [(5, .int 1), (3, .long 0), (0, .ref (z 0)), (1, .int 4), (2, .int p1)]) hx hb dX10_mean_80 hl (k := 1) rfl (by decide +kernel) (by decide) rfl (fun ls hl => ?_)
        refine lv_goto (tgt := 43) hx hb dX10_mean_83 (by decide) ?_
        refine lv_iload hx hb dX10_mean_43 (lv_at hl 0 rfl) ?_
        refine lv_aload_n hx hb dX10_mean_45 rfl (lv_at hl 2 rfl) ?_
        refine va_get (ci := 10) (v := .int 1) (C := RX10) (T := TX10) (N := 40) hx hb hg inX10 hown hK hP 5 rfl rfl 29 (by decide) (hg _ q_6_13) (fun _ h9 => h9) rfl dX10_mean_46 ?_
        refine lv_icmp_ge (tgt := 86) hx hb dX10_mean_49 (by decide) (fun _ => ?_) (fun c_50 => absurd c_50 (by decide))
        refine lv_lload_n hx hb dX10_mean_86 rfl (lv_at hl 1 rfl) ?_
        refine lv_iload_n hx hb dX10_mean_87 rfl (lv_at hl 3 rfl) ?_
        refine jnL (wr := [(z 24, aI V 10000 (fun _ => 0)), (z 25, aI V 40000 (upd (upd (upd (fun _ => 0) 1 (-1)) 2 (-1)) 3 (-1))), (z 28, aZ V 10000 (upd (fun _ => 0) 0 1)), (z 30, aJ V 10000 (vp_updL (fun _ => 0) 0 10000)), (z 31, aJ V 10000 (fun _ => 0)), (z 0, .inr (10, mo z 0 0 0 0 0 0 0 0 0 0 (-1) 0 0 0 0 1)), (z 1, aI V 3075 (fun _ => 0))]) (rnS (rest := [.long 0]) ⟨hx, hb, hml, hown, hg⟩ (c_X10_wholeOf_4 l V) mt_X10_wholeOf q_8_118 ⟨Nat.le_of_ble_eq_true rfl, Nat.le_of_ble_eq_true rfl⟩ hK hP hD hS hA hE [] rfl rfl rfl hl.1 rfl (Nat.le_of_ble_eq_true rfl) dX10_mean_88 ⟨Nat.le_of_ble_eq_true rfl, Nat.le_of_ble_eq_true rfl⟩) hP hD hS hA [] [0, 1, 2, 3, 4, 5, 6] rfl rfl rfl (by decide) (fun r_51 w H locs hw hP hD hS => ?_)
        obtain ⟨rfl, rfl⟩ := hw
        have hP : va_P V.1 vwCl [(z 24, aI V 10000 (fun _ => 0)), (z 25, aI V 40000 (upd (upd (upd (fun _ => 0) 1 (-1)) 2 (-1)) 3 (-1))), (z 28, aZ V 10000 (upd (fun _ => 0) 0 1)), (z 30, aJ V 10000 (vp_updL (fun _ => 0) 0 10000)), (z 31, aJ V 10000 (fun _ => 0)), (z 0, .inr (10, mo z 0 0 0 0 0 0 0 0 0 0 (-1) 0 0 0 0 1)), (z 1, aI V 3075 (fun _ => 0))] H := hP
        have hD : va_D A [(z 24, aI V 10000 (fun _ => 0)), (z 25, aI V 40000 (upd (upd (upd (fun _ => 0) 1 (-1)) 2 (-1)) 3 (-1))), (z 28, aZ V 10000 (upd (fun _ => 0) 0 1)), (z 30, aJ V 10000 (vp_updL (fun _ => 0) 0 10000)), (z 31, aJ V 10000 (fun _ => 0)), (z 0, .inr (10, mo z 0 0 0 0 0 0 0 0 0 0 (-1) 0 0 0 0 1)), (z 1, aI V 3075 (fun _ => 0))] := hD
        refine lv_iload_n hx hb dX10_mean_91 rfl (lv_at hl 4 rfl) ?_
        refine jnI (wr := [(z 24, aI V 10000 (fun _ => 0)), (z 25, aI V 40000 (upd (upd (upd (fun _ => 0) 1 (-1)) 2 (-1)) 3 (-1))), (z 28, aZ V 10000 (upd (fun _ => 0) 0 1)), (z 30, aJ V 10000 (vp_updL (fun _ => 0) 0 10000)), (z 31, aJ V 10000 (fun _ => 0)), (z 0, .inr (10, mo z 0 0 0 0 0 0 0 0 0 0 (-1) 0 0 0 0 1)), (z 1, aI V 3075 (fun _ => 0))]) (rnS (rest := []) ⟨hx, hb, hml, hown, hg⟩ (c_X10_part_4 l V p1) mt_X10_part q_8_121 ⟨Nat.le_of_ble_eq_true rfl, Nat.le_of_ble_eq_true rfl⟩ hK hP hD hS hA hE [] rfl rfl rfl hl.1 rfl (Nat.le_of_ble_eq_true rfl) dX10_mean_92 ⟨Nat.le_of_ble_eq_true rfl, Nat.le_of_ble_eq_true rfl⟩) hP hD hS hA [] [0, 1, 2, 3, 4, 5, 6] rfl rfl rfl (by decide) (fun r_52 w H locs hw hP hD hS => ?_)
        rcases hw with ⟨c_53, rfl, rfl⟩ | ⟨c_54, rfl, rfl⟩
        · have hP : va_P V.1 vwCl [(z 24, aI V 10000 (fun _ => 0)), (z 25, aI V 40000 (upd (upd (upd (fun _ => 0) 1 (-1)) 2 (-1)) 3 (-1))), (z 28, aZ V 10000 (upd (fun _ => 0) 0 1)), (z 30, aJ V 10000 (vp_updL (fun _ => 0) 0 10000)), (z 31, aJ V 10000 (fun _ => 0)), (z 0, .inr (10, mo z 0 0 0 0 0 0 0 0 0 0 (-1) 0 0 0 0 1)), (z 1, aI V 3075 (fun _ => 0))] H := hP
          have hD : va_D A [(z 24, aI V 10000 (fun _ => 0)), (z 25, aI V 40000 (upd (upd (upd (fun _ => 0) 1 (-1)) 2 (-1)) 3 (-1))), (z 28, aZ V 10000 (upd (fun _ => 0) 0 1)), (z 30, aJ V 10000 (vp_updL (fun _ => 0) 0 10000)), (z 31, aJ V 10000 (fun _ => 0)), (z 0, .inr (10, mo z 0 0 0 0 0 0 0 0 0 0 (-1) 0 0 0 0 1)), (z 1, aI V 3075 (fun _ => 0))] := hD
          have hP := subP (ws' := [(z 0, .inr (10, mo z 0 0 0 0 0 0 0 0 0 0 (-1) 0 0 0 0 1)), (z 24, aI V 10000 (fun _ => 0)), (z 25, aI V 40000 (upd (upd (upd (fun _ => 0) 1 (-1)) 2 (-1)) 3 (-1))), (z 28, aZ V 10000 (upd (fun _ => 0) 0 1)), (z 30, aJ V 10000 (vp_updL (fun _ => 0) 0 10000)), (z 31, aJ V 10000 (fun _ => 0)), (z 1, aI V 3075 (fun _ => 0))]) hP [5, 0, 1, 2, 3, 4, 6] rfl
          have hD := hD.sub (ws' := [(z 0, .inr (10, mo z 0 0 0 0 0 0 0 0 0 0 (-1) 0 0 0 0 1)), (z 24, aI V 10000 (fun _ => 0)), (z 25, aI V 40000 (upd (upd (upd (fun _ => 0) 1 (-1)) 2 (-1)) 3 (-1))), (z 28, aZ V 10000 (upd (fun _ => 0) 0 1)), (z 30, aJ V 10000 (vp_updL (fun _ => 0) 0 10000)), (z 31, aJ V 10000 (fun _ => 0)), (z 1, aI V 3075 (fun _ => 0))]) [5, 0, 1, 2, 3, 4, 6] rfl rfl
          exact fiI hx hb hr hlk hK hP hD hS dX10_mean_95 (Nat.le_of_ble_eq_true rfl) (Nat.le_of_ble_eq_true rfl) (Or.inr (Or.inr (Or.inr (Or.inr (Or.inr (Or.inr (Or.inr (Or.inr (Or.inr (Or.inr (Or.inr (Or.inr (Or.inl ⟨c_5, c_6, c_14, c_15, rfl, c_53, rfl, rfl⟩)))))))))))))
        · have hP : va_P V.1 vwCl [(z 24, aI V 10000 (fun _ => 0)), (z 25, aI V 40000 (upd (upd (upd (fun _ => 0) 1 (-1)) 2 (-1)) 3 (-1))), (z 28, aZ V 10000 (upd (fun _ => 0) 0 1)), (z 30, aJ V 10000 (vp_updL (fun _ => 0) 0 10000)), (z 31, aJ V 10000 (fun _ => 0)), (z 0, .inr (10, mo z 0 0 0 0 0 0 0 0 0 0 (-1) 0 0 0 0 1)), (z 1, aI V 3075 (fun _ => 0))] H := hP
          have hD : va_D A [(z 24, aI V 10000 (fun _ => 0)), (z 25, aI V 40000 (upd (upd (upd (fun _ => 0) 1 (-1)) 2 (-1)) 3 (-1))), (z 28, aZ V 10000 (upd (fun _ => 0) 0 1)), (z 30, aJ V 10000 (vp_updL (fun _ => 0) 0 10000)), (z 31, aJ V 10000 (fun _ => 0)), (z 0, .inr (10, mo z 0 0 0 0 0 0 0 0 0 0 (-1) 0 0 0 0 1)), (z 1, aI V 3075 (fun _ => 0))] := hD
          have hP := subP (ws' := [(z 0, .inr (10, mo z 0 0 0 0 0 0 0 0 0 0 (-1) 0 0 0 0 1)), (z 24, aI V 10000 (fun _ => 0)), (z 25, aI V 40000 (upd (upd (upd (fun _ => 0) 1 (-1)) 2 (-1)) 3 (-1))), (z 28, aZ V 10000 (upd (fun _ => 0) 0 1)), (z 30, aJ V 10000 (vp_updL (fun _ => 0) 0 10000)), (z 31, aJ V 10000 (fun _ => 0)), (z 1, aI V 3075 (fun _ => 0))]) hP [5, 0, 1, 2, 3, 4, 6] rfl
          have hD := hD.sub (ws' := [(z 0, .inr (10, mo z 0 0 0 0 0 0 0 0 0 0 (-1) 0 0 0 0 1)), (z 24, aI V 10000 (fun _ => 0)), (z 25, aI V 40000 (upd (upd (upd (fun _ => 0) 1 (-1)) 2 (-1)) 3 (-1))), (z 28, aZ V 10000 (upd (fun _ => 0) 0 1)), (z 30, aJ V 10000 (vp_updL (fun _ => 0) 0 10000)), (z 31, aJ V 10000 (fun _ => 0)), (z 1, aI V 3075 (fun _ => 0))]) [5, 0, 1, 2, 3, 4, 6] rfl rfl
          exact fiI hx hb hr hlk hK hP hD hS dX10_mean_95 (Nat.le_of_ble_eq_true rfl) (Nat.le_of_ble_eq_true rfl) (Or.inr (Or.inr (Or.inr (Or.inr (Or.inr (Or.inr (Or.inr (Or.inr (Or.inr (Or.inr (Or.inr (Or.inr (Or.inr (Or.inl ⟨c_5, c_6, c_14, c_15, rfl, c_54, rfl, rfl⟩))))))))))))))
      · refine lv_aload_n hx hb dX10_mean_33 rfl (lv_at hl 0 rfl) ?_
        refine lv_iload_n hx hb dX10_mean_34 rfl (lv_at hl 1 rfl) ?_
        refine jnV (wr := []) (rnV (rest := []) ⟨hx, hb, hml, hown, hg⟩ (c_X10_laysLikely_5 l V z) mt_X10_laysLikely q_8_114 ⟨Nat.le_of_ble_eq_true rfl, Nat.le_of_ble_eq_true rfl⟩ hK hP hD hS hA hE [0, 1, 2, 3, 4, 5, 6] rfl rfl 0 rfl rfl rfl rfl hl.1 rfl (Nat.le_of_ble_eq_true rfl) dX10_mean_35 ⟨Nat.le_of_ble_eq_true rfl, Nat.le_of_ble_eq_true rfl⟩) hP hD hS hA [0, 1, 2, 3, 4, 5, 6] [] rfl rfl rfl (by decide) (fun  w H locs hw hP hD hS => ?_)
        subst hw
        have hP : va_P V.1 vwCl [(z 0, .inr (10, mo z 0 0 0 0 0 0 0 0 0 0 (-1) 0 0 0 0 1)), (z 24, aI V 10000 (fun _ => 0)), (z 25, aI V 40000 (upd (upd (upd (fun _ => 0) 1 (-1)) 2 (-1)) 3 (-1))), (z 28, aZ V 10000 (upd (fun _ => 0) 0 1)), (z 30, aJ V 10000 (vp_updL (fun _ => 0) 0 100000)), (z 31, aJ V 10000 (fun _ => 0)), (z 1, aI V 3075 (fun _ => 0))] H := hP
        have hD : va_D A [(z 0, .inr (10, mo z 0 0 0 0 0 0 0 0 0 0 (-1) 0 0 0 0 1)), (z 24, aI V 10000 (fun _ => 0)), (z 25, aI V 40000 (upd (upd (upd (fun _ => 0) 1 (-1)) 2 (-1)) 3 (-1))), (z 28, aZ V 10000 (upd (fun _ => 0) 0 1)), (z 30, aJ V 10000 (vp_updL (fun _ => 0) 0 100000)), (z 31, aJ V 10000 (fun _ => 0)), (z 1, aI V 3075 (fun _ => 0))] := hD
        refine lv_lconst (v := 0) hx hb dX10_mean_38 (by decide) ?_
        refine lv_lstore_n (lv' := [(3, .long 0), (0, .ref (z 0)), (1, .int 5), (2, .int p1)]) hx hb dX10_mean_39 rfl hl (by decide) rfl (fun ls hl => ?_)
        refine lv_iconst (v := 0) hx hb dX10_mean_40 (by decide) ?_
        refine lv_istore (lv' := [(5, .int 0), (3, .long 0), (0, .ref (z 0)), (1, .int 5), (2, .int p1)]) hx hb dX10_mean_41 hl (by decide) rfl (fun ls hl => ?_)
        refine lv_iload hx hb dX10_mean_43 (lv_at hl 0 rfl) ?_
        refine lv_aload_n hx hb dX10_mean_45 rfl (lv_at hl 2 rfl) ?_
        refine va_get (ci := 10) (v := .int 1) (C := RX10) (T := TX10) (N := 40) hx hb hg inX10 hown hK hP 0 rfl rfl 29 (by decide) (hg _ q_6_13) (fun _ h9 => h9) rfl dX10_mean_46 ?_
        refine lv_icmp_ge (tgt := 86) hx hb dX10_mean_49 (by decide) (fun c_55 => absurd c_55 (by decide)) (fun _ => ?_)
        refine lv_lload_n hx hb dX10_mean_52 rfl (lv_at hl 1 rfl) ?_
        refine lv_aload_n hx hb dX10_mean_53 rfl (lv_at hl 2 rfl) ?_
        refine va_get (ci := 10) (v := .ref (z 30)) (C := RX10) (T := TX10) (N := 40) hx hb hg inX10 hown hK hP 0 rfl rfl 30 (by decide) (hg _ q_6_14) (fun _ h9 => h9) rfl dX10_mean_54 ?_
        refine lv_aload_n hx hb dX10_mean_57 rfl (lv_at hl 2 rfl) ?_
        refine va_get (ci := 10) (v := .ref (z 24)) (C := RX10) (T := TX10) (N := 40) hx hb hg inX10 hown hK hP 0 rfl rfl 24 (by decide) (hg _ q_6_8) (fun _ h9 => h9) rfl dX10_mean_58 ?_
        refine lv_iload hx hb dX10_mean_61 (lv_at hl 0 rfl) ?_
        refine va_iald hx hb hK hP 1 0 rfl rfl (vin (by decide +kernel)) dX10_mean_63 ?_
        refine tpi (y := 0) (rfl) ?_
        refine va_lald hx hb hK hP 4 2 rfl rfl (vin (by decide +kernel)) dX10_mean_64 ?_
        refine tpl (y := 100000) (rfl) ?_
        refine lv_aload_n hx hb dX10_mean_65 rfl (lv_at hl 2 rfl) ?_
        refine lv_aload_n hx hb dX10_mean_66 rfl (lv_at hl 2 rfl) ?_
        refine va_get (ci := 10) (v := .ref (z 24)) (C := RX10) (T := TX10) (N := 40) hx hb hg inX10 hown hK hP 0 rfl rfl 24 (by decide) (hg _ q_6_8) (fun _ h9 => h9) rfl dX10_mean_67 ?_
        refine lv_iload hx hb dX10_mean_70 (lv_at hl 0 rfl) ?_
        refine va_iald hx hb hK hP 1 0 rfl rfl (vin (by decide +kernel)) dX10_mean_72 ?_
        refine tpi (y := 0) (rfl) ?_
        refine jnI (wr := [(z 24, aI V 10000 (fun _ => 0)), (z 25, aI V 40000 (upd (upd (upd (fun _ => 0) 1 (-1)) 2 (-1)) 3 (-1))), (z 28, aZ V 10000 (upd (fun _ => 0) 0 1)), (z 30, aJ V 10000 (vp_updL (fun _ => 0) 0 100000)), (z 31, aJ V 10000 (fun _ => 0))]) (rnV (rest := [.long 100000, .long 0]) ⟨hx, hb, hml, hown, hg⟩ (c_X10_sumIn_0 l V z) mt_X10_sumIn q_7_131 ⟨Nat.le_of_ble_eq_true rfl, Nat.le_of_ble_eq_true rfl⟩ hK hP hD hS hA hE [0, 6] rfl rfl 0 rfl rfl rfl rfl hl.1 rfl (Nat.le_of_ble_eq_true rfl) dX10_mean_73 ⟨Nat.le_of_ble_eq_true rfl, Nat.le_of_ble_eq_true rfl⟩) hP hD hS hA [0, 6] [1, 2, 3, 4, 5] rfl rfl rfl (by decide) (fun r_56 w H locs hw hP hD hS => ?_)
        obtain ⟨rfl, rfl⟩ := hw
        have hP : va_P V.1 vwCl [(z 24, aI V 10000 (fun _ => 0)), (z 25, aI V 40000 (upd (upd (upd (fun _ => 0) 1 (-1)) 2 (-1)) 3 (-1))), (z 28, aZ V 10000 (upd (fun _ => 0) 0 1)), (z 30, aJ V 10000 (vp_updL (fun _ => 0) 0 100000)), (z 31, aJ V 10000 (fun _ => 0)), (z 0, .inr (10, mo z 0 0 0 0 0 0 0 0 0 0 (-1) 0 0 0 0 1)), (z 1, aI V 3075 (fun _ => 0))] H := hP
        have hD : va_D A [(z 24, aI V 10000 (fun _ => 0)), (z 25, aI V 40000 (upd (upd (upd (fun _ => 0) 1 (-1)) 2 (-1)) 3 (-1))), (z 28, aZ V 10000 (upd (fun _ => 0) 0 1)), (z 30, aJ V 10000 (vp_updL (fun _ => 0) 0 100000)), (z 31, aJ V 10000 (fun _ => 0)), (z 0, .inr (10, mo z 0 0 0 0 0 0 0 0 0 0 (-1) 0 0 0 0 1)), (z 1, aI V 3075 (fun _ => 0))] := hD
        refine lv_i2l (v := 0) hx hb dX10_mean_76 (by decide +kernel) ?_
        refine lv_lmul hx hb dX10_mean_77 ?_
        refine tpl (y := 0) (by decide +kernel) ?_
        refine lv_ladd hx hb dX10_mean_78 ?_
        refine tpl (y := 0) (by decide +kernel) ?_
        refine lv_lstore_n (lv' := [(3, .long 0), (5, .int 0), (0, .ref (z 0)), (1, .int 5), (2, .int p1)]) hx hb dX10_mean_79 rfl hl (by decide) rfl (fun ls hl => ?_)
        refine lv_iinc (v := 1) (lv' := [(5, .int 1), (3, .long 0), (0, .ref (z 0)), (1, .int 5), (2, .int p1)]) hx hb dX10_mean_80 hl (k := 1) rfl (by decide +kernel) (by decide) rfl (fun ls hl => ?_)
        refine lv_goto (tgt := 43) hx hb dX10_mean_83 (by decide) ?_
        refine lv_iload hx hb dX10_mean_43 (lv_at hl 0 rfl) ?_
        refine lv_aload_n hx hb dX10_mean_45 rfl (lv_at hl 2 rfl) ?_
        refine va_get (ci := 10) (v := .int 1) (C := RX10) (T := TX10) (N := 40) hx hb hg inX10 hown hK hP 5 rfl rfl 29 (by decide) (hg _ q_6_13) (fun _ h9 => h9) rfl dX10_mean_46 ?_
        refine lv_icmp_ge (tgt := 86) hx hb dX10_mean_49 (by decide) (fun _ => ?_) (fun c_57 => absurd c_57 (by decide))
        refine lv_lload_n hx hb dX10_mean_86 rfl (lv_at hl 1 rfl) ?_
        refine lv_iload_n hx hb dX10_mean_87 rfl (lv_at hl 3 rfl) ?_
        refine jnL (wr := [(z 24, aI V 10000 (fun _ => 0)), (z 25, aI V 40000 (upd (upd (upd (fun _ => 0) 1 (-1)) 2 (-1)) 3 (-1))), (z 28, aZ V 10000 (upd (fun _ => 0) 0 1)), (z 30, aJ V 10000 (vp_updL (fun _ => 0) 0 100000)), (z 31, aJ V 10000 (fun _ => 0)), (z 0, .inr (10, mo z 0 0 0 0 0 0 0 0 0 0 (-1) 0 0 0 0 1)), (z 1, aI V 3075 (fun _ => 0))]) (rnS (rest := [.long 0]) ⟨hx, hb, hml, hown, hg⟩ (c_X10_wholeOf_5 l V) mt_X10_wholeOf q_8_118 ⟨Nat.le_of_ble_eq_true rfl, Nat.le_of_ble_eq_true rfl⟩ hK hP hD hS hA hE [] rfl rfl rfl hl.1 rfl (Nat.le_of_ble_eq_true rfl) dX10_mean_88 ⟨Nat.le_of_ble_eq_true rfl, Nat.le_of_ble_eq_true rfl⟩) hP hD hS hA [] [0, 1, 2, 3, 4, 5, 6] rfl rfl rfl (by decide) (fun r_58 w H locs hw hP hD hS => ?_)
        obtain ⟨rfl, rfl⟩ := hw
        have hP : va_P V.1 vwCl [(z 24, aI V 10000 (fun _ => 0)), (z 25, aI V 40000 (upd (upd (upd (fun _ => 0) 1 (-1)) 2 (-1)) 3 (-1))), (z 28, aZ V 10000 (upd (fun _ => 0) 0 1)), (z 30, aJ V 10000 (vp_updL (fun _ => 0) 0 100000)), (z 31, aJ V 10000 (fun _ => 0)), (z 0, .inr (10, mo z 0 0 0 0 0 0 0 0 0 0 (-1) 0 0 0 0 1)), (z 1, aI V 3075 (fun _ => 0))] H := hP
        have hD : va_D A [(z 24, aI V 10000 (fun _ => 0)), (z 25, aI V 40000 (upd (upd (upd (fun _ => 0) 1 (-1)) 2 (-1)) 3 (-1))), (z 28, aZ V 10000 (upd (fun _ => 0) 0 1)), (z 30, aJ V 10000 (vp_updL (fun _ => 0) 0 100000)), (z 31, aJ V 10000 (fun _ => 0)), (z 0, .inr (10, mo z 0 0 0 0 0 0 0 0 0 0 (-1) 0 0 0 0 1)), (z 1, aI V 3075 (fun _ => 0))] := hD
        refine lv_iload_n hx hb dX10_mean_91 rfl (lv_at hl 4 rfl) ?_
        refine jnI (wr := [(z 24, aI V 10000 (fun _ => 0)), (z 25, aI V 40000 (upd (upd (upd (fun _ => 0) 1 (-1)) 2 (-1)) 3 (-1))), (z 28, aZ V 10000 (upd (fun _ => 0) 0 1)), (z 30, aJ V 10000 (vp_updL (fun _ => 0) 0 100000)), (z 31, aJ V 10000 (fun _ => 0)), (z 0, .inr (10, mo z 0 0 0 0 0 0 0 0 0 0 (-1) 0 0 0 0 1)), (z 1, aI V 3075 (fun _ => 0))]) (rnS (rest := []) ⟨hx, hb, hml, hown, hg⟩ (c_X10_part_5 l V p1) mt_X10_part q_8_121 ⟨Nat.le_of_ble_eq_true rfl, Nat.le_of_ble_eq_true rfl⟩ hK hP hD hS hA hE [] rfl rfl rfl hl.1 rfl (Nat.le_of_ble_eq_true rfl) dX10_mean_92 ⟨Nat.le_of_ble_eq_true rfl, Nat.le_of_ble_eq_true rfl⟩) hP hD hS hA [] [0, 1, 2, 3, 4, 5, 6] rfl rfl rfl (by decide) (fun r_59 w H locs hw hP hD hS => ?_)
        rcases hw with ⟨c_60, rfl, rfl⟩ | ⟨c_61, rfl, rfl⟩
        · have hP : va_P V.1 vwCl [(z 24, aI V 10000 (fun _ => 0)), (z 25, aI V 40000 (upd (upd (upd (fun _ => 0) 1 (-1)) 2 (-1)) 3 (-1))), (z 28, aZ V 10000 (upd (fun _ => 0) 0 1)), (z 30, aJ V 10000 (vp_updL (fun _ => 0) 0 100000)), (z 31, aJ V 10000 (fun _ => 0)), (z 0, .inr (10, mo z 0 0 0 0 0 0 0 0 0 0 (-1) 0 0 0 0 1)), (z 1, aI V 3075 (fun _ => 0))] H := hP
          have hD : va_D A [(z 24, aI V 10000 (fun _ => 0)), (z 25, aI V 40000 (upd (upd (upd (fun _ => 0) 1 (-1)) 2 (-1)) 3 (-1))), (z 28, aZ V 10000 (upd (fun _ => 0) 0 1)), (z 30, aJ V 10000 (vp_updL (fun _ => 0) 0 100000)), (z 31, aJ V 10000 (fun _ => 0)), (z 0, .inr (10, mo z 0 0 0 0 0 0 0 0 0 0 (-1) 0 0 0 0 1)), (z 1, aI V 3075 (fun _ => 0))] := hD
          have hP := subP (ws' := [(z 0, .inr (10, mo z 0 0 0 0 0 0 0 0 0 0 (-1) 0 0 0 0 1)), (z 24, aI V 10000 (fun _ => 0)), (z 25, aI V 40000 (upd (upd (upd (fun _ => 0) 1 (-1)) 2 (-1)) 3 (-1))), (z 28, aZ V 10000 (upd (fun _ => 0) 0 1)), (z 30, aJ V 10000 (vp_updL (fun _ => 0) 0 100000)), (z 31, aJ V 10000 (fun _ => 0)), (z 1, aI V 3075 (fun _ => 0))]) hP [5, 0, 1, 2, 3, 4, 6] rfl
          have hD := hD.sub (ws' := [(z 0, .inr (10, mo z 0 0 0 0 0 0 0 0 0 0 (-1) 0 0 0 0 1)), (z 24, aI V 10000 (fun _ => 0)), (z 25, aI V 40000 (upd (upd (upd (fun _ => 0) 1 (-1)) 2 (-1)) 3 (-1))), (z 28, aZ V 10000 (upd (fun _ => 0) 0 1)), (z 30, aJ V 10000 (vp_updL (fun _ => 0) 0 100000)), (z 31, aJ V 10000 (fun _ => 0)), (z 1, aI V 3075 (fun _ => 0))]) [5, 0, 1, 2, 3, 4, 6] rfl rfl
          exact fiI hx hb hr hlk hK hP hD hS dX10_mean_95 (Nat.le_of_ble_eq_true rfl) (Nat.le_of_ble_eq_true rfl) (Or.inr (Or.inr (Or.inr (Or.inr (Or.inr (Or.inr (Or.inr (Or.inr (Or.inr (Or.inr (Or.inr (Or.inr (Or.inr (Or.inr (Or.inl ⟨c_5, c_6, c_14, c_15, rfl, c_60, rfl, rfl⟩)))))))))))))))
        · have hP : va_P V.1 vwCl [(z 24, aI V 10000 (fun _ => 0)), (z 25, aI V 40000 (upd (upd (upd (fun _ => 0) 1 (-1)) 2 (-1)) 3 (-1))), (z 28, aZ V 10000 (upd (fun _ => 0) 0 1)), (z 30, aJ V 10000 (vp_updL (fun _ => 0) 0 100000)), (z 31, aJ V 10000 (fun _ => 0)), (z 0, .inr (10, mo z 0 0 0 0 0 0 0 0 0 0 (-1) 0 0 0 0 1)), (z 1, aI V 3075 (fun _ => 0))] H := hP
          have hD : va_D A [(z 24, aI V 10000 (fun _ => 0)), (z 25, aI V 40000 (upd (upd (upd (fun _ => 0) 1 (-1)) 2 (-1)) 3 (-1))), (z 28, aZ V 10000 (upd (fun _ => 0) 0 1)), (z 30, aJ V 10000 (vp_updL (fun _ => 0) 0 100000)), (z 31, aJ V 10000 (fun _ => 0)), (z 0, .inr (10, mo z 0 0 0 0 0 0 0 0 0 0 (-1) 0 0 0 0 1)), (z 1, aI V 3075 (fun _ => 0))] := hD
          have hP := subP (ws' := [(z 0, .inr (10, mo z 0 0 0 0 0 0 0 0 0 0 (-1) 0 0 0 0 1)), (z 24, aI V 10000 (fun _ => 0)), (z 25, aI V 40000 (upd (upd (upd (fun _ => 0) 1 (-1)) 2 (-1)) 3 (-1))), (z 28, aZ V 10000 (upd (fun _ => 0) 0 1)), (z 30, aJ V 10000 (vp_updL (fun _ => 0) 0 100000)), (z 31, aJ V 10000 (fun _ => 0)), (z 1, aI V 3075 (fun _ => 0))]) hP [5, 0, 1, 2, 3, 4, 6] rfl
          have hD := hD.sub (ws' := [(z 0, .inr (10, mo z 0 0 0 0 0 0 0 0 0 0 (-1) 0 0 0 0 1)), (z 24, aI V 10000 (fun _ => 0)), (z 25, aI V 40000 (upd (upd (upd (fun _ => 0) 1 (-1)) 2 (-1)) 3 (-1))), (z 28, aZ V 10000 (upd (fun _ => 0) 0 1)), (z 30, aJ V 10000 (vp_updL (fun _ => 0) 0 100000)), (z 31, aJ V 10000 (fun _ => 0)), (z 1, aI V 3075 (fun _ => 0))]) [5, 0, 1, 2, 3, 4, 6] rfl rfl
          exact fiI hx hb hr hlk hK hP hD hS dX10_mean_95 (Nat.le_of_ble_eq_true rfl) (Nat.le_of_ble_eq_true rfl) (Or.inr (Or.inr (Or.inr (Or.inr (Or.inr (Or.inr (Or.inr (Or.inr (Or.inr (Or.inr (Or.inr (Or.inr (Or.inr (Or.inr (Or.inr (Or.inl ⟨c_5, c_6, c_14, c_15, rfl, c_61, rfl, rfl⟩))))))))))))))))
      · refine lv_aload_n hx hb dX10_mean_33 rfl (lv_at hl 0 rfl) ?_
        refine lv_iload_n hx hb dX10_mean_34 rfl (lv_at hl 1 rfl) ?_
        refine jnV (wr := []) (rnV (rest := []) ⟨hx, hb, hml, hown, hg⟩ (c_X10_laysLikely_6 l V z) mt_X10_laysLikely q_8_114 ⟨Nat.le_of_ble_eq_true rfl, Nat.le_of_ble_eq_true rfl⟩ hK hP hD hS hA hE [0, 1, 2, 3, 4, 5, 6] rfl rfl 0 rfl rfl rfl rfl hl.1 rfl (Nat.le_of_ble_eq_true rfl) dX10_mean_35 ⟨Nat.le_of_ble_eq_true rfl, Nat.le_of_ble_eq_true rfl⟩) hP hD hS hA [0, 1, 2, 3, 4, 5, 6] [] rfl rfl rfl (by decide) (fun  w H locs hw hP hD hS => ?_)
        subst hw
        have hP : va_P V.1 vwCl [(z 0, .inr (10, mo z 0 0 0 0 0 0 0 0 0 0 (-1) 0 0 0 0 1)), (z 24, aI V 10000 (fun _ => 0)), (z 25, aI V 40000 (upd (upd (upd (fun _ => 0) 1 (-1)) 2 (-1)) 3 (-1))), (z 28, aZ V 10000 (upd (fun _ => 0) 0 1)), (z 30, aJ V 10000 (vp_updL (fun _ => 0) 0 1000000)), (z 31, aJ V 10000 (fun _ => 0)), (z 1, aI V 3075 (fun _ => 0))] H := hP
        have hD : va_D A [(z 0, .inr (10, mo z 0 0 0 0 0 0 0 0 0 0 (-1) 0 0 0 0 1)), (z 24, aI V 10000 (fun _ => 0)), (z 25, aI V 40000 (upd (upd (upd (fun _ => 0) 1 (-1)) 2 (-1)) 3 (-1))), (z 28, aZ V 10000 (upd (fun _ => 0) 0 1)), (z 30, aJ V 10000 (vp_updL (fun _ => 0) 0 1000000)), (z 31, aJ V 10000 (fun _ => 0)), (z 1, aI V 3075 (fun _ => 0))] := hD
        refine lv_lconst (v := 0) hx hb dX10_mean_38 (by decide) ?_
        refine lv_lstore_n (lv' := [(3, .long 0), (0, .ref (z 0)), (1, .int 6), (2, .int p1)]) hx hb dX10_mean_39 rfl hl (by decide) rfl (fun ls hl => ?_)
        refine lv_iconst (v := 0) hx hb dX10_mean_40 (by decide) ?_
        refine lv_istore (lv' := [(5, .int 0), (3, .long 0), (0, .ref (z 0)), (1, .int 6), (2, .int p1)]) hx hb dX10_mean_41 hl (by decide) rfl (fun ls hl => ?_)
        refine lv_iload hx hb dX10_mean_43 (lv_at hl 0 rfl) ?_
        refine lv_aload_n hx hb dX10_mean_45 rfl (lv_at hl 2 rfl) ?_
        refine va_get (ci := 10) (v := .int 1) (C := RX10) (T := TX10) (N := 40) hx hb hg inX10 hown hK hP 0 rfl rfl 29 (by decide) (hg _ q_6_13) (fun _ h9 => h9) rfl dX10_mean_46 ?_
        refine lv_icmp_ge (tgt := 86) hx hb dX10_mean_49 (by decide) (fun c_62 => absurd c_62 (by decide)) (fun _ => ?_)
        refine lv_lload_n hx hb dX10_mean_52 rfl (lv_at hl 1 rfl) ?_
        refine lv_aload_n hx hb dX10_mean_53 rfl (lv_at hl 2 rfl) ?_
        refine va_get (ci := 10) (v := .ref (z 30)) (C := RX10) (T := TX10) (N := 40) hx hb hg inX10 hown hK hP 0 rfl rfl 30 (by decide) (hg _ q_6_14) (fun _ h9 => h9) rfl dX10_mean_54 ?_
        refine lv_aload_n hx hb dX10_mean_57 rfl (lv_at hl 2 rfl) ?_
        refine va_get (ci := 10) (v := .ref (z 24)) (C := RX10) (T := TX10) (N := 40) hx hb hg inX10 hown hK hP 0 rfl rfl 24 (by decide) (hg _ q_6_8) (fun _ h9 => h9) rfl dX10_mean_58 ?_
        refine lv_iload hx hb dX10_mean_61 (lv_at hl 0 rfl) ?_
        refine va_iald hx hb hK hP 1 0 rfl rfl (vin (by decide +kernel)) dX10_mean_63 ?_
        refine tpi (y := 0) (rfl) ?_
        refine va_lald hx hb hK hP 4 2 rfl rfl (vin (by decide +kernel)) dX10_mean_64 ?_
        refine tpl (y := 1000000) (rfl) ?_
        refine lv_aload_n hx hb dX10_mean_65 rfl (lv_at hl 2 rfl) ?_
        refine lv_aload_n hx hb dX10_mean_66 rfl (lv_at hl 2 rfl) ?_
        refine va_get (ci := 10) (v := .ref (z 24)) (C := RX10) (T := TX10) (N := 40) hx hb hg inX10 hown hK hP 0 rfl rfl 24 (by decide) (hg _ q_6_8) (fun _ h9 => h9) rfl dX10_mean_67 ?_
        refine lv_iload hx hb dX10_mean_70 (lv_at hl 0 rfl) ?_
        refine va_iald hx hb hK hP 1 0 rfl rfl (vin (by decide +kernel)) dX10_mean_72 ?_
        refine tpi (y := 0) (rfl) ?_
        refine jnI (wr := [(z 24, aI V 10000 (fun _ => 0)), (z 25, aI V 40000 (upd (upd (upd (fun _ => 0) 1 (-1)) 2 (-1)) 3 (-1))), (z 28, aZ V 10000 (upd (fun _ => 0) 0 1)), (z 30, aJ V 10000 (vp_updL (fun _ => 0) 0 1000000)), (z 31, aJ V 10000 (fun _ => 0))]) (rnV (rest := [.long 1000000, .long 0]) ⟨hx, hb, hml, hown, hg⟩ (c_X10_sumIn_0 l V z) mt_X10_sumIn q_7_131 ⟨Nat.le_of_ble_eq_true rfl, Nat.le_of_ble_eq_true rfl⟩ hK hP hD hS hA hE [0, 6] rfl rfl 0 rfl rfl rfl rfl hl.1 rfl (Nat.le_of_ble_eq_true rfl) dX10_mean_73 ⟨Nat.le_of_ble_eq_true rfl, Nat.le_of_ble_eq_true rfl⟩) hP hD hS hA [0, 6] [1, 2, 3, 4, 5] rfl rfl rfl (by decide) (fun r_63 w H locs hw hP hD hS => ?_)
        obtain ⟨rfl, rfl⟩ := hw
        have hP : va_P V.1 vwCl [(z 24, aI V 10000 (fun _ => 0)), (z 25, aI V 40000 (upd (upd (upd (fun _ => 0) 1 (-1)) 2 (-1)) 3 (-1))), (z 28, aZ V 10000 (upd (fun _ => 0) 0 1)), (z 30, aJ V 10000 (vp_updL (fun _ => 0) 0 1000000)), (z 31, aJ V 10000 (fun _ => 0)), (z 0, .inr (10, mo z 0 0 0 0 0 0 0 0 0 0 (-1) 0 0 0 0 1)), (z 1, aI V 3075 (fun _ => 0))] H := hP
        have hD : va_D A [(z 24, aI V 10000 (fun _ => 0)), (z 25, aI V 40000 (upd (upd (upd (fun _ => 0) 1 (-1)) 2 (-1)) 3 (-1))), (z 28, aZ V 10000 (upd (fun _ => 0) 0 1)), (z 30, aJ V 10000 (vp_updL (fun _ => 0) 0 1000000)), (z 31, aJ V 10000 (fun _ => 0)), (z 0, .inr (10, mo z 0 0 0 0 0 0 0 0 0 0 (-1) 0 0 0 0 1)), (z 1, aI V 3075 (fun _ => 0))] := hD
        refine lv_i2l (v := 0) hx hb dX10_mean_76 (by decide +kernel) ?_
        refine lv_lmul hx hb dX10_mean_77 ?_
        refine tpl (y := 0) (by decide +kernel) ?_
        refine lv_ladd hx hb dX10_mean_78 ?_
        refine tpl (y := 0) (by decide +kernel) ?_
        refine lv_lstore_n (lv' := [(3, .long 0), (5, .int 0), (0, .ref (z 0)), (1, .int 6), (2, .int p1)]) hx hb dX10_mean_79 rfl hl (by decide) rfl (fun ls hl => ?_)
        refine lv_iinc (v := 1) (lv' := [(5, .int 1), (3, .long 0), (0, .ref (z 0)), (1, .int 6), (2, .int p1)]) hx hb dX10_mean_80 hl (k := 1) rfl (by decide +kernel) (by decide) rfl (fun ls hl => ?_)
        refine lv_goto (tgt := 43) hx hb dX10_mean_83 (by decide) ?_
        refine lv_iload hx hb dX10_mean_43 (lv_at hl 0 rfl) ?_
        refine lv_aload_n hx hb dX10_mean_45 rfl (lv_at hl 2 rfl) ?_
        refine va_get (ci := 10) (v := .int 1) (C := RX10) (T := TX10) (N := 40) hx hb hg inX10 hown hK hP 5 rfl rfl 29 (by decide) (hg _ q_6_13) (fun _ h9 => h9) rfl dX10_mean_46 ?_
        refine lv_icmp_ge (tgt := 86) hx hb dX10_mean_49 (by decide) (fun _ => ?_) (fun c_64 => absurd c_64 (by decide))
        refine lv_lload_n hx hb dX10_mean_86 rfl (lv_at hl 1 rfl) ?_
        refine lv_iload_n hx hb dX10_mean_87 rfl (lv_at hl 3 rfl) ?_
        refine jnL (wr := [(z 24, aI V 10000 (fun _ => 0)), (z 25, aI V 40000 (upd (upd (upd (fun _ => 0) 1 (-1)) 2 (-1)) 3 (-1))), (z 28, aZ V 10000 (upd (fun _ => 0) 0 1)), (z 30, aJ V 10000 (vp_updL (fun _ => 0) 0 1000000)), (z 31, aJ V 10000 (fun _ => 0)), (z 0, .inr (10, mo z 0 0 0 0 0 0 0 0 0 0 (-1) 0 0 0 0 1)), (z 1, aI V 3075 (fun _ => 0))]) (rnS (rest := [.long 0]) ⟨hx, hb, hml, hown, hg⟩ (c_X10_wholeOf_6 l V) mt_X10_wholeOf q_8_118 ⟨Nat.le_of_ble_eq_true rfl, Nat.le_of_ble_eq_true rfl⟩ hK hP hD hS hA hE [] rfl rfl rfl hl.1 rfl (Nat.le_of_ble_eq_true rfl) dX10_mean_88 ⟨Nat.le_of_ble_eq_true rfl, Nat.le_of_ble_eq_true rfl⟩) hP hD hS hA [] [0, 1, 2, 3, 4, 5, 6] rfl rfl rfl (by decide) (fun r_65 w H locs hw hP hD hS => ?_)
        obtain ⟨rfl, rfl⟩ := hw
        have hP : va_P V.1 vwCl [(z 24, aI V 10000 (fun _ => 0)), (z 25, aI V 40000 (upd (upd (upd (fun _ => 0) 1 (-1)) 2 (-1)) 3 (-1))), (z 28, aZ V 10000 (upd (fun _ => 0) 0 1)), (z 30, aJ V 10000 (vp_updL (fun _ => 0) 0 1000000)), (z 31, aJ V 10000 (fun _ => 0)), (z 0, .inr (10, mo z 0 0 0 0 0 0 0 0 0 0 (-1) 0 0 0 0 1)), (z 1, aI V 3075 (fun _ => 0))] H := hP
        have hD : va_D A [(z 24, aI V 10000 (fun _ => 0)), (z 25, aI V 40000 (upd (upd (upd (fun _ => 0) 1 (-1)) 2 (-1)) 3 (-1))), (z 28, aZ V 10000 (upd (fun _ => 0) 0 1)), (z 30, aJ V 10000 (vp_updL (fun _ => 0) 0 1000000)), (z 31, aJ V 10000 (fun _ => 0)), (z 0, .inr (10, mo z 0 0 0 0 0 0 0 0 0 0 (-1) 0 0 0 0 1)), (z 1, aI V 3075 (fun _ => 0))] := hD
        refine lv_iload_n hx hb dX10_mean_91 rfl (lv_at hl 4 rfl) ?_
        refine jnI (wr := [(z 24, aI V 10000 (fun _ => 0)), (z 25, aI V 40000 (upd (upd (upd (fun _ => 0) 1 (-1)) 2 (-1)) 3 (-1))), (z 28, aZ V 10000 (upd (fun _ => 0) 0 1)), (z 30, aJ V 10000 (vp_updL (fun _ => 0) 0 1000000)), (z 31, aJ V 10000 (fun _ => 0)), (z 0, .inr (10, mo z 0 0 0 0 0 0 0 0 0 0 (-1) 0 0 0 0 1)), (z 1, aI V 3075 (fun _ => 0))]) (rnS (rest := []) ⟨hx, hb, hml, hown, hg⟩ (c_X10_part_6 l V p1) mt_X10_part q_8_121 ⟨Nat.le_of_ble_eq_true rfl, Nat.le_of_ble_eq_true rfl⟩ hK hP hD hS hA hE [] rfl rfl rfl hl.1 rfl (Nat.le_of_ble_eq_true rfl) dX10_mean_92 ⟨Nat.le_of_ble_eq_true rfl, Nat.le_of_ble_eq_true rfl⟩) hP hD hS hA [] [0, 1, 2, 3, 4, 5, 6] rfl rfl rfl (by decide) (fun r_66 w H locs hw hP hD hS => ?_)
        rcases hw with ⟨c_67, rfl, rfl⟩ | ⟨c_68, rfl, rfl⟩
        · have hP : va_P V.1 vwCl [(z 24, aI V 10000 (fun _ => 0)), (z 25, aI V 40000 (upd (upd (upd (fun _ => 0) 1 (-1)) 2 (-1)) 3 (-1))), (z 28, aZ V 10000 (upd (fun _ => 0) 0 1)), (z 30, aJ V 10000 (vp_updL (fun _ => 0) 0 1000000)), (z 31, aJ V 10000 (fun _ => 0)), (z 0, .inr (10, mo z 0 0 0 0 0 0 0 0 0 0 (-1) 0 0 0 0 1)), (z 1, aI V 3075 (fun _ => 0))] H := hP
          have hD : va_D A [(z 24, aI V 10000 (fun _ => 0)), (z 25, aI V 40000 (upd (upd (upd (fun _ => 0) 1 (-1)) 2 (-1)) 3 (-1))), (z 28, aZ V 10000 (upd (fun _ => 0) 0 1)), (z 30, aJ V 10000 (vp_updL (fun _ => 0) 0 1000000)), (z 31, aJ V 10000 (fun _ => 0)), (z 0, .inr (10, mo z 0 0 0 0 0 0 0 0 0 0 (-1) 0 0 0 0 1)), (z 1, aI V 3075 (fun _ => 0))] := hD
          have hP := subP (ws' := [(z 0, .inr (10, mo z 0 0 0 0 0 0 0 0 0 0 (-1) 0 0 0 0 1)), (z 24, aI V 10000 (fun _ => 0)), (z 25, aI V 40000 (upd (upd (upd (fun _ => 0) 1 (-1)) 2 (-1)) 3 (-1))), (z 28, aZ V 10000 (upd (fun _ => 0) 0 1)), (z 30, aJ V 10000 (vp_updL (fun _ => 0) 0 1000000)), (z 31, aJ V 10000 (fun _ => 0)), (z 1, aI V 3075 (fun _ => 0))]) hP [5, 0, 1, 2, 3, 4, 6] rfl
          have hD := hD.sub (ws' := [(z 0, .inr (10, mo z 0 0 0 0 0 0 0 0 0 0 (-1) 0 0 0 0 1)), (z 24, aI V 10000 (fun _ => 0)), (z 25, aI V 40000 (upd (upd (upd (fun _ => 0) 1 (-1)) 2 (-1)) 3 (-1))), (z 28, aZ V 10000 (upd (fun _ => 0) 0 1)), (z 30, aJ V 10000 (vp_updL (fun _ => 0) 0 1000000)), (z 31, aJ V 10000 (fun _ => 0)), (z 1, aI V 3075 (fun _ => 0))]) [5, 0, 1, 2, 3, 4, 6] rfl rfl
          exact fiI hx hb hr hlk hK hP hD hS dX10_mean_95 (Nat.le_of_ble_eq_true rfl) (Nat.le_of_ble_eq_true rfl) (Or.inr (Or.inr (Or.inr (Or.inr (Or.inr (Or.inr (Or.inr (Or.inr (Or.inr (Or.inr (Or.inr (Or.inr (Or.inr (Or.inr (Or.inr (Or.inr (Or.inl ⟨c_5, c_6, c_14, c_15, rfl, c_67, rfl, rfl⟩)))))))))))))))))
        · have hP : va_P V.1 vwCl [(z 24, aI V 10000 (fun _ => 0)), (z 25, aI V 40000 (upd (upd (upd (fun _ => 0) 1 (-1)) 2 (-1)) 3 (-1))), (z 28, aZ V 10000 (upd (fun _ => 0) 0 1)), (z 30, aJ V 10000 (vp_updL (fun _ => 0) 0 1000000)), (z 31, aJ V 10000 (fun _ => 0)), (z 0, .inr (10, mo z 0 0 0 0 0 0 0 0 0 0 (-1) 0 0 0 0 1)), (z 1, aI V 3075 (fun _ => 0))] H := hP
          have hD : va_D A [(z 24, aI V 10000 (fun _ => 0)), (z 25, aI V 40000 (upd (upd (upd (fun _ => 0) 1 (-1)) 2 (-1)) 3 (-1))), (z 28, aZ V 10000 (upd (fun _ => 0) 0 1)), (z 30, aJ V 10000 (vp_updL (fun _ => 0) 0 1000000)), (z 31, aJ V 10000 (fun _ => 0)), (z 0, .inr (10, mo z 0 0 0 0 0 0 0 0 0 0 (-1) 0 0 0 0 1)), (z 1, aI V 3075 (fun _ => 0))] := hD
          have hP := subP (ws' := [(z 0, .inr (10, mo z 0 0 0 0 0 0 0 0 0 0 (-1) 0 0 0 0 1)), (z 24, aI V 10000 (fun _ => 0)), (z 25, aI V 40000 (upd (upd (upd (fun _ => 0) 1 (-1)) 2 (-1)) 3 (-1))), (z 28, aZ V 10000 (upd (fun _ => 0) 0 1)), (z 30, aJ V 10000 (vp_updL (fun _ => 0) 0 1000000)), (z 31, aJ V 10000 (fun _ => 0)), (z 1, aI V 3075 (fun _ => 0))]) hP [5, 0, 1, 2, 3, 4, 6] rfl
          have hD := hD.sub (ws' := [(z 0, .inr (10, mo z 0 0 0 0 0 0 0 0 0 0 (-1) 0 0 0 0 1)), (z 24, aI V 10000 (fun _ => 0)), (z 25, aI V 40000 (upd (upd (upd (fun _ => 0) 1 (-1)) 2 (-1)) 3 (-1))), (z 28, aZ V 10000 (upd (fun _ => 0) 0 1)), (z 30, aJ V 10000 (vp_updL (fun _ => 0) 0 1000000)), (z 31, aJ V 10000 (fun _ => 0)), (z 1, aI V 3075 (fun _ => 0))]) [5, 0, 1, 2, 3, 4, 6] rfl rfl
          exact fiI hx hb hr hlk hK hP hD hS dX10_mean_95 (Nat.le_of_ble_eq_true rfl) (Nat.le_of_ble_eq_true rfl) (Or.inr (Or.inr (Or.inr (Or.inr (Or.inr (Or.inr (Or.inr (Or.inr (Or.inr (Or.inr (Or.inr (Or.inr (Or.inr (Or.inr (Or.inr (Or.inr (Or.inr (Or.inl ⟨c_5, c_6, c_14, c_15, rfl, c_68, rfl, rfl⟩))))))))))))))))))
      · refine lv_aload_n hx hb dX10_mean_33 rfl (lv_at hl 0 rfl) ?_
        refine lv_iload_n hx hb dX10_mean_34 rfl (lv_at hl 1 rfl) ?_
        refine jnV (wr := []) (rnV (rest := []) ⟨hx, hb, hml, hown, hg⟩ (c_X10_laysLikely_7 l V z) mt_X10_laysLikely q_8_114 ⟨Nat.le_of_ble_eq_true rfl, Nat.le_of_ble_eq_true rfl⟩ hK hP hD hS hA hE [0, 1, 2, 3, 4, 5, 6] rfl rfl 0 rfl rfl rfl rfl hl.1 rfl (Nat.le_of_ble_eq_true rfl) dX10_mean_35 ⟨Nat.le_of_ble_eq_true rfl, Nat.le_of_ble_eq_true rfl⟩) hP hD hS hA [0, 1, 2, 3, 4, 5, 6] [] rfl rfl rfl (by decide) (fun  w H locs hw hP hD hS => ?_)
        subst hw
        have hP : va_P V.1 vwCl [(z 0, .inr (10, mo z 0 0 0 0 0 0 0 0 0 0 (-1) 0 0 0 0 1)), (z 24, aI V 10000 (fun _ => 0)), (z 25, aI V 40000 (upd (upd (upd (fun _ => 0) 1 (-1)) 2 (-1)) 3 (-1))), (z 28, aZ V 10000 (upd (fun _ => 0) 0 1)), (z 30, aJ V 10000 (vp_updL (fun _ => 0) 0 10000000)), (z 31, aJ V 10000 (fun _ => 0)), (z 1, aI V 3075 (fun _ => 0))] H := hP
        have hD : va_D A [(z 0, .inr (10, mo z 0 0 0 0 0 0 0 0 0 0 (-1) 0 0 0 0 1)), (z 24, aI V 10000 (fun _ => 0)), (z 25, aI V 40000 (upd (upd (upd (fun _ => 0) 1 (-1)) 2 (-1)) 3 (-1))), (z 28, aZ V 10000 (upd (fun _ => 0) 0 1)), (z 30, aJ V 10000 (vp_updL (fun _ => 0) 0 10000000)), (z 31, aJ V 10000 (fun _ => 0)), (z 1, aI V 3075 (fun _ => 0))] := hD
        refine lv_lconst (v := 0) hx hb dX10_mean_38 (by decide) ?_
        refine lv_lstore_n (lv' := [(3, .long 0), (0, .ref (z 0)), (1, .int 7), (2, .int p1)]) hx hb dX10_mean_39 rfl hl (by decide) rfl (fun ls hl => ?_)
        refine lv_iconst (v := 0) hx hb dX10_mean_40 (by decide) ?_
        refine lv_istore (lv' := [(5, .int 0), (3, .long 0), (0, .ref (z 0)), (1, .int 7), (2, .int p1)]) hx hb dX10_mean_41 hl (by decide) rfl (fun ls hl => ?_)
        refine lv_iload hx hb dX10_mean_43 (lv_at hl 0 rfl) ?_
        refine lv_aload_n hx hb dX10_mean_45 rfl (lv_at hl 2 rfl) ?_
        refine va_get (ci := 10) (v := .int 1) (C := RX10) (T := TX10) (N := 40) hx hb hg inX10 hown hK hP 0 rfl rfl 29 (by decide) (hg _ q_6_13) (fun _ h9 => h9) rfl dX10_mean_46 ?_
        refine lv_icmp_ge (tgt := 86) hx hb dX10_mean_49 (by decide) (fun c_69 => absurd c_69 (by decide)) (fun _ => ?_)
        refine lv_lload_n hx hb dX10_mean_52 rfl (lv_at hl 1 rfl) ?_
        refine lv_aload_n hx hb dX10_mean_53 rfl (lv_at hl 2 rfl) ?_
        refine va_get (ci := 10) (v := .ref (z 30)) (C := RX10) (T := TX10) (N := 40) hx hb hg inX10 hown hK hP 0 rfl rfl 30 (by decide) (hg _ q_6_14) (fun _ h9 => h9) rfl dX10_mean_54 ?_
        refine lv_aload_n hx hb dX10_mean_57 rfl (lv_at hl 2 rfl) ?_
        refine va_get (ci := 10) (v := .ref (z 24)) (C := RX10) (T := TX10) (N := 40) hx hb hg inX10 hown hK hP 0 rfl rfl 24 (by decide) (hg _ q_6_8) (fun _ h9 => h9) rfl dX10_mean_58 ?_
        refine lv_iload hx hb dX10_mean_61 (lv_at hl 0 rfl) ?_
        refine va_iald hx hb hK hP 1 0 rfl rfl (vin (by decide +kernel)) dX10_mean_63 ?_
        refine tpi (y := 0) (rfl) ?_
        refine va_lald hx hb hK hP 4 2 rfl rfl (vin (by decide +kernel)) dX10_mean_64 ?_
        refine tpl (y := 10000000) (rfl) ?_
        refine lv_aload_n hx hb dX10_mean_65 rfl (lv_at hl 2 rfl) ?_
        refine lv_aload_n hx hb dX10_mean_66 rfl (lv_at hl 2 rfl) ?_
        refine va_get (ci := 10) (v := .ref (z 24)) (C := RX10) (T := TX10) (N := 40) hx hb hg inX10 hown hK hP 0 rfl rfl 24 (by decide) (hg _ q_6_8) (fun _ h9 => h9) rfl dX10_mean_67 ?_
        refine lv_iload hx hb dX10_mean_70 (lv_at hl 0 rfl) ?_
        refine va_iald hx hb hK hP 1 0 rfl rfl (vin (by decide +kernel)) dX10_mean_72 ?_
        refine tpi (y := 0) (rfl) ?_
        refine jnI (wr := [(z 24, aI V 10000 (fun _ => 0)), (z 25, aI V 40000 (upd (upd (upd (fun _ => 0) 1 (-1)) 2 (-1)) 3 (-1))), (z 28, aZ V 10000 (upd (fun _ => 0) 0 1)), (z 30, aJ V 10000 (vp_updL (fun _ => 0) 0 10000000)), (z 31, aJ V 10000 (fun _ => 0))]) (rnV (rest := [.long 10000000, .long 0]) ⟨hx, hb, hml, hown, hg⟩ (c_X10_sumIn_0 l V z) mt_X10_sumIn q_7_131 ⟨Nat.le_of_ble_eq_true rfl, Nat.le_of_ble_eq_true rfl⟩ hK hP hD hS hA hE [0, 6] rfl rfl 0 rfl rfl rfl rfl hl.1 rfl (Nat.le_of_ble_eq_true rfl) dX10_mean_73 ⟨Nat.le_of_ble_eq_true rfl, Nat.le_of_ble_eq_true rfl⟩) hP hD hS hA [0, 6] [1, 2, 3, 4, 5] rfl rfl rfl (by decide) (fun r_70 w H locs hw hP hD hS => ?_)
        obtain ⟨rfl, rfl⟩ := hw
        have hP : va_P V.1 vwCl [(z 24, aI V 10000 (fun _ => 0)), (z 25, aI V 40000 (upd (upd (upd (fun _ => 0) 1 (-1)) 2 (-1)) 3 (-1))), (z 28, aZ V 10000 (upd (fun _ => 0) 0 1)), (z 30, aJ V 10000 (vp_updL (fun _ => 0) 0 10000000)), (z 31, aJ V 10000 (fun _ => 0)), (z 0, .inr (10, mo z 0 0 0 0 0 0 0 0 0 0 (-1) 0 0 0 0 1)), (z 1, aI V 3075 (fun _ => 0))] H := hP
        have hD : va_D A [(z 24, aI V 10000 (fun _ => 0)), (z 25, aI V 40000 (upd (upd (upd (fun _ => 0) 1 (-1)) 2 (-1)) 3 (-1))), (z 28, aZ V 10000 (upd (fun _ => 0) 0 1)), (z 30, aJ V 10000 (vp_updL (fun _ => 0) 0 10000000)), (z 31, aJ V 10000 (fun _ => 0)), (z 0, .inr (10, mo z 0 0 0 0 0 0 0 0 0 0 (-1) 0 0 0 0 1)), (z 1, aI V 3075 (fun _ => 0))] := hD
        refine lv_i2l (v := 0) hx hb dX10_mean_76 (by decide +kernel) ?_
        refine lv_lmul hx hb dX10_mean_77 ?_
        refine tpl (y := 0) (by decide +kernel) ?_
        refine lv_ladd hx hb dX10_mean_78 ?_
        refine tpl (y := 0) (by decide +kernel) ?_
        refine lv_lstore_n (lv' := [(3, .long 0), (5, .int 0), (0, .ref (z 0)), (1, .int 7), (2, .int p1)]) hx hb dX10_mean_79 rfl hl (by decide) rfl (fun ls hl => ?_)
        refine lv_iinc (v := 1) (lv' := [(5, .int 1), (3, .long 0), (0, .ref (z 0)), (1, .int 7), (2, .int p1)]) hx hb dX10_mean_80 hl (k := 1) rfl (by decide +kernel) (by decide) rfl (fun ls hl => ?_)
        refine lv_goto (tgt := 43) hx hb dX10_mean_83 (by decide) ?_
        refine lv_iload hx hb dX10_mean_43 (lv_at hl 0 rfl) ?_
        refine lv_aload_n hx hb dX10_mean_45 rfl (lv_at hl 2 rfl) ?_
        refine va_get (ci := 10) (v := .int 1) (C := RX10) (T := TX10) (N := 40) hx hb hg inX10 hown hK hP 5 rfl rfl 29 (by decide) (hg _ q_6_13) (fun _ h9 => h9) rfl dX10_mean_46 ?_
        refine lv_icmp_ge (tgt := 86) hx hb dX10_mean_49 (by decide) (fun _ => ?_) (fun c_71 => absurd c_71 (by decide))
        refine lv_lload_n hx hb dX10_mean_86 rfl (lv_at hl 1 rfl) ?_
        refine lv_iload_n hx hb dX10_mean_87 rfl (lv_at hl 3 rfl) ?_
        refine jnL (wr := [(z 24, aI V 10000 (fun _ => 0)), (z 25, aI V 40000 (upd (upd (upd (fun _ => 0) 1 (-1)) 2 (-1)) 3 (-1))), (z 28, aZ V 10000 (upd (fun _ => 0) 0 1)), (z 30, aJ V 10000 (vp_updL (fun _ => 0) 0 10000000)), (z 31, aJ V 10000 (fun _ => 0)), (z 0, .inr (10, mo z 0 0 0 0 0 0 0 0 0 0 (-1) 0 0 0 0 1)), (z 1, aI V 3075 (fun _ => 0))]) (rnS (rest := [.long 0]) ⟨hx, hb, hml, hown, hg⟩ (c_X10_wholeOf_7 l V) mt_X10_wholeOf q_8_118 ⟨Nat.le_of_ble_eq_true rfl, Nat.le_of_ble_eq_true rfl⟩ hK hP hD hS hA hE [] rfl rfl rfl hl.1 rfl (Nat.le_of_ble_eq_true rfl) dX10_mean_88 ⟨Nat.le_of_ble_eq_true rfl, Nat.le_of_ble_eq_true rfl⟩) hP hD hS hA [] [0, 1, 2, 3, 4, 5, 6] rfl rfl rfl (by decide) (fun r_72 w H locs hw hP hD hS => ?_)
        obtain ⟨rfl, rfl⟩ := hw
        have hP : va_P V.1 vwCl [(z 24, aI V 10000 (fun _ => 0)), (z 25, aI V 40000 (upd (upd (upd (fun _ => 0) 1 (-1)) 2 (-1)) 3 (-1))), (z 28, aZ V 10000 (upd (fun _ => 0) 0 1)), (z 30, aJ V 10000 (vp_updL (fun _ => 0) 0 10000000)), (z 31, aJ V 10000 (fun _ => 0)), (z 0, .inr (10, mo z 0 0 0 0 0 0 0 0 0 0 (-1) 0 0 0 0 1)), (z 1, aI V 3075 (fun _ => 0))] H := hP
        have hD : va_D A [(z 24, aI V 10000 (fun _ => 0)), (z 25, aI V 40000 (upd (upd (upd (fun _ => 0) 1 (-1)) 2 (-1)) 3 (-1))), (z 28, aZ V 10000 (upd (fun _ => 0) 0 1)), (z 30, aJ V 10000 (vp_updL (fun _ => 0) 0 10000000)), (z 31, aJ V 10000 (fun _ => 0)), (z 0, .inr (10, mo z 0 0 0 0 0 0 0 0 0 0 (-1) 0 0 0 0 1)), (z 1, aI V 3075 (fun _ => 0))] := hD
        refine lv_iload_n hx hb dX10_mean_91 rfl (lv_at hl 4 rfl) ?_
        refine jnI (wr := [(z 24, aI V 10000 (fun _ => 0)), (z 25, aI V 40000 (upd (upd (upd (fun _ => 0) 1 (-1)) 2 (-1)) 3 (-1))), (z 28, aZ V 10000 (upd (fun _ => 0) 0 1)), (z 30, aJ V 10000 (vp_updL (fun _ => 0) 0 10000000)), (z 31, aJ V 10000 (fun _ => 0)), (z 0, .inr (10, mo z 0 0 0 0 0 0 0 0 0 0 (-1) 0 0 0 0 1)), (z 1, aI V 3075 (fun _ => 0))]) (rnS (rest := []) ⟨hx, hb, hml, hown, hg⟩ (c_X10_part_7 l V p1) mt_X10_part q_8_121 ⟨Nat.le_of_ble_eq_true rfl, Nat.le_of_ble_eq_true rfl⟩ hK hP hD hS hA hE [] rfl rfl rfl hl.1 rfl (Nat.le_of_ble_eq_true rfl) dX10_mean_92 ⟨Nat.le_of_ble_eq_true rfl, Nat.le_of_ble_eq_true rfl⟩) hP hD hS hA [] [0, 1, 2, 3, 4, 5, 6] rfl rfl rfl (by decide) (fun r_73 w H locs hw hP hD hS => ?_)
        rcases hw with ⟨c_74, rfl, rfl⟩ | ⟨c_75, rfl, rfl⟩
        · have hP : va_P V.1 vwCl [(z 24, aI V 10000 (fun _ => 0)), (z 25, aI V 40000 (upd (upd (upd (fun _ => 0) 1 (-1)) 2 (-1)) 3 (-1))), (z 28, aZ V 10000 (upd (fun _ => 0) 0 1)), (z 30, aJ V 10000 (vp_updL (fun _ => 0) 0 10000000)), (z 31, aJ V 10000 (fun _ => 0)), (z 0, .inr (10, mo z 0 0 0 0 0 0 0 0 0 0 (-1) 0 0 0 0 1)), (z 1, aI V 3075 (fun _ => 0))] H := hP
          have hD : va_D A [(z 24, aI V 10000 (fun _ => 0)), (z 25, aI V 40000 (upd (upd (upd (fun _ => 0) 1 (-1)) 2 (-1)) 3 (-1))), (z 28, aZ V 10000 (upd (fun _ => 0) 0 1)), (z 30, aJ V 10000 (vp_updL (fun _ => 0) 0 10000000)), (z 31, aJ V 10000 (fun _ => 0)), (z 0, .inr (10, mo z 0 0 0 0 0 0 0 0 0 0 (-1) 0 0 0 0 1)), (z 1, aI V 3075 (fun _ => 0))] := hD
          have hP := subP (ws' := [(z 0, .inr (10, mo z 0 0 0 0 0 0 0 0 0 0 (-1) 0 0 0 0 1)), (z 24, aI V 10000 (fun _ => 0)), (z 25, aI V 40000 (upd (upd (upd (fun _ => 0) 1 (-1)) 2 (-1)) 3 (-1))), (z 28, aZ V 10000 (upd (fun _ => 0) 0 1)), (z 30, aJ V 10000 (vp_updL (fun _ => 0) 0 10000000)), (z 31, aJ V 10000 (fun _ => 0)), (z 1, aI V 3075 (fun _ => 0))]) hP [5, 0, 1, 2, 3, 4, 6] rfl
          have hD := hD.sub (ws' := [(z 0, .inr (10, mo z 0 0 0 0 0 0 0 0 0 0 (-1) 0 0 0 0 1)), (z 24, aI V 10000 (fun _ => 0)), (z 25, aI V 40000 (upd (upd (upd (fun _ => 0) 1 (-1)) 2 (-1)) 3 (-1))), (z 28, aZ V 10000 (upd (fun _ => 0) 0 1)), (z 30, aJ V 10000 (vp_updL (fun _ => 0) 0 10000000)), (z 31, aJ V 10000 (fun _ => 0)), (z 1, aI V 3075 (fun _ => 0))]) [5, 0, 1, 2, 3, 4, 6] rfl rfl
          exact fiI hx hb hr hlk hK hP hD hS dX10_mean_95 (Nat.le_of_ble_eq_true rfl) (Nat.le_of_ble_eq_true rfl) (Or.inr (Or.inr (Or.inr (Or.inr (Or.inr (Or.inr (Or.inr (Or.inr (Or.inr (Or.inr (Or.inr (Or.inr (Or.inr (Or.inr (Or.inr (Or.inr (Or.inr (Or.inr (Or.inl ⟨c_5, c_6, c_14, c_15, rfl, c_74, rfl, rfl⟩)))))))))))))))))))
        · have hP : va_P V.1 vwCl [(z 24, aI V 10000 (fun _ => 0)), (z 25, aI V 40000 (upd (upd (upd (fun _ => 0) 1 (-1)) 2 (-1)) 3 (-1))), (z 28, aZ V 10000 (upd (fun _ => 0) 0 1)), (z 30, aJ V 10000 (vp_updL (fun _ => 0) 0 10000000)), (z 31, aJ V 10000 (fun _ => 0)), (z 0, .inr (10, mo z 0 0 0 0 0 0 0 0 0 0 (-1) 0 0 0 0 1)), (z 1, aI V 3075 (fun _ => 0))] H := hP
          have hD : va_D A [(z 24, aI V 10000 (fun _ => 0)), (z 25, aI V 40000 (upd (upd (upd (fun _ => 0) 1 (-1)) 2 (-1)) 3 (-1))), (z 28, aZ V 10000 (upd (fun _ => 0) 0 1)), (z 30, aJ V 10000 (vp_updL (fun _ => 0) 0 10000000)), (z 31, aJ V 10000 (fun _ => 0)), (z 0, .inr (10, mo z 0 0 0 0 0 0 0 0 0 0 (-1) 0 0 0 0 1)), (z 1, aI V 3075 (fun _ => 0))] := hD
          have hP := subP (ws' := [(z 0, .inr (10, mo z 0 0 0 0 0 0 0 0 0 0 (-1) 0 0 0 0 1)), (z 24, aI V 10000 (fun _ => 0)), (z 25, aI V 40000 (upd (upd (upd (fun _ => 0) 1 (-1)) 2 (-1)) 3 (-1))), (z 28, aZ V 10000 (upd (fun _ => 0) 0 1)), (z 30, aJ V 10000 (vp_updL (fun _ => 0) 0 10000000)), (z 31, aJ V 10000 (fun _ => 0)), (z 1, aI V 3075 (fun _ => 0))]) hP [5, 0, 1, 2, 3, 4, 6] rfl
          have hD := hD.sub (ws' := [(z 0, .inr (10, mo z 0 0 0 0 0 0 0 0 0 0 (-1) 0 0 0 0 1)), (z 24, aI V 10000 (fun _ => 0)), (z 25, aI V 40000 (upd (upd (upd (fun _ => 0) 1 (-1)) 2 (-1)) 3 (-1))), (z 28, aZ V 10000 (upd (fun _ => 0) 0 1)), (z 30, aJ V 10000 (vp_updL (fun _ => 0) 0 10000000)), (z 31, aJ V 10000 (fun _ => 0)), (z 1, aI V 3075 (fun _ => 0))]) [5, 0, 1, 2, 3, 4, 6] rfl rfl
          exact fiI hx hb hr hlk hK hP hD hS dX10_mean_95 (Nat.le_of_ble_eq_true rfl) (Nat.le_of_ble_eq_true rfl) (Or.inr (Or.inr (Or.inr (Or.inr (Or.inr (Or.inr (Or.inr (Or.inr (Or.inr (Or.inr (Or.inr (Or.inr (Or.inr (Or.inr (Or.inr (Or.inr (Or.inr (Or.inr (Or.inr (⟨c_5, c_6, c_14, c_15, rfl, c_75, rfl, rfl⟩))))))))))))))))))))
