theorem q_1_21 : Cond.classLink "BeaconDelayLaw" 7 "BeaconDelay" ∈ gw := gw_1 (i := 21) (by decide +kernel) rfl
theorem dL_law_0 : decode cL_law 0 = .ok (.new 7, 3) := by decide +kernel
theorem dL_law_3 : decode cL_law 3 = .ok (.dup, 1) := by decide +kernel
theorem q_1_25 : Cond.code yX9_init prog_1_method_1_code 2 none ∈ gw := gw_1 (i := 25) (rfl) rfl
theorem q_1_24 : Cond.instanceMethod yX9_init ∈ gw := gw_1 (i := 24) (by decide +kernel) rfl
theorem mt_X9_init : MtI yX9_init cX9_init 2 none 0 := ⟨⟨q_1_25, q_1_1, by decide +kernel, by decide +kernel, by decide +kernel⟩, rfl, q_1_24⟩
theorem q_1_23 : Cond.methodLink "BeaconDelayLaw" 9 yX9_init ∈ gw := gw_1 (i := 23) (by decide +kernel) rfl
theorem dL_law_4 : decode cL_law 4 = .ok (.invokespecial 9, 3) := by decide +kernel
theorem dL_law_7 : decode cL_law 7 = .ok (.astore_n 1, 1) := by decide +kernel
theorem q_5_213 : Cond.classLink "BeaconDelayLaw" 10 "BeaconDelayModel" ∈ gw := gw_5 (i := 213) (by decide +kernel) rfl
theorem dL_law_8 : decode cL_law 8 = .ok (.new 10, 3) := by decide +kernel
theorem dL_law_11 : decode cL_law 11 = .ok (.dup, 1) := by decide +kernel
theorem q_5_217 : Cond.code yX10_init prog_12_method_3_code 1 none ∈ gw := gw_5 (i := 217) (rfl) rfl
theorem q_5_216 : Cond.instanceMethod yX10_init ∈ gw := gw_5 (i := 216) (by decide +kernel) rfl
theorem mt_X10_init : MtI yX10_init cX10_init 1 none 0 := ⟨⟨q_5_217, q_1_9, by decide +kernel, by decide +kernel, by decide +kernel⟩, rfl, q_5_216⟩
theorem q_5_215 : Cond.methodLink "BeaconDelayLaw" 12 yX10_init ∈ gw := gw_5 (i := 215) (by decide +kernel) rfl
theorem dL_law_12 : decode cL_law 12 = .ok (.invokespecial 12, 3) := by decide +kernel
theorem dL_law_15 : decode cL_law 15 = .ok (.astore_n 2, 1) := by decide +kernel
theorem dL_law_16 : decode cL_law 16 = .ok (.iconst 0, 1) := by decide +kernel
theorem dL_law_17 : decode cL_law 17 = .ok (.istore_n 3, 1) := by decide +kernel
theorem dL_law_27 : decode cL_law 27 = .ok (.aload_n 0, 1) := by decide +kernel
theorem dL_law_28 : decode cL_law 28 = .ok (.iload_n 3, 1) := by decide +kernel
theorem dL_law_29 : decode cL_law 29 = .ok (.iaload, 1) := by decide +kernel
theorem dL_law_30 : decode cL_law 30 = .ok (.bipush 63, 2) := by decide +kernel
theorem dL_law_32 : decode cL_law 32 = .ok (.iand, 1) := by decide +kernel
theorem dL_law_33 : decode cL_law 33 = .ok (.tableswitch 1516 0 43 #[191, 254, 277, 300, 333, 356, 389, 422, 445, 468, 491, 514, 537, 570, 593, 626, 659, 682, 695, 708, 741, 784, 828, 851, 884, 897, 920, 933, 946, 959, 993, 1036, 1079, 1112, 1145, 1178, 1211, 1264, 1297, 1340, 1414, 1447, 1470, 1493], 191) := by decide +kernel
set_option maxHeartbeats 4000000 in
set_option maxRecDepth 100000 in
theorem whole_start {p : Program} {e : Env} {s : State} {m : MethodId} {below : List Frame} {meth : Method} {c : Code} (l : Launch) (hflags : l.flags = flags0) {b L : Nat} {xs : Nat → Int32} (hL : L ≤ 6) (C0 : lw_At p s m meth c b L xs) : W p l e room_1 s m #[Value.ref b] below meth c s.heap [] 0 0 (lw_Z below #[Value.ref b] s) (entryFrame m ([Value.ref b] : List Value).toArray 4) := by
  obtain ⟨hx, hb, hr, hml, hown, hts, hX, hbl, hlocks, hgv⟩ := id C0
  have hg : ∀ w ∈ gw, w.before #[Value.ref b] s = true := fun w h => hts w (gw_lw w h)
  obtain ⟨V, hK, hE⟩ := env_of hts hgv
  have hA : ∀ q : Nat, s.heap.size ≤ q → (fun q : Nat => s.heap.size ≤ q) q := fun _ h => h
  have hbA : ¬ (fun q : Nat => s.heap.size ≤ q) b := Nat.not_le.mpr hbl
  have hS : va_S (fun q : Nat => s.heap.size ≤ q) s.heap s.heap [] := va_S.rf
  have hP : va_P V.1 vwCl [] s.heap := fun k q h => by simp at h
  have hD : va_D (fun q : Nat => s.heap.size ≤ q) [] := ⟨fun i j p q h => by simp at h, fun k q h => by simp at h⟩
  have hl := lv_entry ([.ref b]) (n := 4) (Nat.le_of_ble_eq_true rfl)
  rw [lg_entry_eq]
  generalize (lg_sl ([.ref b]) ++ List.replicate (4 - (lg_sl ([.ref b])).length) Slot.unset).toArray = ls at hl ⊢
  have hl : lv_has ls 4 [(0, .ref b)] := hl
  refine va_new (ci := 9) (fs := [.null, .int 0, .null, .null, .null, .null, .null, .null, .null, .null, .null, .null, .int 0, .int 0, .int 0]) (C := RX9) (T := TX9) (N := 15) hx hb hg inX9 tyX9 tyX9_ok hown (hg _ q_1_21) (hg _ q_1_22) (hg _ q_1_1) hK hP hD hS hA rfl dfX9 (Nat.le_of_ble_eq_true rfl) (Nat.le_of_ble_eq_true rfl) dL_law_0 (fun q0 H hP hD hS => ?_)
  refine W.widen (k := 1) (n := 15) (Nat.le_of_ble_eq_true rfl) (Nat.le_of_ble_eq_true rfl) ?_
  have hP : va_P V.1 vwCl ([(q0, .inr (9, [.null, .int 0, .null, .null, .null, .null, .null, .null, .null, .null, .null, .null, .int 0, .int 0, .int 0]))]) H := hP
  have hD : va_D (fun q : Nat => s.heap.size ≤ q) ([(q0, .inr (9, [.null, .int 0, .null, .null, .null, .null, .null, .null, .null, .null, .null, .null, .int 0, .int 0, .int 0]))]) := hD
  refine lv_dup hx hb dL_law_3 rfl ?_
  refine jnV (wr := []) (rnI (rest := [.ref q0]) ⟨hx, hb, hml, hown, hg⟩ (c_X9_init_0 l V q0) mt_X9_init q_1_23 ⟨Nat.le_of_ble_eq_true rfl, Nat.le_of_ble_eq_true rfl⟩ hK hP hD hS hA hE [0] rfl rfl rfl hl.1 rfl (Nat.le_of_ble_eq_true rfl) dL_law_4 ⟨Nat.le_of_ble_eq_true rfl, Nat.le_of_ble_eq_true rfl⟩) hP hD hS hA [0] [] rfl rfl rfl (by decide) (fun w H locs hw hP hD hS => ?_)
  refine W.widen (k := 59) (n := 7070) (Nat.le_of_ble_eq_true rfl) (Nat.le_of_ble_eq_true rfl) ?_
  obtain ⟨y, ew, eq0⟩ : ∃ y : Nat → Nat, w = xW V y ∧ q0 = y 0 := by
    obtain ⟨q_1, q_2, q_3, q_4, q_5, q_6, q_7, q_8, q_9, q_10, q_11, q_12, q_13, q_14, q_15, q_16, q_17, q_18, q_19, q_20, q_21, q_22, q_23, q_24, q_25, q_26, q_27, q_28, q_29, q_30, q_31, q_32, q_34, q_35, q_37, q_38, q_40, q_41, q_43, q_44, q_47, q_48, q_49, q_50, q_51, q_52, q_53, q_54, q_55, q_57, q_58, q_59, q_60, q_61, q_62, q_63, q_64, q_65, ew⟩ := hw
    exact ⟨fun k => [q0, q_1, q_2, q_3, q_4, q_5, q_6, q_7, q_8, q_9, q_10, q_11, q_12, q_13, q_14, q_15, q_16, q_17, q_18, q_19, q_20, q_21, q_22, q_23, q_24, q_25, q_26, q_27, q_28, q_29, q_30, q_31, q_32, q_34, q_35, q_37, q_38, q_40, q_41, q_43, q_44, q_47, q_48, q_49, q_50, q_51, q_52, q_53, q_54, q_55, q_57, q_58, q_59, q_60, q_61, q_62, q_63, q_64, q_65].getD k 0, ew, rfl⟩
  subst ew
  rw [eq0]
  refine lv_astore_n (lv' := [(1, .ref (y 0)), (0, .ref b)]) hx hb dL_law_7 rfl hl (by decide) rfl (fun ls hl => ?_)
  have hP : va_P V.1 vwCl (xW V y) H := hP
  have hD : va_D (fun q : Nat => s.heap.size ≤ q) (xW V y) := hD
  refine va_new (ci := 10) (fs := [.int 0, .null, .null, .null, .null, .int 0, .int 0, .int 0, .int 0, .int 0, .int 0, .int 0, .int 0, .int 0, .int 0, .null, .null, .null, .int 0, .int 0, .null, .null, .int 0, .int 0, .null, .null, .null, .null, .null, .int 0, .null, .null, .null, .null, .null, .null, .null, .null, .null, .null]) (C := RX10) (T := TX10) (N := 40) hx hb hg inX10 tyX10 tyX10_ok hown (hg _ q_5_213) (hg _ q_5_214) (hg _ q_1_9) hK hP hD hS hA rfl dfX10 (Nat.le_of_ble_eq_true rfl) (Nat.le_of_ble_eq_true rfl) dL_law_8 (fun q1 H hP hD hS => ?_)
  refine W.widen (k := 60) (n := 7110) (Nat.le_of_ble_eq_true rfl) (Nat.le_of_ble_eq_true rfl) ?_
  have hP : va_P V.1 vwCl (xW V y ++ [(q1, .inr (10, [.int 0, .null, .null, .null, .null, .int 0, .int 0, .int 0, .int 0, .int 0, .int 0, .int 0, .int 0, .int 0, .int 0, .null, .null, .null, .int 0, .int 0, .null, .null, .int 0, .int 0, .null, .null, .null, .null, .null, .int 0, .null, .null, .null, .null, .null, .null, .null, .null, .null, .null]))]) H := hP
  have hD : va_D (fun q : Nat => s.heap.size ≤ q) (xW V y ++ [(q1, .inr (10, [.int 0, .null, .null, .null, .null, .int 0, .int 0, .int 0, .int 0, .int 0, .int 0, .int 0, .int 0, .int 0, .int 0, .null, .null, .null, .int 0, .int 0, .null, .null, .int 0, .int 0, .null, .null, .null, .null, .null, .int 0, .null, .null, .null, .null, .null, .null, .null, .null, .null, .null]))]) := hD
  refine lv_dup hx hb dL_law_11 rfl ?_
  refine jnV (wr := xW V y) (rnI (rest := [.ref q1]) ⟨hx, hb, hml, hown, hg⟩ (c_X10_init_0 l V q1) mt_X10_init q_5_215 ⟨Nat.le_of_ble_eq_true rfl, Nat.le_of_ble_eq_true rfl⟩ hK hP hD hS hA hE [59] rfl rfl rfl hl.1 rfl (Nat.le_of_ble_eq_true rfl) dL_law_12 ⟨Nat.le_of_ble_eq_true rfl, Nat.le_of_ble_eq_true rfl⟩) hP hD hS hA [59] [0, 1, 2, 3, 4, 5, 6, 7, 8, 9, 10, 11, 12, 13, 14, 15, 16, 17, 18, 19, 20, 21, 22, 23, 24, 25, 26, 27, 28, 29, 30, 31, 32, 33, 34, 35, 36, 37, 38, 39, 40, 41, 42, 43, 44, 45, 46, 47, 48, 49, 50, 51, 52, 53, 54, 55, 56, 57, 58] rfl rfl rfl (by decide) (fun w H locs hw hP hD hS => ?_)
  refine W.widen (k := 84) (n := 223324) (Nat.le_of_ble_eq_true rfl) (Nat.le_of_ble_eq_true rfl) ?_
  obtain ⟨z, ew, eq0⟩ : ∃ z : Nat → Nat, w = mW V z ∧ q1 = z 0 := by
    obtain ⟨q_1, q_2, q_3, q_4, q_5, q_6, q_7, q_8, q_9, q_10, q_11, q_12, q_13, q_14, q_15, q_16, q_17, q_18, q_19, q_20, q_21, q_22, q_23, q_24, ew⟩ := hw
    exact ⟨fun k => [q1, q_1, q_2, q_3, q_4, 0, 0, 0, 0, 0, 0, 0, 0, 0, 0, q_5, q_6, q_7, 0, 0, q_8, q_9, 0, 0, q_10, q_11, q_12, q_13, q_14, 0, q_15, q_16, q_17, q_18, q_19, q_20, q_21, q_22, q_23, q_24].getD k 0, ew, rfl⟩
  subst ew
  rw [eq0]
  refine lv_astore_n (lv' := [(2, .ref (z 0)), (1, .ref (y 0)), (0, .ref b)]) hx hb dL_law_15 rfl hl (by decide) rfl (fun ls hl => ?_)
  refine lv_iconst (v := 0) hx hb dL_law_16 (by decide) ?_
  refine lv_istore_n (lv' := [(3, .int 0), (2, .ref (z 0)), (1, .ref (y 0)), (0, .ref b)]) hx hb dL_law_17 rfl hl (by decide) rfl (fun ls hl => ?_)
  refine lv_iload_n hx hb dL_law_18 rfl (lv_at hl 0 rfl) ?_
  refine lv_aload_n hx hb dL_law_19 rfl (lv_at hl 3 rfl) ?_
  refine va_slen hx hb hX hbl hbA hS dL_law_20 ?_
  refine lv_bipush (v := 6) hx hb dL_law_21 (by decide) ?_
  refine lv_isub hx hb dL_law_23 ?_
  rcases (show L = 0 ∨ L = 1 ∨ L = 2 ∨ L = 3 ∨ L = 4 ∨ L = 5 ∨ L = 6 by omega) with rfl | rfl | rfl | rfl | rfl | rfl | rfl
  · refine tpi (y := (-6)) (by decide +kernel) ?_
    refine lv_icmp_gt (tgt := 1555) hx hb dL_law_24 (by decide) (fun _ => ?_) (fun c_1 => absurd (by decide) c_1)
    refine lv_iconst (v := 1) hx hb dL_law_1555 (by decide) ?_
    refine va_forget hS.2.2 ?_
    refine W.widen (k := 600000) (n := 7302250) (Nat.le_of_ble_eq_true rfl) (Nat.le_of_ble_eq_true rfl) ?_
    exact lw_ret hx hb hr hlocks dL_law_1556
  · refine tpi (y := (-5)) (by decide +kernel) ?_
    refine lv_icmp_gt (tgt := 1555) hx hb dL_law_24 (by decide) (fun _ => ?_) (fun c_1 => absurd (by decide) c_1)
    refine lv_iconst (v := 1) hx hb dL_law_1555 (by decide) ?_
    refine va_forget hS.2.2 ?_
    refine W.widen (k := 600000) (n := 7302250) (Nat.le_of_ble_eq_true rfl) (Nat.le_of_ble_eq_true rfl) ?_
    exact lw_ret hx hb hr hlocks dL_law_1556
  · refine tpi (y := (-4)) (by decide +kernel) ?_
    refine lv_icmp_gt (tgt := 1555) hx hb dL_law_24 (by decide) (fun _ => ?_) (fun c_1 => absurd (by decide) c_1)
    refine lv_iconst (v := 1) hx hb dL_law_1555 (by decide) ?_
    refine va_forget hS.2.2 ?_
    refine W.widen (k := 600000) (n := 7302250) (Nat.le_of_ble_eq_true rfl) (Nat.le_of_ble_eq_true rfl) ?_
    exact lw_ret hx hb hr hlocks dL_law_1556
  · refine tpi (y := (-3)) (by decide +kernel) ?_
    refine lv_icmp_gt (tgt := 1555) hx hb dL_law_24 (by decide) (fun _ => ?_) (fun c_1 => absurd (by decide) c_1)
    refine lv_iconst (v := 1) hx hb dL_law_1555 (by decide) ?_
    refine va_forget hS.2.2 ?_
    refine W.widen (k := 600000) (n := 7302250) (Nat.le_of_ble_eq_true rfl) (Nat.le_of_ble_eq_true rfl) ?_
    exact lw_ret hx hb hr hlocks dL_law_1556
  · refine tpi (y := (-2)) (by decide +kernel) ?_
    refine lv_icmp_gt (tgt := 1555) hx hb dL_law_24 (by decide) (fun _ => ?_) (fun c_1 => absurd (by decide) c_1)
    refine lv_iconst (v := 1) hx hb dL_law_1555 (by decide) ?_
    refine va_forget hS.2.2 ?_
    refine W.widen (k := 600000) (n := 7302250) (Nat.le_of_ble_eq_true rfl) (Nat.le_of_ble_eq_true rfl) ?_
    exact lw_ret hx hb hr hlocks dL_law_1556
  · refine tpi (y := (-1)) (by decide +kernel) ?_
    refine lv_icmp_gt (tgt := 1555) hx hb dL_law_24 (by decide) (fun _ => ?_) (fun c_1 => absurd (by decide) c_1)
    refine lv_iconst (v := 1) hx hb dL_law_1555 (by decide) ?_
    refine va_forget hS.2.2 ?_
    refine W.widen (k := 600000) (n := 7302250) (Nat.le_of_ble_eq_true rfl) (Nat.le_of_ble_eq_true rfl) ?_
    exact lw_ret hx hb hr hlocks dL_law_1556
  · refine tpi (y := 0) (by decide +kernel) ?_
    refine lv_icmp_gt (tgt := 1555) hx hb dL_law_24 (by decide) (fun c_1 => absurd c_1 (by decide)) (fun _ => ?_)
    refine lv_aload_n hx hb dL_law_27 rfl (lv_at hl 3 rfl) ?_
    refine lv_iload_n hx hb dL_law_28 rfl (lv_at hl 0 rfl) ?_
    refine va_sld hx hb hX hbl hbA hS (vin (by decide +kernel)) dL_law_29 ?_
    refine tpi (y := xs 0) rfl ?_
    refine lv_bipush (v := 63) hx hb dL_law_30 (by decide) ?_
    refine lv_iand hx hb dL_law_32 ?_
    obtain ⟨j, hj, ej⟩ := pk_andE (xs 0) (m := 63) 6 (by decide)
    refine tpi (y := nI j) ej ?_
    have hj : j < 64 := hj
    clear ej
    rcases Nat.lt_or_ge j 44 with h44 | h44
    · match j, h44 with
      | 0, _ => exact lv_tableIn (off := 191) (tgt := 224) hx hb dL_law_33 (by decide) (by decide) rfl (by decide) (lc_0 C0 hg hK hE hP hD hS (lv_sub hl [3, 2, 1, 0] rfl))
      | 1, _ => exact lv_tableIn (off := 254) (tgt := 287) hx hb dL_law_33 (by decide) (by decide) rfl (by decide) (lc_1 C0 hg hK hE hP hD hS (lv_sub hl [3, 2, 1, 0] rfl))
      | 2, _ => exact lv_tableIn (off := 277) (tgt := 310) hx hb dL_law_33 (by decide) (by decide) rfl (by decide) (lc_2 C0 hg hK hE hP hD hS (lv_sub hl [3, 2, 1, 0] rfl))
      | 3, _ => exact lv_tableIn (off := 300) (tgt := 333) hx hb dL_law_33 (by decide) (by decide) rfl (by decide) (lc_3 C0 hg hK hE hP hD hS (lv_sub hl [3, 2, 1, 0] rfl))
      | 4, _ => exact lv_tableIn (off := 333) (tgt := 366) hx hb dL_law_33 (by decide) (by decide) rfl (by decide) (lc_4 C0 hg hK hE hP hD hS (lv_sub hl [3, 2, 1, 0] rfl))
      | 5, _ => exact lv_tableIn (off := 356) (tgt := 389) hx hb dL_law_33 (by decide) (by decide) rfl (by decide) (lc_5 C0 hg hK hE hP hD hS (lv_sub hl [3, 2, 1, 0] rfl))
      | 6, _ => exact lv_tableIn (off := 389) (tgt := 422) hx hb dL_law_33 (by decide) (by decide) rfl (by decide) (lc_6 C0 hg hK hE hP hD hS (lv_sub hl [3, 2, 1, 0] rfl))
      | 7, _ => exact lv_tableIn (off := 422) (tgt := 455) hx hb dL_law_33 (by decide) (by decide) rfl (by decide) (lc_7 C0 hg hK hE hP hD hS (lv_sub hl [3, 2, 1, 0] rfl))
      | 8, _ => exact lv_tableIn (off := 445) (tgt := 478) hx hb dL_law_33 (by decide) (by decide) rfl (by decide) (lc_8 C0 hg hK hE hP hD hS (lv_sub hl [3, 2, 1, 0] rfl))
      | 9, _ => exact lv_tableIn (off := 468) (tgt := 501) hx hb dL_law_33 (by decide) (by decide) rfl (by decide) (lc_9 C0 hg hK hE hP hD hS (lv_sub hl [3, 2, 1, 0] rfl))
      | 10, _ => exact lv_tableIn (off := 491) (tgt := 524) hx hb dL_law_33 (by decide) (by decide) rfl (by decide) (lc_10 C0 hg hK hE hP hD hS (lv_sub hl [3, 2, 1, 0] rfl))
      | 11, _ => exact lv_tableIn (off := 514) (tgt := 547) hx hb dL_law_33 (by decide) (by decide) rfl (by decide) (lc_11 C0 hg hK hE hP hD hS (lv_sub hl [3, 2, 1, 0] rfl))
      | 12, _ => exact lv_tableIn (off := 537) (tgt := 570) hx hb dL_law_33 (by decide) (by decide) rfl (by decide) (lc_12 C0 hg hK hE hP hD hS (lv_sub hl [3, 2, 1, 0] rfl))
      | 13, _ => exact lv_tableIn (off := 570) (tgt := 603) hx hb dL_law_33 (by decide) (by decide) rfl (by decide) (lc_13 C0 hg hK hE hP hD hS (lv_sub hl [3, 2, 1, 0] rfl))
      | 14, _ => exact lv_tableIn (off := 593) (tgt := 626) hx hb dL_law_33 (by decide) (by decide) rfl (by decide) (lc_14 C0 hg hK hE hP hD hS (lv_sub hl [3, 2, 1, 0] rfl))
      | 15, _ => exact lv_tableIn (off := 626) (tgt := 659) hx hb dL_law_33 (by decide) (by decide) rfl (by decide) (lc_15 C0 hg hK hE hP hD hS (lv_sub hl [3, 2, 1, 0] rfl))
      | 16, _ => exact lv_tableIn (off := 659) (tgt := 692) hx hb dL_law_33 (by decide) (by decide) rfl (by decide) (lc_16 C0 hg hK hE hP hD hS (lv_sub hl [3, 2, 1, 0] rfl))
      | 17, _ => exact lv_tableIn (off := 682) (tgt := 715) hx hb dL_law_33 (by decide) (by decide) rfl (by decide) (lc_17 C0 hg hK hE hP hD hS (lv_sub hl [3, 2, 1, 0] rfl))
      | 18, _ => exact lv_tableIn (off := 695) (tgt := 728) hx hb dL_law_33 (by decide) (by decide) rfl (by decide) (lc_18 C0 hg hK hE hP hD hS (lv_sub hl [3, 2, 1, 0] rfl))
      | 19, _ => exact lv_tableIn (off := 708) (tgt := 741) hx hb dL_law_33 (by decide) (by decide) rfl (by decide) (lc_19 C0 hg hK hE hP hD hS (lv_sub hl [3, 2, 1, 0] rfl))
      | 20, _ => exact lv_tableIn (off := 741) (tgt := 774) hx hb dL_law_33 (by decide) (by decide) rfl (by decide) (lc_20 C0 hg hK hE hP hD hS (lv_sub hl [3, 2, 1, 0] rfl))
      | 21, _ => exact lv_tableIn (off := 784) (tgt := 817) hx hb dL_law_33 (by decide) (by decide) rfl (by decide) (lc_21 C0 hg hK hE hP hD hS (lv_sub hl [3, 2, 1, 0] rfl))
      | 22, _ => exact lv_tableIn (off := 828) (tgt := 861) hx hb dL_law_33 (by decide) (by decide) rfl (by decide) (lc_22 C0 hg hK hE hP hD hS (lv_sub hl [3, 2, 1, 0] rfl))
      | 23, _ => exact lv_tableIn (off := 851) (tgt := 884) hx hb dL_law_33 (by decide) (by decide) rfl (by decide) (lc_23 C0 hg hK hE hP hD hS (lv_sub hl [3, 2, 1, 0] rfl))
      | 24, _ => exact lv_tableIn (off := 884) (tgt := 917) hx hb dL_law_33 (by decide) (by decide) rfl (by decide) (lc_24 C0 hg hK hE hP hD hS (lv_sub hl [3, 2, 1, 0] rfl))
      | 25, _ => exact lv_tableIn (off := 897) (tgt := 930) hx hb dL_law_33 (by decide) (by decide) rfl (by decide) (lc_25 C0 hg hK hE hP hD hS (lv_sub hl [3, 2, 1, 0] rfl))
      | 26, _ => exact lv_tableIn (off := 920) (tgt := 953) hx hb dL_law_33 (by decide) (by decide) rfl (by decide) (lc_26 C0 hg hK hE hP hD hS (lv_sub hl [3, 2, 1, 0] rfl))
      | 27, _ => exact lv_tableIn (off := 933) (tgt := 966) hx hb dL_law_33 (by decide) (by decide) rfl (by decide) (lc_27 C0 hg hK hE hP hD hS (lv_sub hl [3, 2, 1, 0] rfl))
      | 28, _ => exact lv_tableIn (off := 946) (tgt := 979) hx hb dL_law_33 (by decide) (by decide) rfl (by decide) (lc_28 C0 hg hK hE hP hD hS (lv_sub hl [3, 2, 1, 0] rfl))
      | 29, _ => exact lv_tableIn (off := 959) (tgt := 992) hx hb dL_law_33 (by decide) (by decide) rfl (by decide) (lc_29 C0 hg hK hE hP hD hS (lv_sub hl [3, 2, 1, 0] rfl))
      | 30, _ => exact lv_tableIn (off := 993) (tgt := 1026) hx hb dL_law_33 (by decide) (by decide) rfl (by decide) (lc_30 C0 hg hK hE hP hD hS (lv_sub hl [3, 2, 1, 0] rfl))
      | 31, _ => exact lv_tableIn (off := 1036) (tgt := 1069) hx hb dL_law_33 (by decide) (by decide) rfl (by decide) (lc_31 C0 hg hK hE hP hD hS (lv_sub hl [3, 2, 1, 0] rfl))
      | 32, _ => exact lv_tableIn (off := 1079) (tgt := 1112) hx hb dL_law_33 (by decide) (by decide) rfl (by decide) (lc_32 C0 hg hK hE hP hD hS (lv_sub hl [3, 2, 1, 0] rfl))
      | 33, _ => exact lv_tableIn (off := 1112) (tgt := 1145) hx hb dL_law_33 (by decide) (by decide) rfl (by decide) (lc_33 C0 hg hK hE hP hD hS (lv_sub hl [3, 2, 1, 0] rfl))
      | 34, _ => exact lv_tableIn (off := 1145) (tgt := 1178) hx hb dL_law_33 (by decide) (by decide) rfl (by decide) (lc_34 C0 hg hK hE hP hD hS (lv_sub hl [3, 2, 1, 0] rfl))
      | 35, _ => exact lv_tableIn (off := 1178) (tgt := 1211) hx hb dL_law_33 (by decide) (by decide) rfl (by decide) (lc_35 C0 hg hK hE hP hD hS (lv_sub hl [3, 2, 1, 0] rfl))
      | 36, _ => exact lv_tableIn (off := 1211) (tgt := 1244) hx hb dL_law_33 (by decide) (by decide) rfl (by decide) (lc_36 C0 hg hK hE hP hD hS (lv_sub hl [3, 2, 1, 0] rfl))
      | 37, _ => exact lv_tableIn (off := 1264) (tgt := 1297) hx hb dL_law_33 (by decide) (by decide) rfl (by decide) (lc_37 C0 hg hK hE hP hD hS (lv_sub hl [3, 2, 1, 0] rfl))
      | 38, _ => exact lv_tableIn (off := 1297) (tgt := 1330) hx hb dL_law_33 (by decide) (by decide) rfl (by decide) (lc_38 C0 hg hK hE hP hD hS (lv_sub hl [3, 2, 1, 0] rfl))
      | 39, _ => exact lv_tableIn (off := 1340) (tgt := 1373) hx hb dL_law_33 (by decide) (by decide) rfl (by decide) (lc_39 C0 hg hK hE hP hD hS (lv_sub hl [3, 2, 1, 0] rfl))
      | 40, _ => exact lv_tableIn (off := 1414) (tgt := 1447) hx hb dL_law_33 (by decide) (by decide) rfl (by decide) (lc_40 C0 hg hK hE hP hD hS (lv_sub hl [3, 2, 1, 0] rfl))
      | 41, _ => exact lv_tableIn (off := 1447) (tgt := 1480) hx hb dL_law_33 (by decide) (by decide) rfl (by decide) (lc_41 C0 hg hK hE hP hD hS (lv_sub hl [3, 2, 1, 0] rfl))
      | 42, _ => exact lv_tableIn (off := 1470) (tgt := 1503) hx hb dL_law_33 (by decide) (by decide) rfl (by decide) (lc_42 C0 hg hK hE hP hD hS (lv_sub hl [3, 2, 1, 0] rfl))
      | 43, _ => exact lv_tableIn (off := 1493) (tgt := 1526) hx hb dL_law_33 (by decide) (by decide) rfl (by decide) (lc_43 C0 hg hK hE hP hD hS (lv_sub hl [3, 2, 1, 0] rfl))
      | n + 44, h => exact absurd h (by omega)
    · refine lv_tableOut (tgt := 1549) hx hb dL_law_33 (Or.inr (by rw [nI_toInt (by omega)]; omega)) (by decide) ?_
      exact law_end C0 (Nat.le_of_ble_eq_true rfl) (Nat.le_of_ble_eq_true rfl) hS (lv_sub hl [3, 0] rfl)
-- ===== YOUR PART ENDS =====
set_option maxHeartbeats 4000000 in
theorem lw_walk (l : Launch) (hflags : l.flags = flags0) (b : Addr) (xs : List Int32) : MetFree l x (headSpec (Jvm.Cond.code x code maxLocals ret :: tables_1) room_1) (lw_P b xs) (fun _ _ _ _ _ => True) lw_Q := by
  refine MetFree.of_bodyS (code := code) (maxLocals := maxLocals) (ret := ret) (by decide) ?_ ?_
  · intro args s m h hn
    obtain ⟨meth, c, h1, h2, h3, h4, h5, h6, -, -⟩ := Cond.code_spec hn (atoms_spec (ws := Jvm.Cond.code x code maxLocals ret :: tables_1) h _ List.mem_cons_self)
    exact ⟨meth, c, h1, h2, h3, h4, h5, h6⟩
  · intro p e s m args below meth c s₁ B hml0 hP _
    obtain ⟨rfl, hx, hbd, hgv⟩ := hP
    obtain ⟨scr, harrAt, hlist, hof, hsmall⟩ := hx
    obtain ⟨hcb, hkn, -, -⟩ := State.arrayAt?_spec harrAt
    have hown : s.vm.findClass R_law = some m.cls := findClass_of_methodNamed B.named
    have hts0 : ∀ c ∈ (Jvm.Cond.code x code maxLocals ret :: tables_1), c.before #[Value.ref b] s = true := atoms_spec (ws := Jvm.Cond.code x code maxLocals ret :: tables_1) B.pre
    have hts : ∀ w ∈ lw_tbl, w.before #[Value.ref b] s = true := k2_hts_sels lw_privs (fun w hw => hts0 w (List.mem_cons_of_mem _ hw)) lw_privs_ok
    have hml : c.maxLocals = 4 := B.maxLocals_eq (hts0 _ List.mem_cons_self)
    have X₀ : Stand p l e room_1 s m #[Value.ref b] below meth c s₁ [] 0 0 := Stand.of_body B
    have hh0 : s₁.heap = s.heap := by rw [B.state]; rfl
    have hsz : scr.slots.size = xs.length := by rw [← Array.length_toList, hlist, List.length_map]
    have hval : ∀ j : Nat, j < xs.length → scr.slots[j]? = some (.int (xs.getD j 0)) := fun j hj => by
      rw [← Array.getElem?_toList, hlist]
      simp [hj]
    have hbl : b < s.heap.size := (Array.getElem?_eq_some_iff.mp hcb).1
    have hX : va_X b xs.length (fun j => xs.getD j 0) s s.heap := ⟨scr, hcb, hof, hkn, hsz, hval⟩
    have K : W p l e room_1 s m #[Value.ref b] below meth c s₁.heap [] 0 0 (lw_Z below #[Value.ref b] s) (entryFrame m ([Value.ref b] : List Value).toArray 4) := by
      rw [hh0]
      exact whole_start l hflags hbd ⟨B.exec, B.bytes, B.returns, hml, hown, hts, hX, hbl, B.notSynchronized, hgv⟩
    obtain ⟨t, a1, o, b1, b2, b3⟩ := K s₁ rfl X₀
    exact ⟨t, o, a1, b1, b2, b3⟩
theorem lw_pre_spec {args : Array Value} {s : State} (h : (Jvm.Cond.and given_1 narrow_1).before args s = true) (hr : rest_1_c.before args s = true) : ∃ (b : Addr) (xs : List Int32), lw_P b xs args s := by
  have hs := flat_of_before _ h
  have hq := flat_of_before _ hr
  have hc : (Cond.count 1).before args s = true := hs _ (by decide +kernel)
  have harr : (Cond.arrayOf (.arg 0) .int).before args s = true := hs _ (by decide +kernel)
  have hle : (Cond.le (.length (.arg 0)) (.int 6)).before args s = true := hs _ (by decide +kernel)
  have hlen : (Cond.isInt (.length (.arg 0))).before args s = true := hq _ (by decide +kernel)
  have hall : (Cond.all (.arg 0) (.isInt (.elem (.arg 0) (.index 0)))).before args s = true := hq _ (by decide +kernel)
  obtain ⟨b, xs, hb, hx⟩ := State.ints_of_pre rfl harr hlen hall
  have hsm : xs.length < 2 ^ 31 := hx.choose_spec.2.2.2
  have hev : (Term.length (.arg 0)).eval args s none [] s = some (.int xs.length.toInt32) := hx.length_eval hb
  have hv := Cond.le_ints hev (show (Term.int 6).eval args s none [] s = some (.int 6) from rfl)
  have hd : xs.length.toInt32 ≤ 6 := by
    simpa [Cond.before, Cond.holds, hv] using hle
  have hN : xs.length ≤ 6 := (Int32.ofNat_le_ofNat hsm (by decide)).mp (show Int32.ofNat xs.length ≤ Int32.ofNat 6 from hd)
  exact ⟨b, xs, Cond.one_arg hc (show args[0]? = some (.ref b) from hb), hx, hN, h⟩
theorem lw_comes (l : Launch) (hflags : l.flags = flags0) : Comes l x (Jvm.Cond.code x code maxLocals ret :: tables_1) room_1 (fun tb e args s => Calls_1 tb e args s ∧ rest_1 tb e args s ∧ Pre_1 tb e args s)
    (fun _ _ args s o t => lw_Q args s o t) := by
  intro p e ha hc hk s m args below hf hfit hheap happ hpre
  obtain ⟨b, xs, hP⟩ := lw_pre_spec hpre.2.2 hpre.2.1
  obtain ⟨k, o, h1, h2, h3, hQ⟩ := lw_walk l hflags b xs p e ha hc hk s m args below hf ((Spec.applies_iff_loose hf).mp happ).1 hP trivial
  exact ⟨k, o, h1, h2, h3, hQ⟩
theorem lw_frame {s t : State} {o : Outcome} {args : Array Value} (h : Framed s o t [] 600000 7302250) :
    Framed s o t (fieldLocs frame_1_writes args s ++ arrayLocs frame_1_arrays args s ++ staticLocs frame_1_statics s) 600000 7302250 := h
theorem lw_limb (L : Cond) (hL : ∀ (args : Array Value) (s t : State), L.after args s (.returned (some (.int 1))) t = true) :
    ArmFor flags0 classFile x code maxLocals ret World_1 tables_1 room_1 Calls_1 rest_1 Pre_1
      (fun tb e a s o t => postC L tb e a s o t ∧ Framed s o t (fieldLocs frame_1_writes a s ++ arrayLocs frame_1_arrays a s ++ staticLocs frame_1_statics s) 600000 7302250) := by
  intro l hflags _ _ p e ha hc hk s m args below hf hfit hheap happ hpre
  obtain ⟨k, o, h1, h2, h3, rfl, hF⟩ := lw_comes l hflags p e ha hc hk s m args below hf hfit hheap happ hpre
  exact ⟨k, _, h1, h2, h3, hL args s _, lw_frame hF⟩
theorem i_vc : Claimed_1_1 ∧ Claimed_1_2 := ⟨lw_limb limb_1_1 (fun args s t => by simp [limb_1_1, Cond.after, Cond.holds, Cond.value]), lw_limb limb_1_2 (fun args s t => Cond.after_iff.mpr (by
  first | (rw [show limb_1_2 = Cond.eq .result (.int 1) from rfl, Cond.eq_ints (x := 1) (y := 1) rfl rfl]; simp; done) | (simp [limb_1_2, Cond.value, Term.eval]; done)))⟩

