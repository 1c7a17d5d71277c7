theorem dL_law_18 : decode cL_law 18 = .ok (.iload_n 3, 1) := by decide +kernel
theorem dL_law_19 : decode cL_law 19 = .ok (.aload_n 0, 1) := by decide +kernel
theorem dL_law_20 : decode cL_law 20 = .ok (.arraylength, 1) := by decide +kernel
theorem dL_law_21 : decode cL_law 21 = .ok (.bipush 6, 2) := by decide +kernel
theorem dL_law_23 : decode cL_law 23 = .ok (.isub, 1) := by decide +kernel
theorem dL_law_24 : decode cL_law 24 = .ok (.if_icmp .gt 1528, 3) := by decide +kernel
theorem dL_law_1552 : decode cL_law 1552 = .ok (.iconst 1, 1) := by decide +kernel
theorem dL_law_1553 : decode cL_law 1553 = .ok (.ireturn, 1) := by decide +kernel
theorem dL_law_1546 : decode cL_law 1546 = .ok (.iinc 3 6, 3) := by decide +kernel
theorem dL_law_1549 : decode cL_law 1549 = .ok (.goto (-1531), 3) := by decide +kernel
theorem dL_law_27 : decode cL_law 27 = .ok (.aload_n 0, 1) := by decide +kernel
theorem dL_law_28 : decode cL_law 28 = .ok (.iload_n 3, 1) := by decide +kernel
theorem dL_law_29 : decode cL_law 29 = .ok (.iaload, 1) := by decide +kernel
theorem dL_law_30 : decode cL_law 30 = .ok (.bipush 63, 2) := by decide +kernel
theorem dL_law_32 : decode cL_law 32 = .ok (.iand, 1) := by decide +kernel
theorem dL_law_33 : decode cL_law 33 = .ok (.tableswitch 1513 0 43 #[191, 254, 277, 300, 333, 356, 389, 422, 445, 468, 491, 514, 537, 570, 593, 626, 659, 682, 695, 708, 741, 784, 827, 850, 883, 896, 919, 932, 945, 958, 991, 1034, 1077, 1110, 1143, 1176, 1209, 1262, 1295, 1338, 1411, 1444, 1467, 1490], 191) := by decide +kernel
set_option maxHeartbeats 4000000 in
set_option maxRecDepth 100000 in
theorem law_loop {p : Program} {e : Env} {s : State} {m : MethodId} {below : List Frame} {meth : Method} {c : Code} {l : Launch} {b Lk : Nat} {xs : Nat → Int32} {V : GV} {y z : Nat → Nat} (G : LCx p s m meth c b Lk xs V) (hLk : Lk ≤ 3072) : ∀ (N jj : Nat) {H : Heap} {locs : List Loc} {cells slots : Nat} {ls : Array Slot} {wx wz : va_W}, Lk + 6 ≤ jj + N → jj ≤ Lk + 6 → SX V y z cells slots wx wz → va_P V.1 vwCl (wx ++ wz) H → va_D (AAs s) (wx ++ wz) → va_S (AAs s) s.heap H locs → lv_has ls 4 [(0, .ref b), (1, .ref (y 0)), (2, .ref (z 0)), (3, .int (nI jj))] → W p l e room_1 s m #[Value.ref b] below meth c H locs cells slots (lw_Z below #[Value.ref b] s) (F0 m 18 ls []) := by
  intro N
  induction N with
  | zero =>
    intro jj H locs cells slots ls wx wz hN hj sx hP hD hS hl
    obtain ⟨⟨hx, hb, hr, hml, hown, hts, hX, hbl, hlocks, hgv⟩, hg, hK, hE⟩ := id G
    have hbA : ¬ AAs s b := Nat.not_le.mpr hbl
    have hrm := sx.room
    refine lv_iload_n hx hb dL_law_18 rfl (lv_at hl 3 rfl) ?_
    refine lv_aload_n hx hb dL_law_19 rfl (lv_at hl 0 rfl) ?_
    refine va_slen hx hb hX hbl hbA hS dL_law_20 ?_
    refine lv_bipush (v := 6) hx hb dL_law_21 (by decide) ?_
    refine lv_isub hx hb dL_law_23 ?_
    refine lv_topi (fun x ex => ?_)
    have bx : iv ((Lk : Int) - 6) ((Lk : Int) - 6) x := by rw [ex]; exact iv_sub (iv_nI (n := Lk) (by omega)) (iv_c (6 : Int32) (a := 6) (b := 6) (by decide)) (by omega)
    have bj := iv_nI (n := jj) (by omega)
    unfold iv at bx bj
    refine lv_icmp_gt (tgt := 1552) hx hb dL_law_24 (by decide) (fun c_1 => ?_) (fun c_1 => absurd (Int32.lt_iff_toInt_lt.mpr (by omega)) c_1)
    refine lv_iconst (v := 1) hx hb dL_law_1552 (by decide) ?_
    refine va_forget hS.2.2 ?_
    refine W.widen (k := 600000) (n := 7302250) (by omega) (by omega) ?_
    exact lw_ret hx hb hr hlocks dL_law_1553
  | succ N ih =>
    intro jj H locs cells slots ls wx wz hN hj sx hP hD hS hl
    obtain ⟨⟨hx, hb, hr, hml, hown, hts, hX, hbl, hlocks, hgv⟩, hg, hK, hE⟩ := id G
    have hbA : ¬ AAs s b := Nat.not_le.mpr hbl
    have hrm := sx.room
    refine lv_iload_n hx hb dL_law_18 rfl (lv_at hl 3 rfl) ?_
    refine lv_aload_n hx hb dL_law_19 rfl (lv_at hl 0 rfl) ?_
    refine va_slen hx hb hX hbl hbA hS dL_law_20 ?_
    refine lv_bipush (v := 6) hx hb dL_law_21 (by decide) ?_
    refine lv_isub hx hb dL_law_23 ?_
    refine lv_topi (fun x ex => ?_)
    have bx : iv ((Lk : Int) - 6) ((Lk : Int) - 6) x := by rw [ex]; exact iv_sub (iv_nI (n := Lk) (by omega)) (iv_c (6 : Int32) (a := 6) (b := 6) (by decide)) (by omega)
    have bj := iv_nI (n := jj) (by omega)
    unfold iv at bx bj
    refine lv_icmp_gt (tgt := 1552) hx hb dL_law_24 (by decide) (fun c_1 => ?_) (fun c_1 => ?_)
    · refine lv_iconst (v := 1) hx hb dL_law_1552 (by decide) ?_
      refine va_forget hS.2.2 ?_
      refine W.widen (k := 600000) (n := 7302250) (by omega) (by omega) ?_
      exact lw_ret hx hb hr hlocks dL_law_1553
    · have hjj : jj + 6 ≤ Lk ∧ Lk ≤ 3072 := by rw [Int32.lt_iff_toInt_lt] at c_1; omega
      have hnext : ∀ {H : Heap} {locs : List Loc} {cells slots : Nat} {ls : Array Slot} {wx wz : va_W}, SX V y z cells slots wx wz → va_P V.1 vwCl (wx ++ wz) H → va_D (AAs s) (wx ++ wz) → va_S (AAs s) s.heap H locs → lv_has ls 4 [(0, .ref b), (1, .ref (y 0)), (2, .ref (z 0)), (3, .int (nI jj))] → W p l e room_1 s m #[Value.ref b] below meth c H locs cells slots (lw_Z below #[Value.ref b] s) (F0 m 1546 ls []) := by
        intro H locs cells slots ls wx wz sx hP hD hS hl
        refine lv_iinc (v := nI (jj + 6)) (lv' := [(3, .int (nI (jj + 6))), (0, .ref b), (1, .ref (y 0)), (2, .ref (z 0))]) hx hb dL_law_1546 hl (k := 3) rfl (nI_i (by omega)) (by decide) rfl (fun ls hl => ?_)
        refine lv_goto (tgt := 18) hx hb dL_law_1549 (by decide) ?_
        exact ih (jj + 6) (by omega) (by omega) sx hP hD hS (lv_sub hl [1, 2, 3, 0] rfl)
      refine lv_aload_n hx hb dL_law_27 rfl (lv_at hl 0 rfl) ?_
      refine lv_iload_n hx hb dL_law_28 rfl (lv_at hl 3 rfl) ?_
      refine va_sld hx hb hX hbl hbA hS (iv_in (iv_nI (n := jj) (by omega)) (by omega)) dL_law_29 ?_
      refine lv_bipush (v := 63) hx hb dL_law_30 (by decide) ?_
      refine lv_iand hx hb dL_law_32 ?_
      obtain ⟨j, hj, ej⟩ := pk_andE (xs (nI jj).toNatClampNeg) (m := 63) 6 (by decide)
      refine tpi (y := nI j) ej ?_
      have hj : j < 64 := hj
      clear ej
      rcases Nat.lt_or_ge j 44 with h44 | h44
      · match j, h44 with
        | 0, _ => exact lv_tableIn (off := 191) (tgt := 224) hx hb dL_law_33 (by decide) (by decide) rfl (by decide) (lc_0 G hjj sx hP hD hS hl hnext)
        | 1, _ => exact lv_tableIn (off := 254) (tgt := 287) hx hb dL_law_33 (by decide) (by decide) rfl (by decide) (lc_1 G hjj sx hP hD hS hl hnext)
        | 2, _ => exact lv_tableIn (off := 277) (tgt := 310) hx hb dL_law_33 (by decide) (by decide) rfl (by decide) (lc_2 G hjj sx hP hD hS hl hnext)
        | 3, _ => exact lv_tableIn (off := 300) (tgt := 333) hx hb dL_law_33 (by decide) (by decide) rfl (by decide) (lc_3 G hjj sx hP hD hS hl hnext)
        | 4, _ => exact lv_tableIn (off := 333) (tgt := 366) hx hb dL_law_33 (by decide) (by decide) rfl (by decide) (lc_4 G hjj sx hP hD hS hl hnext)
        | 5, _ => exact lv_tableIn (off := 356) (tgt := 389) hx hb dL_law_33 (by decide) (by decide) rfl (by decide) (lc_5 G hjj sx hP hD hS hl hnext)
        | 6, _ => exact lv_tableIn (off := 389) (tgt := 422) hx hb dL_law_33 (by decide) (by decide) rfl (by decide) (lc_6 G hjj sx hP hD hS hl hnext)
        | 7, _ => exact lv_tableIn (off := 422) (tgt := 455) hx hb dL_law_33 (by decide) (by decide) rfl (by decide) (lc_7 G hjj sx hP hD hS hl hnext)
        | 8, _ => exact lv_tableIn (off := 445) (tgt := 478) hx hb dL_law_33 (by decide) (by decide) rfl (by decide) (lc_8 G hjj sx hP hD hS hl hnext)
        | 9, _ => exact lv_tableIn (off := 468) (tgt := 501) hx hb dL_law_33 (by decide) (by decide) rfl (by decide) (lc_9 G hjj sx hP hD hS hl hnext)
        | 10, _ => exact lv_tableIn (off := 491) (tgt := 524) hx hb dL_law_33 (by decide) (by decide) rfl (by decide) (lc_10 G hjj sx hP hD hS hl hnext)
        | 11, _ => exact lv_tableIn (off := 514) (tgt := 547) hx hb dL_law_33 (by decide) (by decide) rfl (by decide) (lc_11 G hjj sx hP hD hS hl hnext)
        | 12, _ => exact lv_tableIn (off := 537) (tgt := 570) hx hb dL_law_33 (by decide) (by decide) rfl (by decide) (lc_12 G hjj sx hP hD hS hl hnext)
        | 13, _ => exact lv_tableIn (off := 570) (tgt := 603) hx hb dL_law_33 (by decide) (by decide) rfl (by decide) (lc_13 G hjj sx hP hD hS hl hnext)
        | 14, _ => exact lv_tableIn (off := 593) (tgt := 626) hx hb dL_law_33 (by decide) (by decide) rfl (by decide) (lc_14 G hjj sx hP hD hS hl hnext)
        | 15, _ => exact lv_tableIn (off := 626) (tgt := 659) hx hb dL_law_33 (by decide) (by decide) rfl (by decide) (lc_15 G hjj sx hP hD hS hl hnext)
        | 16, _ => exact lv_tableIn (off := 659) (tgt := 692) hx hb dL_law_33 (by decide) (by decide) rfl (by decide) (lc_16 G hjj sx hP hD hS hl hnext)
        | 17, _ => exact lv_tableIn (off := 682) (tgt := 715) hx hb dL_law_33 (by decide) (by decide) rfl (by decide) (lc_17 G hjj sx hP hD hS hl hnext)
        | 18, _ => exact lv_tableIn (off := 695) (tgt := 728) hx hb dL_law_33 (by decide) (by decide) rfl (by decide) (lc_18 G hjj sx hP hD hS hl hnext)
        | 19, _ => exact lv_tableIn (off := 708) (tgt := 741) hx hb dL_law_33 (by decide) (by decide) rfl (by decide) (lc_19 G hjj sx hP hD hS hl hnext)
        | 20, _ => exact lv_tableIn (off := 741) (tgt := 774) hx hb dL_law_33 (by decide) (by decide) rfl (by decide) (lc_20 G hjj sx hP hD hS hl hnext)
        | 21, _ => exact lv_tableIn (off := 784) (tgt := 817) hx hb dL_law_33 (by decide) (by decide) rfl (by decide) (lc_21 G hjj sx hP hD hS hl hnext)
        | 22, _ => exact lv_tableIn (off := 827) (tgt := 860) hx hb dL_law_33 (by decide) (by decide) rfl (by decide) (lc_22 G hjj sx hP hD hS hl hnext)
        | 23, _ => exact lv_tableIn (off := 850) (tgt := 883) hx hb dL_law_33 (by decide) (by decide) rfl (by decide) (lc_23 G hjj sx hP hD hS hl hnext)
        | 24, _ => exact lv_tableIn (off := 883) (tgt := 916) hx hb dL_law_33 (by decide) (by decide) rfl (by decide) (lc_24 G hjj sx hP hD hS hl hnext)
        | 25, _ => exact lv_tableIn (off := 896) (tgt := 929) hx hb dL_law_33 (by decide) (by decide) rfl (by decide) (lc_25 G hjj sx hP hD hS hl hnext)
        | 26, _ => exact lv_tableIn (off := 919) (tgt := 952) hx hb dL_law_33 (by decide) (by decide) rfl (by decide) (lc_26 G hjj sx hP hD hS hl hnext)
        | 27, _ => exact lv_tableIn (off := 932) (tgt := 965) hx hb dL_law_33 (by decide) (by decide) rfl (by decide) (lc_27 G hjj sx hP hD hS hl hnext)
        | 28, _ => exact lv_tableIn (off := 945) (tgt := 978) hx hb dL_law_33 (by decide) (by decide) rfl (by decide) (lc_28 G hjj sx hP hD hS hl hnext)
        | 29, _ => exact lv_tableIn (off := 958) (tgt := 991) hx hb dL_law_33 (by decide) (by decide) rfl (by decide) (lc_29 G hjj sx hP hD hS hl hnext)
        | 30, _ => exact lv_tableIn (off := 991) (tgt := 1024) hx hb dL_law_33 (by decide) (by decide) rfl (by decide) (lc_30 G hjj sx hP hD hS hl hnext)
        | 31, _ => exact lv_tableIn (off := 1034) (tgt := 1067) hx hb dL_law_33 (by decide) (by decide) rfl (by decide) (lc_31 G hjj sx hP hD hS hl hnext)
        | 32, _ => exact lv_tableIn (off := 1077) (tgt := 1110) hx hb dL_law_33 (by decide) (by decide) rfl (by decide) (lc_32 G hjj sx hP hD hS hl hnext)
        | 33, _ => exact lv_tableIn (off := 1110) (tgt := 1143) hx hb dL_law_33 (by decide) (by decide) rfl (by decide) (lc_33 G hjj sx hP hD hS hl hnext)
        | 34, _ => exact lv_tableIn (off := 1143) (tgt := 1176) hx hb dL_law_33 (by decide) (by decide) rfl (by decide) (lc_34 G hjj sx hP hD hS hl hnext)
        | 35, _ => exact lv_tableIn (off := 1176) (tgt := 1209) hx hb dL_law_33 (by decide) (by decide) rfl (by decide) (lc_35 G hjj sx hP hD hS hl hnext)
        | 36, _ => exact lv_tableIn (off := 1209) (tgt := 1242) hx hb dL_law_33 (by decide) (by decide) rfl (by decide) (lc_36 G hjj sx hP hD hS hl hnext)
        | 37, _ => exact lv_tableIn (off := 1262) (tgt := 1295) hx hb dL_law_33 (by decide) (by decide) rfl (by decide) (lc_37 G hjj sx hP hD hS hl hnext)
        | 38, _ => exact lv_tableIn (off := 1295) (tgt := 1328) hx hb dL_law_33 (by decide) (by decide) rfl (by decide) (lc_38 G hjj sx hP hD hS hl hnext)
        | 39, _ => exact lv_tableIn (off := 1338) (tgt := 1371) hx hb dL_law_33 (by decide) (by decide) rfl (by decide) (lc_39 G hjj sx hP hD hS hl hnext)
        | 40, _ => exact lv_tableIn (off := 1411) (tgt := 1444) hx hb dL_law_33 (by decide) (by decide) rfl (by decide) (lc_40 G hjj sx hP hD hS hl hnext)
        | 41, _ => exact lv_tableIn (off := 1444) (tgt := 1477) hx hb dL_law_33 (by decide) (by decide) rfl (by decide) (lc_41 G hjj sx hP hD hS hl hnext)
        | 42, _ => exact lv_tableIn (off := 1467) (tgt := 1500) hx hb dL_law_33 (by decide) (by decide) rfl (by decide) (lc_42 G hjj sx hP hD hS hl hnext)
        | 43, _ => exact lv_tableIn (off := 1490) (tgt := 1523) hx hb dL_law_33 (by decide) (by decide) rfl (by decide) (lc_43 G hjj sx hP hD hS hl hnext)
        | n + 44, h => exact absurd h (by omega)
      · refine lv_tableOut (tgt := 1546) hx hb dL_law_33 (Or.inr (by rw [nI_toInt (by omega)]; omega)) (by decide) ?_
        exact hnext sx hP hD hS hl
