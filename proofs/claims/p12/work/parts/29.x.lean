theorem q_2_137 : Cond.fieldLink "java/lang/String" 38 "java/lang/String" "COMPACT_STRINGS" "Z" ∈ gw := gw_2 (i := 137) (by decide +kernel) rfl
theorem dJ0_coder_7d493_0 : decode cJ0_coder_7d493 0 = .ok (.getstatic 38, 3) := by decide +kernel
theorem dJ0_coder_7d493_3 : decode cJ0_coder_7d493 3 = .ok (.ifCond .eq 10, 3) := by decide +kernel
theorem dJ0_coder_7d493_6 : decode cJ0_coder_7d493 6 = .ok (.aload_n 0, 1) := by decide +kernel
theorem q_8_160 : Cond.fieldLink "java/lang/String" 15 "java/lang/String" "coder" "B" ∈ gw := gw_8 (i := 160) (by decide +kernel) rfl
theorem dJ0_coder_7d493_7 : decode cJ0_coder_7d493 7 = .ok (.getfield 15, 3) := by decide +kernel
theorem dJ0_coder_7d493_10 : decode cJ0_coder_7d493 10 = .ok (.goto 4, 3) := by decide +kernel
theorem dJ0_coder_7d493_14 : decode cJ0_coder_7d493 14 = .ok (.ireturn, 1) := by decide +kernel
set_option maxHeartbeats 4000000 in
set_option maxRecDepth 100000 in
theorem k_J0_coder_7d493_0 (l : Launch) (V : GV) (si : Nat) (sq : String × Nat × String × List Int32) (hsi : sL[si]? = some sq) : Ct l V yJ0_coder_7d493 (.code yJ0_coder_7d493 cJ0_coder_7d493 1 (some .byte)) 1 [.ref (V.2.1 (100 + si))] [] 0 0 (QI V (fun (r : Int32) (w : va_W) => r = 0 ∧ w = [])) := by
  have hSL := sL_len hsi
  refine Ct.of (by decide) (Nat.le_of_ble_eq_true rfl) (fun p e s m below meth c A ls hx hb hr hml hown hlk hnm hg hP hK hD hE hA hS hl => ?_)
  have hl : lv_has ls 1 [(0, .ref (V.2.1 (100 + si)))] := hl
  refine va_gets hx hb hE.2.2.2.2.2.1.1 hS hown (hg _ q_2_137) (fun _ h9 => h9) dJ0_coder_7d493_0 ?_
  refine lv_if_eq (tgt := 13) hx hb dJ0_coder_7d493_3 (by decide) (fun c_2 => absurd c_2 (by decide)) (fun _ => ?_)
  refine lv_aload_n hx hb dJ0_coder_7d493_6 rfl (lv_at hl 0 rfl) ?_
  refine vk_getf hx hb (hE.2.2.2.2.2.2 si sq hsi).2.2.1 hS hown (hg _ q_8_160) (fun _ h9 => h9) dJ0_coder_7d493_7 ?_
  refine lv_goto (tgt := 14) hx hb dJ0_coder_7d493_10 (by decide) ?_
  exact fiT rfl hx hb hr hlk hK hP hD hS dJ0_coder_7d493_14 (Nat.le_of_ble_eq_true rfl) (Nat.le_of_ble_eq_true rfl) (⟨rfl, rfl⟩)
theorem dJ0_isLatin1_aae02_0 : decode cJ0_isLatin1_aae02 0 = .ok (.getstatic 38, 3) := by decide +kernel
theorem dJ0_isLatin1_aae02_3 : decode cJ0_isLatin1_aae02 3 = .ok (.ifCond .eq 14, 3) := by decide +kernel
theorem dJ0_isLatin1_aae02_6 : decode cJ0_isLatin1_aae02 6 = .ok (.aload_n 0, 1) := by decide +kernel
theorem dJ0_isLatin1_aae02_7 : decode cJ0_isLatin1_aae02 7 = .ok (.getfield 15, 3) := by decide +kernel
theorem dJ0_isLatin1_aae02_10 : decode cJ0_isLatin1_aae02 10 = .ok (.ifCond .ne 7, 3) := by decide +kernel
theorem dJ0_isLatin1_aae02_13 : decode cJ0_isLatin1_aae02 13 = .ok (.iconst 1, 1) := by decide +kernel
theorem dJ0_isLatin1_aae02_14 : decode cJ0_isLatin1_aae02 14 = .ok (.goto 4, 3) := by decide +kernel
theorem dJ0_isLatin1_aae02_18 : decode cJ0_isLatin1_aae02 18 = .ok (.ireturn, 1) := by decide +kernel
set_option maxHeartbeats 4000000 in
set_option maxRecDepth 100000 in
theorem k_J0_isLatin1_aae02_0 (l : Launch) (V : GV) (si : Nat) (sq : String × Nat × String × List Int32) (hsi : sL[si]? = some sq) : Ct l V yJ0_isLatin1_aae02 (.code yJ0_isLatin1_aae02 cJ0_isLatin1_aae02 1 (some .boolean)) 1 [.ref (V.2.1 (100 + si))] [] 0 0 (QI V (fun (r : Int32) (w : va_W) => r = 1 ∧ w = [])) := by
  have hSL := sL_len hsi
  refine Ct.of (by decide) (Nat.le_of_ble_eq_true rfl) (fun p e s m below meth c A ls hx hb hr hml hown hlk hnm hg hP hK hD hE hA hS hl => ?_)
  have hl : lv_has ls 1 [(0, .ref (V.2.1 (100 + si)))] := hl
  refine va_gets hx hb hE.2.2.2.2.2.1.1 hS hown (hg _ q_2_137) (fun _ h9 => h9) dJ0_isLatin1_aae02_0 ?_
  refine lv_if_eq (tgt := 17) hx hb dJ0_isLatin1_aae02_3 (by decide) (fun c_2 => absurd c_2 (by decide)) (fun _ => ?_)
  refine lv_aload_n hx hb dJ0_isLatin1_aae02_6 rfl (lv_at hl 0 rfl) ?_
  refine vk_getf hx hb (hE.2.2.2.2.2.2 si sq hsi).2.2.1 hS hown (hg _ q_8_160) (fun _ h9 => h9) dJ0_isLatin1_aae02_7 ?_
  refine lv_if_ne (tgt := 17) hx hb dJ0_isLatin1_aae02_10 (by decide) (fun c_4 => absurd c_4 (by decide)) (fun _ => ?_)
  refine lv_iconst (v := 1) hx hb dJ0_isLatin1_aae02_13 (by decide) ?_
  refine lv_goto (tgt := 18) hx hb dJ0_isLatin1_aae02_14 (by decide) ?_
  exact fiZ rfl hx hb hr hlk hK hP hD hS dJ0_isLatin1_aae02_18 (Nat.le_of_ble_eq_true rfl) (Nat.le_of_ble_eq_true rfl) (⟨rfl, rfl⟩)
theorem dJ0_length_8abf5_0 : decode cJ0_length_8abf5 0 = .ok (.aload_n 0, 1) := by decide +kernel
theorem q_8_161 : Cond.fieldLink "java/lang/String" 9 "java/lang/String" "value" "[B" ∈ gw := gw_8 (i := 161) (by decide +kernel) rfl
theorem dJ0_length_8abf5_1 : decode cJ0_length_8abf5 1 = .ok (.getfield 9, 3) := by decide +kernel
theorem dJ0_length_8abf5_4 : decode cJ0_length_8abf5 4 = .ok (.arraylength, 1) := by decide +kernel
theorem dJ0_length_8abf5_5 : decode cJ0_length_8abf5 5 = .ok (.aload_n 0, 1) := by decide +kernel
theorem q_2_146 : Cond.code yJ0_coder_7d493 prog_16_method_152_code 1 (some FieldType.byte) ∈ gw := gw_2 (i := 146) (rfl) rfl
theorem q_1_11 : Cond.initialized "java/lang/String" ∈ gw := gw_1 (i := 11) (by decide +kernel) rfl
theorem q_2_144 : Cond.instanceMethod yJ0_coder_7d493 ∈ gw := gw_2 (i := 144) (by decide +kernel) rfl
theorem q_2_145 : Cond.selects "java/lang/String" yJ0_coder_7d493 yJ0_coder_7d493 ∈ gw := gw_2 (i := 145) (by decide +kernel) rfl
theorem mt_J0_coder_7d493 : MtV yJ0_coder_7d493 cJ0_coder_7d493 1 (some .byte) 0 := ⟨⟨q_2_146, q_1_11, by decide +kernel, by decide +kernel, by decide +kernel⟩, q_2_144, q_2_145⟩
theorem q_2_143 : Cond.methodLink "java/lang/String" 335 yJ0_coder_7d493 ∈ gw := gw_2 (i := 143) (by decide +kernel) rfl
theorem dJ0_length_8abf5_6 : decode cJ0_length_8abf5 6 = .ok (.invokevirtual 335, 3) := by decide +kernel
theorem dJ0_length_8abf5_9 : decode cJ0_length_8abf5 9 = .ok (.ishr, 1) := by decide +kernel
theorem dJ0_length_8abf5_10 : decode cJ0_length_8abf5 10 = .ok (.ireturn, 1) := by decide +kernel
set_option maxHeartbeats 4000000 in
set_option maxRecDepth 100000 in
theorem k_J0_length_8abf5_0 (l : Launch) (V : GV) (si : Nat) (sq : String × Nat × String × List Int32) (hsi : sL[si]? = some sq) : Ct l V yJ0_length_8abf5 (.code yJ0_length_8abf5 cJ0_length_8abf5 1 (some .int)) 2 [.ref (V.2.1 (100 + si))] [] 0 0 (QI V (fun (r : Int32) (w : va_W) => r = nI sq.2.2.2.length ∧ w = [])) := by
  have hSL := sL_len hsi
  refine Ct.of (by decide) (Nat.le_of_ble_eq_true rfl) (fun p e s m below meth c A ls hx hb hr hml hown hlk hnm hg hP hK hD hE hA hS hl => ?_)
  have hl : lv_has ls 1 [(0, .ref (V.2.1 (100 + si)))] := hl
  refine lv_aload_n hx hb dJ0_length_8abf5_0 rfl (lv_at hl 0 rfl) ?_
  refine vk_getf hx hb (hE.2.2.2.2.2.2 si sq hsi).2.2.2.1 hS hown (hg _ q_8_161) (fun _ h9 => h9) dJ0_length_8abf5_1 ?_
  refine va_tlen (v := (nI sq.2.2.2.length)) hx hb (hE.2.2.2.2.2.2 si sq hsi).2.2.2.2 hS rfl dJ0_length_8abf5_4 ?_
  refine lv_aload_n hx hb dJ0_length_8abf5_5 rfl (lv_at hl 0 rfl) ?_
  refine jnI (wr := []) (rnVx (rest := [.int (nI sq.2.2.2.length)]) ⟨hx, hb, hml, hown, hg⟩ (k_J0_coder_7d493_0 l V si sq hsi) mt_J0_coder_7d493 q_2_143 ⟨Nat.le_of_ble_eq_true rfl, Nat.le_of_ble_eq_true rfl⟩ hK hP hD hS hA hE [] rfl rfl (o_recv (hE.2.2.2.2.2.2 si sq hsi).2.1 hS) rfl hl.1 rfl (Nat.le_of_ble_eq_true rfl) dJ0_length_8abf5_6 ⟨Nat.le_of_ble_eq_true rfl, Nat.le_of_ble_eq_true rfl⟩) hP hD hS hA [] [] rfl rfl rfl (by decide) (fun r_1 w H locs hw hP hD hS => ?_)
  obtain ⟨rfl, rfl⟩ := hw
  have hP : va_P V.1 vwCl [] H := hP
  have hD := cpD hP hD
  refine lv_ishr hx hb dJ0_length_8abf5_9 ?_
  refine tpi (y := (nI sq.2.2.2.length)) (sb_shr0 _) ?_
  exact fiI hx hb hr hlk hK hP hD hS dJ0_length_8abf5_10 (Nat.le_of_ble_eq_true rfl) (Nat.le_of_ble_eq_true rfl) (⟨rfl, rfl⟩)
theorem dJ3_checkIndex_8e157_0 : decode cJ3_checkIndex_8e157 0 = .ok (.iload_n 0, 1) := by decide +kernel
theorem dJ3_checkIndex_8e157_1 : decode cJ3_checkIndex_8e157 1 = .ok (.ifCond .lt 8, 3) := by decide +kernel
theorem dJ3_checkIndex_8e157_4 : decode cJ3_checkIndex_8e157 4 = .ok (.iload_n 0, 1) := by decide +kernel
theorem dJ3_checkIndex_8e157_5 : decode cJ3_checkIndex_8e157 5 = .ok (.iload_n 1, 1) := by decide +kernel
theorem dJ3_checkIndex_8e157_6 : decode cJ3_checkIndex_8e157 6 = .ok (.if_icmp .lt 10, 3) := by decide +kernel
theorem dJ3_checkIndex_8e157_16 : decode cJ3_checkIndex_8e157 16 = .ok (.iload_n 0, 1) := by decide +kernel
theorem dJ3_checkIndex_8e157_17 : decode cJ3_checkIndex_8e157 17 = .ok (.ireturn, 1) := by decide +kernel
set_option maxHeartbeats 4000000 in
set_option maxRecDepth 100000 in
theorem k_J3_checkIndex_8e157_0 (l : Launch) (V : GV) (a0 : Int32) (a1 : Int32) (ba0 : iv 0 2147483647 a0) (ha0 : a0 < a1) : Ct l V yJ3_checkIndex_8e157 (.code yJ3_checkIndex_8e157 cJ3_checkIndex_8e157 3 (some .int)) 1 [.int a0, .int a1, .null] [] 0 0 (QI V (fun (r : Int32) (w : va_W) => iv 0 2147483647 r ∧ w = [])) := by
  refine Ct.of (by decide) (Nat.le_of_ble_eq_true rfl) (fun p e s m below meth c A ls hx hb hr hml hown hlk hnm hg hP hK hD hE hA hS hl => ?_)
  have hl : lv_has ls 3 [(0, .int a0), (1, .int a1), (2, .null)] := hl
  refine lv_iload_n hx hb dJ3_checkIndex_8e157_0 rfl (lv_at hl 0 rfl) ?_
  refine lv_if_lt (tgt := 9) hx hb dJ3_checkIndex_8e157_1 (by decide) (fun c_1 => absurd c_1 (iv_nlt ba0 (iv_c (0 : Int32) (a := 0) (b := 0) (by decide)) (by decide))) (fun _ => ?_)
  refine lv_iload_n hx hb dJ3_checkIndex_8e157_4 rfl (lv_at hl 0 rfl) ?_
  refine lv_iload_n hx hb dJ3_checkIndex_8e157_5 rfl (lv_at hl 1 rfl) ?_
  refine lv_icmp_lt (tgt := 16) hx hb dJ3_checkIndex_8e157_6 (by decide) (fun _ => ?_) (fun c_3 => absurd ha0 c_3)
  refine lv_iload_n hx hb dJ3_checkIndex_8e157_16 rfl (lv_at hl 0 rfl) ?_
  exact fiI hx hb hr hlk hK hP hD hS dJ3_checkIndex_8e157_17 (Nat.le_of_ble_eq_true rfl) (Nat.le_of_ble_eq_true rfl) (⟨ba0, rfl⟩)
set_option maxHeartbeats 4000000 in
set_option maxRecDepth 100000 in
theorem k_J3_checkIndex_8e157_1 (l : Launch) (V : GV) (a0 : Int32) (a1 : Int32) (s2 : Nat) (ba0 : iv 0 2147483647 a0) (ha0 : a0 < a1) : Ct l V yJ3_checkIndex_8e157 (.code yJ3_checkIndex_8e157 cJ3_checkIndex_8e157 3 (some .int)) 1 [.int a0, .int a1, .ref s2] [] 0 0 (QI V (fun (r : Int32) (w : va_W) => iv 0 2147483647 r ∧ w = [])) := by
  refine Ct.of (by decide) (Nat.le_of_ble_eq_true rfl) (fun p e s m below meth c A ls hx hb hr hml hown hlk hnm hg hP hK hD hE hA hS hl => ?_)
  have hl : lv_has ls 3 [(0, .int a0), (1, .int a1), (2, .ref s2)] := hl
  refine lv_iload_n hx hb dJ3_checkIndex_8e157_0 rfl (lv_at hl 0 rfl) ?_
  refine lv_if_lt (tgt := 9) hx hb dJ3_checkIndex_8e157_1 (by decide) (fun c_1 => absurd c_1 (iv_nlt ba0 (iv_c (0 : Int32) (a := 0) (b := 0) (by decide)) (by decide))) (fun _ => ?_)
  refine lv_iload_n hx hb dJ3_checkIndex_8e157_4 rfl (lv_at hl 0 rfl) ?_
  refine lv_iload_n hx hb dJ3_checkIndex_8e157_5 rfl (lv_at hl 1 rfl) ?_
  refine lv_icmp_lt (tgt := 16) hx hb dJ3_checkIndex_8e157_6 (by decide) (fun _ => ?_) (fun c_3 => absurd ha0 c_3)
  refine lv_iload_n hx hb dJ3_checkIndex_8e157_16 rfl (lv_at hl 0 rfl) ?_
  exact fiI hx hb hr hlk hK hP hD hS dJ3_checkIndex_8e157_17 (Nat.le_of_ble_eq_true rfl) (Nat.le_of_ble_eq_true rfl) (⟨ba0, rfl⟩)
theorem dJ0_checkIndex_df160_0 : decode cJ0_checkIndex_df160 0 = .ok (.iload_n 0, 1) := by decide +kernel
theorem dJ0_checkIndex_df160_1 : decode cJ0_checkIndex_df160 1 = .ok (.iload_n 1, 1) := by decide +kernel
theorem q_2_176 : Cond.fieldLink "java/lang/String" 1053 "jdk/internal/util/Preconditions" "SIOOBE_FORMATTER" "Ljava/util/function/BiFunction;" ∈ gw := gw_2 (i := 176) (by decide +kernel) rfl
theorem dJ0_checkIndex_df160_2 : decode cJ0_checkIndex_df160 2 = .ok (.getstatic 1053, 3) := by decide +kernel
theorem q_2_229 : Cond.code yJ3_checkIndex_8e157 prog_21_method_11_code 3 (some FieldType.int) ∈ gw := gw_2 (i := 229) (rfl) rfl
theorem q_1_14 : Cond.initialized "jdk/internal/util/Preconditions" ∈ gw := gw_1 (i := 14) (by decide +kernel) rfl
theorem q_2_228 : Cond.static yJ3_checkIndex_8e157 ∈ gw := gw_2 (i := 228) (by decide +kernel) rfl
theorem mt_J3_checkIndex_8e157 : MtS yJ3_checkIndex_8e157 cJ3_checkIndex_8e157 3 (some .int) 3 := ⟨⟨q_2_229, q_1_14, by decide +kernel, by decide +kernel, by decide +kernel⟩, q_2_228⟩
theorem q_2_227 : Cond.methodLink "java/lang/String" 1059 yJ3_checkIndex_8e157 ∈ gw := gw_2 (i := 227) (by decide +kernel) rfl
theorem dJ0_checkIndex_df160_5 : decode cJ0_checkIndex_df160 5 = .ok (.invokestatic 1059, 3) := by decide +kernel
theorem dJ0_checkIndex_df160_8 : decode cJ0_checkIndex_df160 8 = .ok (.pop, 1) := by decide +kernel
theorem dJ0_checkIndex_df160_9 : decode cJ0_checkIndex_df160 9 = .ok (.return_, 1) := by decide +kernel
set_option maxHeartbeats 4000000 in
set_option maxRecDepth 100000 in
theorem k_J0_checkIndex_df160_0 (l : Launch) (V : GV) (a0 : Int32) (a1 : Int32) (ba0 : iv 0 2147483647 a0) (ha0 : a0 < a1) : Ct l V yJ0_checkIndex_df160 (.code yJ0_checkIndex_df160 cJ0_checkIndex_df160 2 none) 2 [.int a0, .int a1] [] 0 0 (QV V (fun (w : va_W) => w = [])) := by
  refine Ct.of (by decide) (Nat.le_of_ble_eq_true rfl) (fun p e s m below meth c A ls hx hb hr hml hown hlk hnm hg hP hK hD hE hA hS hl => ?_)
  have hl : lv_has ls 2 [(0, .int a0), (1, .int a1)] := hl
  refine lv_iload_n hx hb dJ0_checkIndex_df160_0 rfl (lv_at hl 0 rfl) ?_
  refine lv_iload_n hx hb dJ0_checkIndex_df160_1 rfl (lv_at hl 1 rfl) ?_
  rcases hE.2.2.2.2.2.1.2 with hz_2 | ⟨fm_1, hz_2⟩
  · refine va_gets hx hb hz_2 hS hown (hg _ q_2_176) (fun _ h9 => h9) dJ0_checkIndex_df160_2 ?_
    refine jnI (wr := []) (rnS (rest := []) ⟨hx, hb, hml, hown, hg⟩ (k_J3_checkIndex_8e157_0 l V a0 a1 ba0 ha0) mt_J3_checkIndex_8e157 q_2_227 ⟨Nat.le_of_ble_eq_true rfl, Nat.le_of_ble_eq_true rfl⟩ hK hP hD hS hA hE [] rfl rfl rfl hl.1 rfl (Nat.le_of_ble_eq_true rfl) dJ0_checkIndex_df160_5 ⟨Nat.le_of_ble_eq_true rfl, Nat.le_of_ble_eq_true rfl⟩) hP hD hS hA [] [] rfl rfl rfl (by decide) (fun r_3 w H locs hw hP hD hS => ?_)
    obtain ⟨br_3, rfl⟩ := hw
    have hP : va_P V.1 vwCl [] H := hP
    have hD := cpD hP hD
    refine lv_pop hx hb dJ0_checkIndex_df160_8 rfl ?_
    exact fiV hx hb hr hlk hK hP hD hS dJ0_checkIndex_df160_9 (Nat.le_of_ble_eq_true rfl) (Nat.le_of_ble_eq_true rfl) (rfl)
  · refine va_gets hx hb hz_2 hS hown (hg _ q_2_176) (fun _ h9 => h9) dJ0_checkIndex_df160_2 ?_
    refine jnI (wr := []) (rnS (rest := []) ⟨hx, hb, hml, hown, hg⟩ (k_J3_checkIndex_8e157_1 l V a0 a1 fm_1 ba0 ha0) mt_J3_checkIndex_8e157 q_2_227 ⟨Nat.le_of_ble_eq_true rfl, Nat.le_of_ble_eq_true rfl⟩ hK hP hD hS hA hE [] rfl rfl rfl hl.1 rfl (Nat.le_of_ble_eq_true rfl) dJ0_checkIndex_df160_5 ⟨Nat.le_of_ble_eq_true rfl, Nat.le_of_ble_eq_true rfl⟩) hP hD hS hA [] [] rfl rfl rfl (by decide) (fun r_4 w H locs hw hP hD hS => ?_)
    obtain ⟨br_4, rfl⟩ := hw
    have hP : va_P V.1 vwCl [] H := hP
    have hD := cpD hP hD
    refine lv_pop hx hb dJ0_checkIndex_df160_8 rfl ?_
    exact fiV hx hb hr hlk hK hP hD hS dJ0_checkIndex_df160_9 (Nat.le_of_ble_eq_true rfl) (Nat.le_of_ble_eq_true rfl) (rfl)
theorem dJ1_charAt_3b067_0 : decode cJ1_charAt_3b067 0 = .ok (.iload_n 1, 1) := by decide +kernel
theorem dJ1_charAt_3b067_1 : decode cJ1_charAt_3b067 1 = .ok (.aload_n 0, 1) := by decide +kernel
theorem dJ1_charAt_3b067_2 : decode cJ1_charAt_3b067 2 = .ok (.arraylength, 1) := by decide +kernel
theorem q_2_226 : Cond.code yJ0_checkIndex_df160 prog_16_method_155_code 2 none ∈ gw := gw_2 (i := 226) (rfl) rfl
theorem q_2_225 : Cond.static yJ0_checkIndex_df160 ∈ gw := gw_2 (i := 225) (by decide +kernel) rfl
theorem mt_J0_checkIndex_df160 : MtS yJ0_checkIndex_df160 cJ0_checkIndex_df160 2 none 2 := ⟨⟨q_2_226, q_1_11, by decide +kernel, by decide +kernel, by decide +kernel⟩, q_2_225⟩
theorem q_2_224 : Cond.methodLink "java/lang/StringLatin1" 9 yJ0_checkIndex_df160 ∈ gw := gw_2 (i := 224) (by decide +kernel) rfl
theorem dJ1_charAt_3b067_3 : decode cJ1_charAt_3b067 3 = .ok (.invokestatic 9, 3) := by decide +kernel
theorem dJ1_charAt_3b067_6 : decode cJ1_charAt_3b067 6 = .ok (.aload_n 0, 1) := by decide +kernel
theorem dJ1_charAt_3b067_7 : decode cJ1_charAt_3b067 7 = .ok (.iload_n 1, 1) := by decide +kernel
theorem dJ1_charAt_3b067_8 : decode cJ1_charAt_3b067 8 = .ok (.baload, 1) := by decide +kernel
theorem dJ1_charAt_3b067_9 : decode cJ1_charAt_3b067 9 = .ok (.sipush 255, 3) := by decide +kernel
theorem dJ1_charAt_3b067_12 : decode cJ1_charAt_3b067 12 = .ok (.iand, 1) := by decide +kernel
theorem dJ1_charAt_3b067_13 : decode cJ1_charAt_3b067 13 = .ok (.i2c, 1) := by decide +kernel
theorem dJ1_charAt_3b067_14 : decode cJ1_charAt_3b067 14 = .ok (.ireturn, 1) := by decide +kernel
set_option maxHeartbeats 4000000 in
set_option maxRecDepth 100000 in
theorem k_J1_charAt_3b067_0 (l : Launch) (V : GV) (si : Nat) (sq : String × Nat × String × List Int32) (hsi : sL[si]? = some sq) (a1 : Int32) (ba1 : iv 0 2147483647 a1) (ha0 : a1 < (nI sq.2.2.2.length)) : Ct l V yJ1_charAt_3b067 (.code yJ1_charAt_3b067 cJ1_charAt_3b067 2 (some .char)) 3 [.ref (V.2.1 (200 + si)), .int a1] [] 0 0 (QI V (fun (r : Int32) (w : va_W) => r = chF sq.2.2.2 a1 ∧ w = [])) := by
  have hSL := sL_len hsi
  refine Ct.of (by decide) (Nat.le_of_ble_eq_true rfl) (fun p e s m below meth c A ls hx hb hr hml hown hlk hnm hg hP hK hD hE hA hS hl => ?_)
  have hl : lv_has ls 2 [(0, .ref (V.2.1 (200 + si))), (1, .int a1)] := hl
  refine lv_iload_n hx hb dJ1_charAt_3b067_0 rfl (lv_at hl 1 rfl) ?_
  refine lv_aload_n hx hb dJ1_charAt_3b067_1 rfl (lv_at hl 0 rfl) ?_
  refine va_tlen (v := (nI sq.2.2.2.length)) hx hb (hE.2.2.2.2.2.2 si sq hsi).2.2.2.2 hS rfl dJ1_charAt_3b067_2 ?_
  refine jnV (wr := []) (rnS (rest := []) ⟨hx, hb, hml, hown, hg⟩ (k_J0_checkIndex_df160_0 l V a1 (nI sq.2.2.2.length) (iv_w (iv_l1 (B := (sq.2.2.2.length : Int) - 1) ha0 ba1 (iv_nI (by omega)) (by omega)) (by first | decide | omega)) ha0) mt_J0_checkIndex_df160 q_2_224 ⟨Nat.le_of_ble_eq_true rfl, Nat.le_of_ble_eq_true rfl⟩ hK hP hD hS hA hE [] rfl rfl rfl hl.1 rfl (Nat.le_of_ble_eq_true rfl) dJ1_charAt_3b067_3 ⟨Nat.le_of_ble_eq_true rfl, Nat.le_of_ble_eq_true rfl⟩) hP hD hS hA [] [] rfl rfl rfl (by decide) (fun  w H locs hw hP hD hS => ?_)
  subst hw
  have hP : va_P V.1 vwCl [] H := hP
  have hD := cpD hP hD
  refine lv_aload_n hx hb dJ1_charAt_3b067_6 rfl (lv_at hl 0 rfl) ?_
  refine lv_iload_n hx hb dJ1_charAt_3b067_7 rfl (lv_at hl 1 rfl) ?_
  refine va_tb (v := .int (sq.2.2.2.getD a1.toNatClampNeg 0)) hx hb (hE.2.2.2.2.2.2 si sq hsi).2.2.2.2 hS (iv_in (iv_l1 (B := (sq.2.2.2.length : Int) - 1) ha0 ba1 (iv_nI (by omega)) (by omega)) (by first | decide | omega)) rfl dJ1_charAt_3b067_8 ?_
  refine lv_topi (fun x_1 ex_1 => ?_)
  refine lv_sipush (v := 255) hx hb dJ1_charAt_3b067_9 (by decide) ?_
  refine lv_iand hx hb dJ1_charAt_3b067_12 ?_
  refine lv_topi (fun x_2 ex_2 => ?_)
  refine lv_i2c hx hb dJ1_charAt_3b067_13 rfl ?_
  refine lv_topi (fun x_3 ex_3 => ?_)
  exact fiT (by rw [ex_3]; exact pk_nc _) hx hb hr hlk hK hP hD hS dJ1_charAt_3b067_14 (Nat.le_of_ble_eq_true rfl) (Nat.le_of_ble_eq_true rfl) (⟨(by simp only [ex_3, ex_2, ex_1]; rfl), rfl⟩)
theorem dJ0_charAt_5068e_0 : decode cJ0_charAt_5068e 0 = .ok (.aload_n 0, 1) := by decide +kernel
theorem q_2_136 : Cond.code yJ0_isLatin1_aae02 prog_16_method_154_code 1 (some FieldType.boolean) ∈ gw := gw_2 (i := 136) (rfl) rfl
theorem q_2_134 : Cond.instanceMethod yJ0_isLatin1_aae02 ∈ gw := gw_2 (i := 134) (by decide +kernel) rfl
theorem q_2_135 : Cond.selects "java/lang/String" yJ0_isLatin1_aae02 yJ0_isLatin1_aae02 ∈ gw := gw_2 (i := 135) (by decide +kernel) rfl
theorem mt_J0_isLatin1_aae02 : MtV yJ0_isLatin1_aae02 cJ0_isLatin1_aae02 1 (some .boolean) 0 := ⟨⟨q_2_136, q_1_11, by decide +kernel, by decide +kernel, by decide +kernel⟩, q_2_134, q_2_135⟩
theorem q_2_133 : Cond.methodLink "java/lang/String" 492 yJ0_isLatin1_aae02 ∈ gw := gw_2 (i := 133) (by decide +kernel) rfl
theorem dJ0_charAt_5068e_1 : decode cJ0_charAt_5068e 1 = .ok (.invokevirtual 492, 3) := by decide +kernel
theorem dJ0_charAt_5068e_4 : decode cJ0_charAt_5068e 4 = .ok (.ifCond .eq 12, 3) := by decide +kernel
theorem dJ0_charAt_5068e_7 : decode cJ0_charAt_5068e 7 = .ok (.aload_n 0, 1) := by decide +kernel
theorem dJ0_charAt_5068e_8 : decode cJ0_charAt_5068e 8 = .ok (.getfield 9, 3) := by decide +kernel
theorem dJ0_charAt_5068e_11 : decode cJ0_charAt_5068e 11 = .ok (.iload_n 1, 1) := by decide +kernel
theorem q_2_223 : Cond.code yJ1_charAt_3b067 prog_17_method_2_code 2 (some FieldType.char) ∈ gw := gw_2 (i := 223) (rfl) rfl
theorem q_1_12 : Cond.initialized "java/lang/StringLatin1" ∈ gw := gw_1 (i := 12) (by decide +kernel) rfl
theorem q_2_222 : Cond.static yJ1_charAt_3b067 ∈ gw := gw_2 (i := 222) (by decide +kernel) rfl
theorem mt_J1_charAt_3b067 : MtS yJ1_charAt_3b067 cJ1_charAt_3b067 2 (some .char) 2 := ⟨⟨q_2_223, q_1_12, by decide +kernel, by decide +kernel, by decide +kernel⟩, q_2_222⟩
theorem q_2_221 : Cond.methodLink "java/lang/String" 495 yJ1_charAt_3b067 ∈ gw := gw_2 (i := 221) (by decide +kernel) rfl
theorem dJ0_charAt_5068e_12 : decode cJ0_charAt_5068e 12 = .ok (.invokestatic 495, 3) := by decide +kernel
theorem dJ0_charAt_5068e_15 : decode cJ0_charAt_5068e 15 = .ok (.ireturn, 1) := by decide +kernel
set_option maxHeartbeats 4000000 in
set_option maxRecDepth 100000 in
theorem k_J0_charAt_5068e_0 (l : Launch) (V : GV) (si : Nat) (sq : String × Nat × String × List Int32) (hsi : sL[si]? = some sq) (a1 : Int32) (ba1 : iv 0 2147483647 a1) (ha0 : a1 < (nI sq.2.2.2.length)) : Ct l V yJ0_charAt_5068e (.code yJ0_charAt_5068e cJ0_charAt_5068e 2 (some .char)) 4 [.ref (V.2.1 (100 + si)), .int a1] [] 0 0 (QI V (fun (r : Int32) (w : va_W) => r = chF sq.2.2.2 a1 ∧ w = [])) := by
  have hSL := sL_len hsi
  refine Ct.of (by decide) (Nat.le_of_ble_eq_true rfl) (fun p e s m below meth c A ls hx hb hr hml hown hlk hnm hg hP hK hD hE hA hS hl => ?_)
  have hl : lv_has ls 2 [(0, .ref (V.2.1 (100 + si))), (1, .int a1)] := hl
  refine lv_aload_n hx hb dJ0_charAt_5068e_0 rfl (lv_at hl 0 rfl) ?_
  refine jnI (wr := []) (rnVx (rest := []) ⟨hx, hb, hml, hown, hg⟩ (k_J0_isLatin1_aae02_0 l V si sq hsi) mt_J0_isLatin1_aae02 q_2_133 ⟨Nat.le_of_ble_eq_true rfl, Nat.le_of_ble_eq_true rfl⟩ hK hP hD hS hA hE [] rfl rfl (o_recv (hE.2.2.2.2.2.2 si sq hsi).2.1 hS) rfl hl.1 rfl (Nat.le_of_ble_eq_true rfl) dJ0_charAt_5068e_1 ⟨Nat.le_of_ble_eq_true rfl, Nat.le_of_ble_eq_true rfl⟩) hP hD hS hA [] [] rfl rfl rfl (by decide) (fun r_1 w H locs hw hP hD hS => ?_)
  obtain ⟨rfl, rfl⟩ := hw
  have hP : va_P V.1 vwCl [] H := hP
  have hD := cpD hP hD
  refine lv_if_eq (tgt := 16) hx hb dJ0_charAt_5068e_4 (by decide) (fun c_3 => absurd c_3 (by decide)) (fun _ => ?_)
  refine lv_aload_n hx hb dJ0_charAt_5068e_7 rfl (lv_at hl 0 rfl) ?_
  refine vk_getf hx hb (hE.2.2.2.2.2.2 si sq hsi).2.2.2.1 hS hown (hg _ q_8_161) (fun _ h9 => h9) dJ0_charAt_5068e_8 ?_
  refine lv_iload_n hx hb dJ0_charAt_5068e_11 rfl (lv_at hl 1 rfl) ?_
  refine jnI (wr := []) (rnS (rest := []) ⟨hx, hb, hml, hown, hg⟩ (k_J1_charAt_3b067_0 l V si sq hsi a1 (iv_w (iv_l1 (B := (sq.2.2.2.length : Int) - 1) ha0 ba1 (iv_nI (by omega)) (by omega)) (by first | decide | omega)) ha0) mt_J1_charAt_3b067 q_2_221 ⟨Nat.le_of_ble_eq_true rfl, Nat.le_of_ble_eq_true rfl⟩ hK hP hD hS hA hE [] rfl rfl rfl hl.1 rfl (Nat.le_of_ble_eq_true rfl) dJ0_charAt_5068e_12 ⟨Nat.le_of_ble_eq_true rfl, Nat.le_of_ble_eq_true rfl⟩) hP hD hS hA [] [] rfl rfl rfl (by decide) (fun r_4 w H locs hw hP hD hS => ?_)
  obtain ⟨er_4, rfl⟩ := hw
  have hP : va_P V.1 vwCl [] H := hP
  have hD := cpD hP hD
  exact fiT (by rw [er_4]; exact pk_nc _) hx hb hr hlk hK hP hD hS dJ0_charAt_5068e_15 (Nat.le_of_ble_eq_true rfl) (Nat.le_of_ble_eq_true rfl) (⟨er_4, rfl⟩)
theorem dJ1_canEncode_9a6ad_0 : decode cJ1_canEncode_9a6ad 0 = .ok (.iload_n 0, 1) := by decide +kernel
theorem dJ1_canEncode_9a6ad_1 : decode cJ1_canEncode_9a6ad 1 = .ok (.ifCond .lt 14, 3) := by decide +kernel
theorem dJ1_canEncode_9a6ad_15 : decode cJ1_canEncode_9a6ad 15 = .ok (.iconst 0, 1) := by decide +kernel
theorem dJ1_canEncode_9a6ad_16 : decode cJ1_canEncode_9a6ad 16 = .ok (.ireturn, 1) := by decide +kernel
theorem dJ1_canEncode_9a6ad_4 : decode cJ1_canEncode_9a6ad 4 = .ok (.iload_n 0, 1) := by decide +kernel
theorem dJ1_canEncode_9a6ad_5 : decode cJ1_canEncode_9a6ad 5 = .ok (.sipush 255, 3) := by decide +kernel
theorem dJ1_canEncode_9a6ad_8 : decode cJ1_canEncode_9a6ad 8 = .ok (.if_icmp .gt 7, 3) := by decide +kernel
theorem dJ1_canEncode_9a6ad_11 : decode cJ1_canEncode_9a6ad 11 = .ok (.iconst 1, 1) := by decide +kernel
theorem dJ1_canEncode_9a6ad_12 : decode cJ1_canEncode_9a6ad 12 = .ok (.goto 4, 3) := by decide +kernel
set_option maxHeartbeats 4000000 in
set_option maxRecDepth 100000 in
theorem k_J1_canEncode_9a6ad_0 (l : Launch) (V : GV) (a0 : Int32) : Ct l V yJ1_canEncode_9a6ad (.code yJ1_canEncode_9a6ad cJ1_canEncode_9a6ad 1 (some .boolean)) 1 [.int a0] [] 0 0 (QI V (fun (r : Int32) (w : va_W) => iv 0 1 r ∧ (r = 0 → ¬ (0 ≤ (a0 : Int32).toInt ∧ (a0 : Int32).toInt ≤ 255)) ∧ w = [])) := by
  refine Ct.of (by decide) (Nat.le_of_ble_eq_true rfl) (fun p e s m below meth c A ls hx hb hr hml hown hlk hnm hg hP hK hD hE hA hS hl => ?_)
  have hl : lv_has ls 1 [(0, .int a0)] := hl
  refine lv_iload_n hx hb dJ1_canEncode_9a6ad_0 rfl (lv_at hl 0 rfl) ?_
  refine lv_if_lt (tgt := 15) hx hb dJ1_canEncode_9a6ad_1 (by decide) (fun c_1 => ?_) (fun c_1 => ?_)
  · have b_2 : iv (-2147483648) (-1) a0 := iv_l1 c_1 (iv_top a0) (iv_c (0 : Int32) (a := 0) (b := 0) (by decide)) (by decide)
    refine lv_iconst (v := 0) hx hb dJ1_canEncode_9a6ad_15 (by decide) ?_
    exact fiZ rfl hx hb hr hlk hK hP hD hS dJ1_canEncode_9a6ad_16 (Nat.le_of_ble_eq_true rfl) (Nat.le_of_ble_eq_true rfl) (⟨(iv_c (0 : Int32) (by decide)), (fun _ => by have z_0 := Int32.lt_iff_toInt_lt.mp c_1; have k_0 : (0 : Int32).toInt = 0 := (by decide); omega), rfl⟩)
  · have b_3 : iv 0 2147483647 a0 := iv_e2 (Int32.not_lt.mp c_1) (iv_c (0 : Int32) (a := 0) (b := 0) (by decide)) (iv_top a0) (by decide)
    refine lv_iload_n hx hb dJ1_canEncode_9a6ad_4 rfl (lv_at hl 0 rfl) ?_
    refine lv_sipush (v := 255) hx hb dJ1_canEncode_9a6ad_5 (by decide) ?_
    refine lv_icmp_gt (tgt := 15) hx hb dJ1_canEncode_9a6ad_8 (by decide) (fun c_4 => ?_) (fun c_4 => ?_)
    · have b_5 : iv 256 2147483647 a0 := iv_l2 c_4 (iv_c (255 : Int32) (a := 255) (b := 255) (by decide)) b_3 (by decide)
      refine lv_iconst (v := 0) hx hb dJ1_canEncode_9a6ad_15 (by decide) ?_
      exact fiZ rfl hx hb hr hlk hK hP hD hS dJ1_canEncode_9a6ad_16 (Nat.le_of_ble_eq_true rfl) (Nat.le_of_ble_eq_true rfl) (⟨(iv_c (0 : Int32) (by decide)), (fun _ => by have z_0 := Int32.le_iff_toInt_le.mp (Int32.not_lt.mp c_1); have z_1 := Int32.lt_iff_toInt_lt.mp c_4; have k_0 : (0 : Int32).toInt = 0 := (by decide); have k_255 : (255 : Int32).toInt = 255 := (by decide); omega), rfl⟩)
    · have b_6 : iv 0 255 a0 := iv_e1 (Int32.not_lt.mp c_4) b_3 (iv_c (255 : Int32) (a := 255) (b := 255) (by decide)) (by decide)
      refine lv_iconst (v := 1) hx hb dJ1_canEncode_9a6ad_11 (by decide) ?_
      refine lv_goto (tgt := 16) hx hb dJ1_canEncode_9a6ad_12 (by decide) ?_
      exact fiZ rfl hx hb hr hlk hK hP hD hS dJ1_canEncode_9a6ad_16 (Nat.le_of_ble_eq_true rfl) (Nat.le_of_ble_eq_true rfl) (⟨(iv_c (1 : Int32) (by decide)), (fun q9 => absurd q9 (by decide)), rfl⟩)
theorem dJ1_indexOfChar_4cfef_0 : decode cJ1_indexOfChar_4cfef 0 = .ok (.iload_n 1, 1) := by decide +kernel
theorem dJ1_indexOfChar_4cfef_1 : decode cJ1_indexOfChar_4cfef 1 = .ok (.i2b, 1) := by decide +kernel
theorem dJ1_indexOfChar_4cfef_2 : decode cJ1_indexOfChar_4cfef 2 = .ok (.istore 4, 2) := by decide +kernel
theorem dJ1_indexOfChar_4cfef_4 : decode cJ1_indexOfChar_4cfef 4 = .ok (.iload_n 2, 1) := by decide +kernel
theorem dJ1_indexOfChar_4cfef_5 : decode cJ1_indexOfChar_4cfef 5 = .ok (.istore 5, 2) := by decide +kernel
theorem dJ1_indexOfChar_4cfef_7 : decode cJ1_indexOfChar_4cfef 7 = .ok (.iload 5, 2) := by decide +kernel
theorem dJ1_indexOfChar_4cfef_9 : decode cJ1_indexOfChar_4cfef 9 = .ok (.iload_n 3, 1) := by decide +kernel
theorem dJ1_indexOfChar_4cfef_10 : decode cJ1_indexOfChar_4cfef 10 = .ok (.if_icmp .ge 21, 3) := by decide +kernel
theorem dJ1_indexOfChar_4cfef_31 : decode cJ1_indexOfChar_4cfef 31 = .ok (.iconst (-1), 1) := by decide +kernel
theorem dJ1_indexOfChar_4cfef_32 : decode cJ1_indexOfChar_4cfef 32 = .ok (.ireturn, 1) := by decide +kernel
theorem dJ1_indexOfChar_4cfef_13 : decode cJ1_indexOfChar_4cfef 13 = .ok (.aload_n 0, 1) := by decide +kernel
theorem dJ1_indexOfChar_4cfef_14 : decode cJ1_indexOfChar_4cfef 14 = .ok (.iload 5, 2) := by decide +kernel
theorem dJ1_indexOfChar_4cfef_16 : decode cJ1_indexOfChar_4cfef 16 = .ok (.baload, 1) := by decide +kernel
theorem dJ1_indexOfChar_4cfef_17 : decode cJ1_indexOfChar_4cfef 17 = .ok (.iload 4, 2) := by decide +kernel
theorem dJ1_indexOfChar_4cfef_19 : decode cJ1_indexOfChar_4cfef 19 = .ok (.if_icmp .ne 6, 3) := by decide +kernel
theorem dJ1_indexOfChar_4cfef_25 : decode cJ1_indexOfChar_4cfef 25 = .ok (.iinc 5 1, 3) := by decide +kernel
theorem dJ1_indexOfChar_4cfef_28 : decode cJ1_indexOfChar_4cfef 28 = .ok (.goto (-21), 3) := by decide +kernel
theorem dJ1_indexOfChar_4cfef_22 : decode cJ1_indexOfChar_4cfef 22 = .ok (.iload 5, 2) := by decide +kernel
theorem dJ1_indexOfChar_4cfef_24 : decode cJ1_indexOfChar_4cfef 24 = .ok (.ireturn, 1) := by decide +kernel
set_option maxHeartbeats 4000000 in
set_option maxRecDepth 100000 in
theorem k_J1_indexOfChar_4cfef_0 (l : Launch) (V : GV) (si : Nat) (sq : String × Nat × String × List Int32) (hsi : sL[si]? = some sq) (a1 : Int32) (a2 : Int32) (a3 : Int32) (ba2 : iv 0 0 a2) (ba3 : iv ((sq.2.2.2.length : Int)) ((sq.2.2.2.length : Int)) a3) : Ct l V yJ1_indexOfChar_4cfef (.code yJ1_indexOfChar_4cfef cJ1_indexOfChar_4cfef 6 (some .int)) 1 [.ref (V.2.1 (200 + si)), .int a1, .int a2, .int a3] [] 0 0 (QI V (fun (r : Int32) (w : va_W) => iv (-1) ((sq.2.2.2.length : Int) - 1) r ∧ (IX sq.2.2.2 a1 r) ∧ w = [])) := by
  have hSL := sL_len hsi
  refine Ct.of (by decide) (Nat.le_of_ble_eq_true rfl) (fun p e s m below meth c A ls hx hb hr hml hown hlk hnm hg hP hK hD hE hA hS hl => ?_)
  have hl : lv_has ls 6 [(0, .ref (V.2.1 (200 + si))), (1, .int a1), (2, .int a2), (3, .int a3)] := hl
  refine lv_iload_n hx hb dJ1_indexOfChar_4cfef_0 rfl (lv_at hl 1 rfl) ?_
  refine lv_i2b hx hb dJ1_indexOfChar_4cfef_1 rfl ?_
  refine lv_topi (fun x_1 ex_1 => ?_)
  refine lv_istore (lv' := [(4, .int x_1), (0, .ref (V.2.1 (200 + si))), (1, .int a1), (2, .int a2), (3, .int a3)]) hx hb dJ1_indexOfChar_4cfef_2 hl (by decide) rfl (fun ls hl => ?_)
  refine lv_iload_n hx hb dJ1_indexOfChar_4cfef_4 rfl (lv_at hl 3 rfl) ?_
  refine lv_istore (lv' := [(5, .int a2), (4, .int x_1), (0, .ref (V.2.1 (200 + si))), (1, .int a1), (2, .int a2), (3, .int a3)]) hx hb dJ1_indexOfChar_4cfef_5 hl (by decide) rfl (fun ls hl => ?_)
  refine loopF (X := fun (n_3 : Nat) (H : Heap) (locs : List Loc) (ls : Array Slot) => ∃ (u_2 : Int32), (iv 0 2147483647 u_2) ∧ (∀ j : Nat, (j : Int) < (u_2 : Int32).toInt → ¬ sq.2.2.2.getD j 0 = (a1 : Int32).toInt8.toInt32) ∧ n_3 = (2147483647 - (u_2 : Int32).toInt).toNat ∧ va_P V.1 vwCl [] H ∧ va_D A [] ∧ va_S A s.heap H locs ∧ lv_has ls 6 [(5, .int u_2), (4, .int x_1), (0, .ref (V.2.1 (200 + si))), (1, .int a1), (2, .int a2), (3, .int a3)]) (g := fun ls => F0 m 7 ls []) (fun n_3 H locs ls hX ihn_3 => ?_) _ ⟨a2, (iv_w ba2 (by first | decide | omega)), (fun j hj => absurd hj (by have q9 := ba2; unfold iv at q9; omega)), rfl, hP, hD, hS, lv_sub hl [0, 1, 2, 3, 4, 5] rfl⟩
  obtain ⟨u_2, bu_2, inn_3_0, en_3, hP, hD, hS, hl⟩ := hX
  refine lv_iload hx hb dJ1_indexOfChar_4cfef_7 (lv_at hl 0 rfl) ?_
  refine lv_iload_n hx hb dJ1_indexOfChar_4cfef_9 rfl (lv_at hl 5 rfl) ?_
  refine lv_icmp_ge (tgt := 31) hx hb dJ1_indexOfChar_4cfef_10 (by decide) (fun c_4 => ?_) (fun c_4 => ?_)
  · have b_5 : iv ((sq.2.2.2.length : Int)) 2147483647 u_2 := iv_e2 c_4 ba3 bu_2 (by first | decide | omega)
    refine lv_iconst (v := (-1)) hx hb dJ1_indexOfChar_4cfef_31 (by decide) ?_
    exact fiI hx hb hr hlk hK hP hD hS dJ1_indexOfChar_4cfef_32 (Nat.le_of_ble_eq_true rfl) (Nat.le_of_ble_eq_true rfl) (⟨(iv_w (iv_c ((-1) : Int32) (a := (-1)) (b := (-1)) (by decide)) (by first | decide | omega)), (ixc_0 inn_3_0 ba3 (Int32.not_lt.mpr c_4)), rfl⟩)
  · have b_6 : iv 0 ((sq.2.2.2.length : Int) - 1) u_2 := iv_l1 (Int32.not_le.mp c_4) bu_2 ba3 (by first | decide | omega)
    refine lv_aload_n hx hb dJ1_indexOfChar_4cfef_13 rfl (lv_at hl 2 rfl) ?_
    refine lv_iload hx hb dJ1_indexOfChar_4cfef_14 (lv_at hl 0 rfl) ?_
    refine va_tb (v := .int (sq.2.2.2.getD u_2.toNatClampNeg 0)) hx hb (hE.2.2.2.2.2.2 si sq hsi).2.2.2.2 hS (iv_in b_6 (by first | decide | omega)) rfl dJ1_indexOfChar_4cfef_16 ?_
    refine lv_topi (fun x_7 ex_7 => ?_)
    refine lv_iload hx hb dJ1_indexOfChar_4cfef_17 (lv_at hl 1 rfl) ?_
    refine lv_icmp_ne (tgt := 25) hx hb dJ1_indexOfChar_4cfef_19 (by decide) (fun c_8 => ?_) (fun c_8 => ?_)
    · obtain ⟨x_9, ex_9⟩ : ∃ z9 : Int32, z9 = u_2 + 1 := ⟨_, rfl⟩
      have bx_9 : iv 1 ((sq.2.2.2.length : Int)) x_9 := by rw [ex_9]; exact iv_add b_6 (iv_c (1 : Int32) (a := 1) (b := 1) (by first | decide | omega)) (by first | decide | omega)
      refine lv_iinc (v := x_9) (lv' := [(5, .int x_9), (4, .int x_1), (0, .ref (V.2.1 (200 + si))), (1, .int a1), (2, .int a2), (3, .int a3)]) hx hb dJ1_indexOfChar_4cfef_25 hl (k := 0) rfl (by rw [ex_9]; rfl) (by decide) rfl (fun ls hl => ?_)
      refine lv_goto (tgt := 7) hx hb dJ1_indexOfChar_4cfef_28 (by decide) ?_
      exact ihn_3 _ _ _ _ (by rw [en_3, ex_9]; exact mu_up b_6 (by first | decide | omega)) ⟨x_9, (iv_w bx_9 (by first | decide | omega)), (ixc_s inn_3_0 b_6 (by omega) ex_7 ex_1 c_8 ex_9), rfl, hP, hD, hS, lv_sub hl [0, 1, 2, 3, 4, 5] rfl⟩
    · refine lv_iload hx hb dJ1_indexOfChar_4cfef_22 (lv_at hl 0 rfl) ?_
      exact fiI hx hb hr hlk hK hP hD hS dJ1_indexOfChar_4cfef_24 (Nat.le_of_ble_eq_true rfl) (Nat.le_of_ble_eq_true rfl) (⟨(iv_w b_6 (by first | decide | omega)), (ixc_1 b_6 (by omega) ba3 (Int32.not_le.mp c_4) ex_7 ex_1 c_8), rfl⟩)
theorem dJ1_indexOf_4cfef_0 : decode cJ1_indexOf_4cfef 0 = .ok (.iload_n 1, 1) := by decide +kernel
theorem q_2_152 : Cond.code yJ1_canEncode_9a6ad prog_17_method_4_code 1 (some FieldType.boolean) ∈ gw := gw_2 (i := 152) (rfl) rfl
theorem q_2_151 : Cond.static yJ1_canEncode_9a6ad ∈ gw := gw_2 (i := 151) (by decide +kernel) rfl
theorem mt_J1_canEncode_9a6ad : MtS yJ1_canEncode_9a6ad cJ1_canEncode_9a6ad 1 (some .boolean) 1 := ⟨⟨q_2_152, q_1_12, by decide +kernel, by decide +kernel, by decide +kernel⟩, q_2_151⟩
theorem q_2_150 : Cond.methodLink "java/lang/StringLatin1" 88 yJ1_canEncode_9a6ad ∈ gw := gw_2 (i := 150) (by decide +kernel) rfl
theorem dJ1_indexOf_4cfef_1 : decode cJ1_indexOf_4cfef 1 = .ok (.invokestatic 88, 3) := by decide +kernel
theorem dJ1_indexOf_4cfef_4 : decode cJ1_indexOf_4cfef 4 = .ok (.ifCond .ne 5, 3) := by decide +kernel
theorem dJ1_indexOf_4cfef_9 : decode cJ1_indexOf_4cfef 9 = .ok (.iload_n 2, 1) := by decide +kernel
theorem dJ1_indexOf_4cfef_10 : decode cJ1_indexOf_4cfef 10 = .ok (.iconst 0, 1) := by decide +kernel
theorem q_2_153 : Cond.methodLink "java/lang/StringLatin1" 92 Lib.Math.max.name ∈ gw := gw_2 (i := 153) (by decide +kernel) rfl
theorem dJ1_indexOf_4cfef_11 : decode cJ1_indexOf_4cfef 11 = .ok (.invokestatic 92, 3) := by decide +kernel
theorem dJ1_indexOf_4cfef_14 : decode cJ1_indexOf_4cfef 14 = .ok (.istore_n 2, 1) := by decide +kernel
theorem dJ1_indexOf_4cfef_15 : decode cJ1_indexOf_4cfef 15 = .ok (.iload_n 3, 1) := by decide +kernel
theorem dJ1_indexOf_4cfef_16 : decode cJ1_indexOf_4cfef 16 = .ok (.aload_n 0, 1) := by decide +kernel
theorem dJ1_indexOf_4cfef_17 : decode cJ1_indexOf_4cfef 17 = .ok (.arraylength, 1) := by decide +kernel
theorem q_2_154 : Cond.methodLink "java/lang/StringLatin1" 38 Lib.Math.min.name ∈ gw := gw_2 (i := 154) (by decide +kernel) rfl
theorem dJ1_indexOf_4cfef_18 : decode cJ1_indexOf_4cfef 18 = .ok (.invokestatic 38, 3) := by decide +kernel
theorem dJ1_indexOf_4cfef_21 : decode cJ1_indexOf_4cfef 21 = .ok (.istore_n 3, 1) := by decide +kernel
theorem dJ1_indexOf_4cfef_22 : decode cJ1_indexOf_4cfef 22 = .ok (.iload_n 2, 1) := by decide +kernel
theorem dJ1_indexOf_4cfef_23 : decode cJ1_indexOf_4cfef 23 = .ok (.iload_n 3, 1) := by decide +kernel
theorem dJ1_indexOf_4cfef_24 : decode cJ1_indexOf_4cfef 24 = .ok (.if_icmp .lt 5, 3) := by decide +kernel
theorem dJ1_indexOf_4cfef_29 : decode cJ1_indexOf_4cfef 29 = .ok (.aload_n 0, 1) := by decide +kernel
theorem dJ1_indexOf_4cfef_30 : decode cJ1_indexOf_4cfef 30 = .ok (.iload_n 1, 1) := by decide +kernel
theorem dJ1_indexOf_4cfef_31 : decode cJ1_indexOf_4cfef 31 = .ok (.iload_n 2, 1) := by decide +kernel
theorem dJ1_indexOf_4cfef_32 : decode cJ1_indexOf_4cfef 32 = .ok (.iload_n 3, 1) := by decide +kernel
theorem q_2_157 : Cond.code yJ1_indexOfChar_4cfef prog_17_method_23_code 6 (some FieldType.int) ∈ gw := gw_2 (i := 157) (rfl) rfl
theorem q_2_156 : Cond.static yJ1_indexOfChar_4cfef ∈ gw := gw_2 (i := 156) (by decide +kernel) rfl
theorem mt_J1_indexOfChar_4cfef : MtS yJ1_indexOfChar_4cfef cJ1_indexOfChar_4cfef 6 (some .int) 4 := ⟨⟨q_2_157, q_1_12, by decide +kernel, by decide +kernel, by decide +kernel⟩, q_2_156⟩
theorem q_2_155 : Cond.methodLink "java/lang/StringLatin1" 95 yJ1_indexOfChar_4cfef ∈ gw := gw_2 (i := 155) (by decide +kernel) rfl
theorem dJ1_indexOf_4cfef_33 : decode cJ1_indexOf_4cfef 33 = .ok (.invokestatic 95, 3) := by decide +kernel
theorem dJ1_indexOf_4cfef_36 : decode cJ1_indexOf_4cfef 36 = .ok (.ireturn, 1) := by decide +kernel
theorem dJ1_indexOf_4cfef_7 : decode cJ1_indexOf_4cfef 7 = .ok (.iconst (-1), 1) := by decide +kernel
theorem dJ1_indexOf_4cfef_8 : decode cJ1_indexOf_4cfef 8 = .ok (.ireturn, 1) := by decide +kernel
set_option maxHeartbeats 4000000 in
set_option maxRecDepth 100000 in
theorem k_J1_indexOf_4cfef_0 (l : Launch) (V : GV) (si : Nat) (sq : String × Nat × String × List Int32) (hsi : sL[si]? = some sq) (a1 : Int32) (a2 : Int32) (a3 : Int32) (ba2 : iv 0 0 a2) (ba3 : iv ((sq.2.2.2.length : Int)) ((sq.2.2.2.length : Int)) a3) : Ct l V yJ1_indexOf_4cfef (.code yJ1_indexOf_4cfef cJ1_indexOf_4cfef 4 (some .int)) 2 [.ref (V.2.1 (200 + si)), .int a1, .int a2, .int a3] [] 0 0 (QI V (fun (r : Int32) (w : va_W) => iv (-1) ((sq.2.2.2.length : Int) - 1) r ∧ (IX sq.2.2.2 a1 r) ∧ w = [])) := by
  have hSL := sL_len hsi
  refine Ct.of (by decide) (Nat.le_of_ble_eq_true rfl) (fun p e s m below meth c A ls hx hb hr hml hown hlk hnm hg hP hK hD hE hA hS hl => ?_)
  have hl : lv_has ls 4 [(0, .ref (V.2.1 (200 + si))), (1, .int a1), (2, .int a2), (3, .int a3)] := hl
  refine lv_iload_n hx hb dJ1_indexOf_4cfef_0 rfl (lv_at hl 1 rfl) ?_
  refine jnI (wr := []) (rnS (rest := []) ⟨hx, hb, hml, hown, hg⟩ (k_J1_canEncode_9a6ad_0 l V a1) mt_J1_canEncode_9a6ad q_2_150 ⟨Nat.le_of_ble_eq_true rfl, Nat.le_of_ble_eq_true rfl⟩ hK hP hD hS hA hE [] rfl rfl rfl hl.1 rfl (Nat.le_of_ble_eq_true rfl) dJ1_indexOf_4cfef_1 ⟨Nat.le_of_ble_eq_true rfl, Nat.le_of_ble_eq_true rfl⟩) hP hD hS hA [] [] rfl rfl rfl (by decide) (fun r_1 w H locs hw hP hD hS => ?_)
  obtain ⟨br_1, g_2, rfl⟩ := hw
  have hP : va_P V.1 vwCl [] H := hP
  have hD := cpD hP hD
  refine lv_if_ne (tgt := 9) hx hb dJ1_indexOf_4cfef_4 (by decide) (fun c_3 => ?_) (fun c_3 => ?_)
  · have b_4 : iv 1 1 r_1 := iv_n0 c_3 br_1 (iv_c (0 : Int32) (a := 0) (b := 0) (by decide)) (by first | decide | omega)
    refine lv_iload_n hx hb dJ1_indexOf_4cfef_9 rfl (lv_at hl 2 rfl) ?_
    refine lv_iconst (v := 0) hx hb dJ1_indexOf_4cfef_10 (by decide) ?_
    refine va_mmax hx hb (hml.trans hl.1.symm) hown (hg _ q_2_153) (hg _ q_2_102) (hg _ q_1_10) (hg _ q_2_103) (Nat.le_of_ble_eq_true rfl) (Nat.le_of_ble_eq_true rfl) (Nat.le_of_ble_eq_true rfl) (Nat.le_of_ble_eq_true rfl) dJ1_indexOf_4cfef_11 ?_
    refine lv_topi (fun x_5 ex_5 => ?_)
    have bx_5 : iv 0 0 x_5 := by rw [ex_5]; exact iv_max ba2 (iv_c (0 : Int32) (a := 0) (b := 0) (by decide)) (by first | decide | omega)
    refine lv_istore_n (lv' := [(2, .int x_5), (0, .ref (V.2.1 (200 + si))), (1, .int a1), (3, .int a3)]) hx hb dJ1_indexOf_4cfef_14 rfl hl (by decide) rfl (fun ls hl => ?_)
    refine lv_iload_n hx hb dJ1_indexOf_4cfef_15 rfl (lv_at hl 3 rfl) ?_
    refine lv_aload_n hx hb dJ1_indexOf_4cfef_16 rfl (lv_at hl 1 rfl) ?_
    refine va_tlen (v := (nI sq.2.2.2.length)) hx hb (hE.2.2.2.2.2.2 si sq hsi).2.2.2.2 hS rfl dJ1_indexOf_4cfef_17 ?_
    refine va_mmin hx hb (hml.trans hl.1.symm) hown (hg _ q_2_154) (hg _ q_2_99) (hg _ q_1_10) (hg _ q_2_100) (Nat.le_of_ble_eq_true rfl) (Nat.le_of_ble_eq_true rfl) (Nat.le_of_ble_eq_true rfl) (Nat.le_of_ble_eq_true rfl) dJ1_indexOf_4cfef_18 ?_
    refine lv_topi (fun x_6 ex_6 => ?_)
    have bx_6 : iv ((sq.2.2.2.length : Int)) ((sq.2.2.2.length : Int)) x_6 := by rw [ex_6]; exact iv_min ba3 (iv_nI (by omega)) (by first | decide | omega)
    refine lv_istore_n (lv' := [(3, .int x_6), (2, .int x_5), (0, .ref (V.2.1 (200 + si))), (1, .int a1)]) hx hb dJ1_indexOf_4cfef_21 rfl hl (by decide) rfl (fun ls hl => ?_)
    refine lv_iload_n hx hb dJ1_indexOf_4cfef_22 rfl (lv_at hl 1 rfl) ?_
    refine lv_iload_n hx hb dJ1_indexOf_4cfef_23 rfl (lv_at hl 0 rfl) ?_
    refine lv_icmp_lt (tgt := 29) hx hb dJ1_indexOf_4cfef_24 (by decide) (fun _ => ?_) (fun c_7 => absurd (iv_lt bx_5 bx_6 (by first | decide | omega)) c_7)
    refine lv_aload_n hx hb dJ1_indexOf_4cfef_29 rfl (lv_at hl 2 rfl) ?_
    refine lv_iload_n hx hb dJ1_indexOf_4cfef_30 rfl (lv_at hl 3 rfl) ?_
    refine lv_iload_n hx hb dJ1_indexOf_4cfef_31 rfl (lv_at hl 1 rfl) ?_
    refine lv_iload_n hx hb dJ1_indexOf_4cfef_32 rfl (lv_at hl 0 rfl) ?_
    refine jnI (wr := []) (rnS (rest := []) ⟨hx, hb, hml, hown, hg⟩ (k_J1_indexOfChar_4cfef_0 l V si sq hsi a1 x_5 x_6 bx_5 bx_6) mt_J1_indexOfChar_4cfef q_2_155 ⟨Nat.le_of_ble_eq_true rfl, Nat.le_of_ble_eq_true rfl⟩ hK hP hD hS hA hE [] rfl rfl rfl hl.1 rfl (Nat.le_of_ble_eq_true rfl) dJ1_indexOf_4cfef_33 ⟨Nat.le_of_ble_eq_true rfl, Nat.le_of_ble_eq_true rfl⟩) hP hD hS hA [] [] rfl rfl rfl (by decide) (fun r_8 w H locs hw hP hD hS => ?_)
    obtain ⟨br_8, g_9, rfl⟩ := hw
    have hP : va_P V.1 vwCl [] H := hP
    have hD := cpD hP hD
    exact fiI hx hb hr hlk hK hP hD hS dJ1_indexOf_4cfef_36 (Nat.le_of_ble_eq_true rfl) (Nat.le_of_ble_eq_true rfl) (⟨br_8, g_9, rfl⟩)
  · have b_10 : iv 0 0 r_1 := iv_q c_3 (iv_c (0 : Int32) (a := 0) (b := 0) (by decide))
    refine lv_iconst (v := (-1)) hx hb dJ1_indexOf_4cfef_7 (by decide) ?_
    exact fiI hx hb hr hlk hK hP hD hS dJ1_indexOf_4cfef_8 (Nat.le_of_ble_eq_true rfl) (Nat.le_of_ble_eq_true rfl) (⟨(iv_w (iv_c ((-1) : Int32) (a := (-1)) (b := (-1)) (by decide)) (by first | decide | omega)), (fun q9 => absurd q9 (g_2 (iv_eqp b_10 (iv_c (0 : Int32) (by decide))))), rfl⟩)
theorem dJ0_indexOf_7cf53_0 : decode cJ0_indexOf_7cf53 0 = .ok (.aload_n 0, 1) := by decide +kernel
theorem dJ0_indexOf_7cf53_1 : decode cJ0_indexOf_7cf53 1 = .ok (.invokevirtual 492, 3) := by decide +kernel
theorem dJ0_indexOf_7cf53_4 : decode cJ0_indexOf_7cf53 4 = .ok (.ifCond .eq 19, 3) := by decide +kernel
theorem dJ0_indexOf_7cf53_7 : decode cJ0_indexOf_7cf53 7 = .ok (.aload_n 0, 1) := by decide +kernel
theorem dJ0_indexOf_7cf53_8 : decode cJ0_indexOf_7cf53 8 = .ok (.getfield 9, 3) := by decide +kernel
theorem dJ0_indexOf_7cf53_11 : decode cJ0_indexOf_7cf53 11 = .ok (.iload_n 1, 1) := by decide +kernel
theorem dJ0_indexOf_7cf53_12 : decode cJ0_indexOf_7cf53 12 = .ok (.iload_n 2, 1) := by decide +kernel
theorem dJ0_indexOf_7cf53_13 : decode cJ0_indexOf_7cf53 13 = .ok (.aload_n 0, 1) := by decide +kernel
theorem q_2_142 : Cond.code yJ0_length_8abf5 prog_16_method_54_code 1 (some FieldType.int) ∈ gw := gw_2 (i := 142) (rfl) rfl
theorem q_2_140 : Cond.instanceMethod yJ0_length_8abf5 ∈ gw := gw_2 (i := 140) (by decide +kernel) rfl
theorem q_2_141 : Cond.selects "java/lang/String" yJ0_length_8abf5 yJ0_length_8abf5 ∈ gw := gw_2 (i := 141) (by decide +kernel) rfl
theorem mt_J0_length_8abf5 : MtV yJ0_length_8abf5 cJ0_length_8abf5 1 (some .int) 0 := ⟨⟨q_2_142, q_1_11, by decide +kernel, by decide +kernel, by decide +kernel⟩, q_2_140, q_2_141⟩
theorem q_2_139 : Cond.methodLink "java/lang/String" 505 yJ0_length_8abf5 ∈ gw := gw_2 (i := 139) (by decide +kernel) rfl
theorem dJ0_indexOf_7cf53_14 : decode cJ0_indexOf_7cf53 14 = .ok (.invokevirtual 505, 3) := by decide +kernel
theorem q_2_149 : Cond.code yJ1_indexOf_4cfef prog_17_method_22_code 4 (some FieldType.int) ∈ gw := gw_2 (i := 149) (rfl) rfl
theorem q_2_148 : Cond.static yJ1_indexOf_4cfef ∈ gw := gw_2 (i := 148) (by decide +kernel) rfl
theorem mt_J1_indexOf_4cfef : MtS yJ1_indexOf_4cfef cJ1_indexOf_4cfef 4 (some .int) 4 := ⟨⟨q_2_149, q_1_12, by decide +kernel, by decide +kernel, by decide +kernel⟩, q_2_148⟩
theorem q_2_147 : Cond.methodLink "java/lang/String" 637 yJ1_indexOf_4cfef ∈ gw := gw_2 (i := 147) (by decide +kernel) rfl
theorem dJ0_indexOf_7cf53_17 : decode cJ0_indexOf_7cf53 17 = .ok (.invokestatic 637, 3) := by decide +kernel
theorem dJ0_indexOf_7cf53_20 : decode cJ0_indexOf_7cf53 20 = .ok (.goto 16, 3) := by decide +kernel
theorem dJ0_indexOf_7cf53_36 : decode cJ0_indexOf_7cf53 36 = .ok (.ireturn, 1) := by decide +kernel
set_option maxHeartbeats 4000000 in
set_option maxRecDepth 100000 in
theorem k_J0_indexOf_7cf53_0 (l : Launch) (V : GV) (si : Nat) (sq : String × Nat × String × List Int32) (hsi : sL[si]? = some sq) (a1 : Int32) (a2 : Int32) (ba2 : iv 0 0 a2) : Ct l V yJ0_indexOf_7cf53 (.code yJ0_indexOf_7cf53 cJ0_indexOf_7cf53 3 (some .int)) 3 [.ref (V.2.1 (100 + si)), .int a1, .int a2] [] 0 0 (QI V (fun (r : Int32) (w : va_W) => iv (-1) ((sq.2.2.2.length : Int) - 1) r ∧ (IX sq.2.2.2 a1 r) ∧ w = [])) := by
  have hSL := sL_len hsi
  refine Ct.of (by decide) (Nat.le_of_ble_eq_true rfl) (fun p e s m below meth c A ls hx hb hr hml hown hlk hnm hg hP hK hD hE hA hS hl => ?_)
  have hl : lv_has ls 3 [(0, .ref (V.2.1 (100 + si))), (1, .int a1), (2, .int a2)] := hl
  refine lv_aload_n hx hb dJ0_indexOf_7cf53_0 rfl (lv_at hl 0 rfl) ?_
  refine jnI (wr := []) (rnVx (rest := []) ⟨hx, hb, hml, hown, hg⟩ (k_J0_isLatin1_aae02_0 l V si sq hsi) mt_J0_isLatin1_aae02 q_2_133 ⟨Nat.le_of_ble_eq_true rfl, Nat.le_of_ble_eq_true rfl⟩ hK hP hD hS hA hE [] rfl rfl (o_recv (hE.2.2.2.2.2.2 si sq hsi).2.1 hS) rfl hl.1 rfl (Nat.le_of_ble_eq_true rfl) dJ0_indexOf_7cf53_1 ⟨Nat.le_of_ble_eq_true rfl, Nat.le_of_ble_eq_true rfl⟩) hP hD hS hA [] [] rfl rfl rfl (by decide) (fun r_1 w H locs hw hP hD hS => ?_)
  obtain ⟨rfl, rfl⟩ := hw
  have hP : va_P V.1 vwCl [] H := hP
  have hD := cpD hP hD
  refine lv_if_eq (tgt := 23) hx hb dJ0_indexOf_7cf53_4 (by decide) (fun c_3 => absurd c_3 (by decide)) (fun _ => ?_)
  refine lv_aload_n hx hb dJ0_indexOf_7cf53_7 rfl (lv_at hl 0 rfl) ?_
  refine vk_getf hx hb (hE.2.2.2.2.2.2 si sq hsi).2.2.2.1 hS hown (hg _ q_8_161) (fun _ h9 => h9) dJ0_indexOf_7cf53_8 ?_
  refine lv_iload_n hx hb dJ0_indexOf_7cf53_11 rfl (lv_at hl 1 rfl) ?_
  refine lv_iload_n hx hb dJ0_indexOf_7cf53_12 rfl (lv_at hl 2 rfl) ?_
  refine lv_aload_n hx hb dJ0_indexOf_7cf53_13 rfl (lv_at hl 0 rfl) ?_
  refine jnI (wr := []) (rnVx (rest := [.int a2, .int a1, .ref (V.2.1 (200 + si))]) ⟨hx, hb, hml, hown, hg⟩ (k_J0_length_8abf5_0 l V si sq hsi) mt_J0_length_8abf5 q_2_139 ⟨Nat.le_of_ble_eq_true rfl, Nat.le_of_ble_eq_true rfl⟩ hK hP hD hS hA hE [] rfl rfl (o_recv (hE.2.2.2.2.2.2 si sq hsi).2.1 hS) rfl hl.1 rfl (Nat.le_of_ble_eq_true rfl) dJ0_indexOf_7cf53_14 ⟨Nat.le_of_ble_eq_true rfl, Nat.le_of_ble_eq_true rfl⟩) hP hD hS hA [] [] rfl rfl rfl (by decide) (fun r_4 w H locs hw hP hD hS => ?_)
  obtain ⟨rfl, rfl⟩ := hw
  have hP : va_P V.1 vwCl [] H := hP
  have hD := cpD hP hD
  refine jnI (wr := []) (rnS (rest := []) ⟨hx, hb, hml, hown, hg⟩ (k_J1_indexOf_4cfef_0 l V si sq hsi a1 a2 (nI sq.2.2.2.length) ba2 (iv_nI (by omega))) mt_J1_indexOf_4cfef q_2_147 ⟨Nat.le_of_ble_eq_true rfl, Nat.le_of_ble_eq_true rfl⟩ hK hP hD hS hA hE [] rfl rfl rfl hl.1 rfl (Nat.le_of_ble_eq_true rfl) dJ0_indexOf_7cf53_17 ⟨Nat.le_of_ble_eq_true rfl, Nat.le_of_ble_eq_true rfl⟩) hP hD hS hA [] [] rfl rfl rfl (by decide) (fun r_5 w H locs hw hP hD hS => ?_)
  obtain ⟨br_5, g_6, rfl⟩ := hw
  have hP : va_P V.1 vwCl [] H := hP
  have hD := cpD hP hD
  refine lv_goto (tgt := 36) hx hb dJ0_indexOf_7cf53_20 (by decide) ?_
  exact fiI hx hb hr hlk hK hP hD hS dJ0_indexOf_7cf53_36 (Nat.le_of_ble_eq_true rfl) (Nat.le_of_ble_eq_true rfl) (⟨br_5, g_6, rfl⟩)
theorem dJ0_indexOf_0f7a4_0 : decode cJ0_indexOf_0f7a4 0 = .ok (.aload_n 0, 1) := by decide +kernel
theorem dJ0_indexOf_0f7a4_1 : decode cJ0_indexOf_0f7a4 1 = .ok (.iload_n 1, 1) := by decide +kernel
theorem dJ0_indexOf_0f7a4_2 : decode cJ0_indexOf_0f7a4 2 = .ok (.iconst 0, 1) := by decide +kernel
theorem q_2_132 : Cond.code yJ0_indexOf_7cf53 prog_16_method_80_code 3 (some FieldType.int) ∈ gw := gw_2 (i := 132) (rfl) rfl
theorem q_2_130 : Cond.instanceMethod yJ0_indexOf_7cf53 ∈ gw := gw_2 (i := 130) (by decide +kernel) rfl
theorem q_2_131 : Cond.selects "java/lang/String" yJ0_indexOf_7cf53 yJ0_indexOf_7cf53 ∈ gw := gw_2 (i := 131) (by decide +kernel) rfl
theorem mt_J0_indexOf_7cf53 : MtV yJ0_indexOf_7cf53 cJ0_indexOf_7cf53 3 (some .int) 2 := ⟨⟨q_2_132, q_1_11, by decide +kernel, by decide +kernel, by decide +kernel⟩, q_2_130, q_2_131⟩
theorem q_2_129 : Cond.methodLink "java/lang/String" 633 yJ0_indexOf_7cf53 ∈ gw := gw_2 (i := 129) (by decide +kernel) rfl
theorem dJ0_indexOf_0f7a4_3 : decode cJ0_indexOf_0f7a4 3 = .ok (.invokevirtual 633, 3) := by decide +kernel
theorem dJ0_indexOf_0f7a4_6 : decode cJ0_indexOf_0f7a4 6 = .ok (.ireturn, 1) := by decide +kernel
set_option maxHeartbeats 4000000 in
set_option maxRecDepth 100000 in
theorem k_J0_indexOf_0f7a4_0 (l : Launch) (V : GV) (si : Nat) (sq : String × Nat × String × List Int32) (hsi : sL[si]? = some sq) (a1 : Int32) : Ct l V yJ0_indexOf_0f7a4 (.code yJ0_indexOf_0f7a4 cJ0_indexOf_0f7a4 2 (some .int)) 4 [.ref (V.2.1 (100 + si)), .int a1] [] 0 0 (QI V (fun (r : Int32) (w : va_W) => iv (-1) ((sq.2.2.2.length : Int) - 1) r ∧ (IX sq.2.2.2 a1 r) ∧ w = [])) := by
  have hSL := sL_len hsi
  refine Ct.of (by decide) (Nat.le_of_ble_eq_true rfl) (fun p e s m below meth c A ls hx hb hr hml hown hlk hnm hg hP hK hD hE hA hS hl => ?_)
  have hl : lv_has ls 2 [(0, .ref (V.2.1 (100 + si))), (1, .int a1)] := hl
  refine lv_aload_n hx hb dJ0_indexOf_0f7a4_0 rfl (lv_at hl 0 rfl) ?_
  refine lv_iload_n hx hb dJ0_indexOf_0f7a4_1 rfl (lv_at hl 1 rfl) ?_
  refine lv_iconst (v := 0) hx hb dJ0_indexOf_0f7a4_2 (by decide) ?_
  refine jnI (wr := []) (rnVx (rest := []) ⟨hx, hb, hml, hown, hg⟩ (k_J0_indexOf_7cf53_0 l V si sq hsi a1 0 (iv_c (0 : Int32) (by decide))) mt_J0_indexOf_7cf53 q_2_129 ⟨Nat.le_of_ble_eq_true rfl, Nat.le_of_ble_eq_true rfl⟩ hK hP hD hS hA hE [] rfl rfl (o_recv (hE.2.2.2.2.2.2 si sq hsi).2.1 hS) rfl hl.1 rfl (Nat.le_of_ble_eq_true rfl) dJ0_indexOf_0f7a4_3 ⟨Nat.le_of_ble_eq_true rfl, Nat.le_of_ble_eq_true rfl⟩) hP hD hS hA [] [] rfl rfl rfl (by decide) (fun r_1 w H locs hw hP hD hS => ?_)
  obtain ⟨br_1, g_2, rfl⟩ := hw
  have hP : va_P V.1 vwCl [] H := hP
  have hD := cpD hP hD
  exact fiI hx hb hr hlk hK hP hD hS dJ0_indexOf_0f7a4_6 (Nat.le_of_ble_eq_true rfl) (Nat.le_of_ble_eq_true rfl) (⟨br_1, g_2, rfl⟩)
theorem dX6_at_0 : decode cX6_at 0 = .ok (.aload_n 0, 1) := by decide +kernel
theorem q_1_142 : Cond.fieldLink "BeaconDelay$Reader" 41 "BeaconDelay$Reader" "kind" "I" ∈ gw := gw_1 (i := 142) (by decide +kernel) rfl
theorem dX6_at_1 : decode cX6_at 1 = .ok (.getfield 41, 3) := by decide +kernel
theorem dX6_at_4 : decode cX6_at 4 = .ok (.iconst 1, 1) := by decide +kernel
theorem dX6_at_5 : decode cX6_at 5 = .ok (.if_icmp .eq 11, 3) := by decide +kernel
theorem dX6_at_16 : decode cX6_at 16 = .ok (.aload_n 1, 1) := by decide +kernel
theorem q_2_216 : Cond.methodLink "BeaconDelay$Reader" 235 yJ0_length_8abf5 ∈ gw := gw_2 (i := 216) (by decide +kernel) rfl
theorem dX6_at_17 : decode cX6_at 17 = .ok (.invokevirtual 235, 3) := by decide +kernel
theorem dX6_at_20 : decode cX6_at 20 = .ok (.aload_n 0, 1) := by decide +kernel
theorem q_1_144 : Cond.fieldLink "BeaconDelay$Reader" 44 "BeaconDelay$Reader" "end" "I" ∈ gw := gw_1 (i := 144) (by decide +kernel) rfl
theorem dX6_at_21 : decode cX6_at 21 = .ok (.getfield 44, 3) := by decide +kernel
theorem dX6_at_24 : decode cX6_at 24 = .ok (.aload_n 0, 1) := by decide +kernel
theorem q_1_143 : Cond.fieldLink "BeaconDelay$Reader" 240 "BeaconDelay$Reader" "place" "I" ∈ gw := gw_1 (i := 143) (by decide +kernel) rfl
theorem dX6_at_25 : decode cX6_at 25 = .ok (.getfield 240, 3) := by decide +kernel
theorem dX6_at_28 : decode cX6_at 28 = .ok (.isub, 1) := by decide +kernel
theorem dX6_at_29 : decode cX6_at 29 = .ok (.if_icmp .eq 5, 3) := by decide +kernel
theorem dX6_at_34 : decode cX6_at 34 = .ok (.iconst 0, 1) := by decide +kernel
theorem dX6_at_35 : decode cX6_at 35 = .ok (.istore_n 2, 1) := by decide +kernel
theorem dX6_at_36 : decode cX6_at 36 = .ok (.iload_n 2, 1) := by decide +kernel
theorem dX6_at_37 : decode cX6_at 37 = .ok (.aload_n 1, 1) := by decide +kernel
theorem dX6_at_38 : decode cX6_at 38 = .ok (.invokevirtual 235, 3) := by decide +kernel
theorem dX6_at_41 : decode cX6_at 41 = .ok (.if_icmp .ge 30, 3) := by decide +kernel
theorem dX6_at_71 : decode cX6_at 71 = .ok (.iconst 1, 1) := by decide +kernel
theorem dX6_at_72 : decode cX6_at 72 = .ok (.ireturn, 1) := by decide +kernel
theorem dX6_at_44 : decode cX6_at 44 = .ok (.aload_n 0, 1) := by decide +kernel
theorem q_1_140 : Cond.fieldLink "BeaconDelay$Reader" 22 "BeaconDelay$Reader" "text" "[B" ∈ gw := gw_1 (i := 140) (by decide +kernel) rfl
theorem dX6_at_45 : decode cX6_at 45 = .ok (.getfield 22, 3) := by decide +kernel
theorem dX6_at_48 : decode cX6_at 48 = .ok (.aload_n 0, 1) := by decide +kernel
theorem dX6_at_49 : decode cX6_at 49 = .ok (.getfield 240, 3) := by decide +kernel
theorem dX6_at_52 : decode cX6_at 52 = .ok (.iload_n 2, 1) := by decide +kernel
theorem dX6_at_53 : decode cX6_at 53 = .ok (.iadd, 1) := by decide +kernel
theorem dX6_at_54 : decode cX6_at 54 = .ok (.baload, 1) := by decide +kernel
theorem dX6_at_55 : decode cX6_at 55 = .ok (.aload_n 1, 1) := by decide +kernel
theorem dX6_at_56 : decode cX6_at 56 = .ok (.iload_n 2, 1) := by decide +kernel
theorem q_2_220 : Cond.code yJ0_charAt_5068e prog_16_method_56_code 2 (some FieldType.char) ∈ gw := gw_2 (i := 220) (rfl) rfl
theorem q_2_218 : Cond.instanceMethod yJ0_charAt_5068e ∈ gw := gw_2 (i := 218) (by decide +kernel) rfl
theorem q_2_219 : Cond.selects "java/lang/String" yJ0_charAt_5068e yJ0_charAt_5068e ∈ gw := gw_2 (i := 219) (by decide +kernel) rfl
theorem mt_J0_charAt_5068e : MtV yJ0_charAt_5068e cJ0_charAt_5068e 2 (some .char) 1 := ⟨⟨q_2_220, q_1_11, by decide +kernel, by decide +kernel, by decide +kernel⟩, q_2_218, q_2_219⟩
theorem q_2_217 : Cond.methodLink "BeaconDelay$Reader" 243 yJ0_charAt_5068e ∈ gw := gw_2 (i := 217) (by decide +kernel) rfl
theorem dX6_at_57 : decode cX6_at 57 = .ok (.invokevirtual 243, 3) := by decide +kernel
theorem dX6_at_60 : decode cX6_at 60 = .ok (.if_icmp .eq 5, 3) := by decide +kernel
theorem dX6_at_65 : decode cX6_at 65 = .ok (.iinc 2 1, 3) := by decide +kernel
theorem dX6_at_68 : decode cX6_at 68 = .ok (.goto (-32), 3) := by decide +kernel
theorem dX6_at_63 : decode cX6_at 63 = .ok (.iconst 0, 1) := by decide +kernel
theorem dX6_at_64 : decode cX6_at 64 = .ok (.ireturn, 1) := by decide +kernel
theorem dX6_at_32 : decode cX6_at 32 = .ok (.iconst 0, 1) := by decide +kernel
theorem dX6_at_33 : decode cX6_at 33 = .ok (.ireturn, 1) := by decide +kernel
theorem dX6_at_8 : decode cX6_at 8 = .ok (.aload_n 0, 1) := by decide +kernel
theorem dX6_at_9 : decode cX6_at 9 = .ok (.getfield 41, 3) := by decide +kernel
theorem dX6_at_12 : decode cX6_at 12 = .ok (.iconst 3, 1) := by decide +kernel
theorem dX6_at_13 : decode cX6_at 13 = .ok (.if_icmp .ne 19, 3) := by decide +kernel
set_option maxHeartbeats 4000000 in
set_option maxRecDepth 100000 in
theorem k_X6_at_0 (l : Launch) (V : GV) (y : Nat → Nat) (si : Nat) (sq : String × Nat × String × List Int32) (hsi : sL[si]? = some sq) (fy1 : Nat → Int32) (py10_1 : Int32) (py10_2 : Int32) (py10_4 : Int32) (py10_5 : Int32) (py10_6 : Int32) (py10_7 : Int32) (py10_8 : Int32) (tfy1 : ∀ j, iv (-128) 127 (fy1 j)) (bpy10_4 : iv 0 900 py10_4) (bpy10_6 : iv 0 900 py10_6) (bpy10_7 : iv 0 900 py10_7) (bpy10_8 : iv 0 999 py10_8) : Ct l V yX6_at (.code yX6_at cX6_at 3 (some .boolean)) 5 [.ref (y 10), .ref (V.2.1 (100 + si))] [(y 1, aB V 900 fy1), (y 10, .inr (6, o6_riiriiiii (y 11) py10_1 py10_2 (y 1) py10_4 py10_5 py10_6 py10_7 py10_8))] 0 0 (QI V (fun (r : Int32) (w : va_W) => iv 0 1 r ∧ r = atF sq.2.2.2 py10_5 py10_6 py10_7 fy1 ∧ w = [(y 1, aB V 900 fy1), (y 10, .inr (6, o6_riiriiiii (y 11) py10_1 py10_2 (y 1) py10_4 py10_5 py10_6 py10_7 py10_8))])) := by
  have hSL := sL_len hsi
  refine Ct.of (by decide) (Nat.le_of_ble_eq_true rfl) (fun p e s m below meth c A ls hx hb hr hml hown hlk hnm hg hP hK hD hE hA hS hl => ?_)
  have hl : lv_has ls 3 [(0, .ref (y 10)), (1, .ref (V.2.1 (100 + si)))] := hl
  refine lv_aload_n hx hb dX6_at_0 rfl (lv_at hl 0 rfl) ?_
  refine va_get (ci := 6) (v := .int py10_5) (C := RX6) (T := TX6) (N := 9) hx hb hg inX6 hown hK hP 1 rfl rfl 5 (by decide) (hg _ q_1_142) (fun _ h9 => h9) rfl dX6_at_1 ?_
  refine lv_iconst (v := 1) hx hb dX6_at_4 (by decide) ?_
  refine lv_icmp_eq (tgt := 16) hx hb dX6_at_5 (by decide) (fun c_1 => ?_) (fun c_1 => ?_)
  · have b_2 : iv 1 1 py10_5 := iv_q c_1 (iv_c (1 : Int32) (a := 1) (b := 1) (by decide))
    refine lv_aload_n hx hb dX6_at_16 rfl (lv_at hl 1 rfl) ?_
    refine jnI (wr := [(y 1, aB V 900 fy1), (y 10, .inr (6, o6_riiriiiii (y 11) py10_1 py10_2 (y 1) py10_4 py10_5 py10_6 py10_7 py10_8))]) (rnVx (rest := []) ⟨hx, hb, hml, hown, hg⟩ (k_J0_length_8abf5_0 l V si sq hsi) mt_J0_length_8abf5 q_2_216 ⟨Nat.le_of_ble_eq_true rfl, Nat.le_of_ble_eq_true rfl⟩ hK hP hD hS hA hE [] rfl rfl (o_recv (hE.2.2.2.2.2.2 si sq hsi).2.1 hS) rfl hl.1 rfl (Nat.le_of_ble_eq_true rfl) dX6_at_17 ⟨Nat.le_of_ble_eq_true rfl, Nat.le_of_ble_eq_true rfl⟩) hP hD hS hA [] [0, 1] rfl rfl rfl (by decide) (fun r_3 w H locs hw hP hD hS => ?_)
    obtain ⟨rfl, rfl⟩ := hw
    have hP : va_P V.1 vwCl [(y 1, aB V 900 fy1), (y 10, .inr (6, o6_riiriiiii (y 11) py10_1 py10_2 (y 1) py10_4 py10_5 py10_6 py10_7 py10_8))] H := hP
    have hD := cpD hP hD
    refine lv_aload_n hx hb dX6_at_20 rfl (lv_at hl 0 rfl) ?_
    refine va_get (ci := 6) (v := .int py10_7) (C := RX6) (T := TX6) (N := 9) hx hb hg inX6 hown hK hP 1 rfl rfl 7 (by decide) (hg _ q_1_144) (fun _ h9 => h9) rfl dX6_at_21 ?_
    refine lv_aload_n hx hb dX6_at_24 rfl (lv_at hl 0 rfl) ?_
    refine va_get (ci := 6) (v := .int py10_6) (C := RX6) (T := TX6) (N := 9) hx hb hg inX6 hown hK hP 1 rfl rfl 6 (by decide) (hg _ q_1_143) (fun _ h9 => h9) rfl dX6_at_25 ?_
    refine lv_isub hx hb dX6_at_28 ?_
    refine lv_topi (fun x_4 ex_4 => ?_)
    have bx_4 : iv (-900) 900 x_4 := by rw [ex_4]; exact iv_sub bpy10_7 bpy10_6 (by first | decide | omega)
    refine lv_icmp_eq (tgt := 34) hx hb dX6_at_29 (by decide) (fun c_5 => ?_) (fun c_5 => ?_)
    · have b_6 : iv ((sq.2.2.2.length : Int)) ((sq.2.2.2.length : Int)) x_4 := iv_q c_5.symm (iv_nI (by omega))
      refine lv_iconst (v := 0) hx hb dX6_at_34 (by decide) ?_
      refine lv_istore_n (lv' := [(2, .int 0), (0, .ref (y 10)), (1, .ref (V.2.1 (100 + si)))]) hx hb dX6_at_35 rfl hl (by decide) rfl (fun ls hl => ?_)
      refine loopF (X := fun (n_8 : Nat) (H : Heap) (locs : List Loc) (ls : Array Slot) => ∃ (u_7 : Int32), (iv 0 2147483647 u_7) ∧ (∀ j : Nat, (j : Int) < (u_7 : Int32).toInt → fy1 (py10_6 + nI j).toNatClampNeg = chF sq.2.2.2 (nI j)) ∧ n_8 = (2147483647 - (u_7 : Int32).toInt).toNat ∧ va_P V.1 vwCl [(y 1, aB V 900 fy1), (y 10, .inr (6, o6_riiriiiii (y 11) py10_1 py10_2 (y 1) py10_4 py10_5 py10_6 py10_7 py10_8))] H ∧ va_D A [(y 1, aB V 900 fy1), (y 10, .inr (6, o6_riiriiiii (y 11) py10_1 py10_2 (y 1) py10_4 py10_5 py10_6 py10_7 py10_8))] ∧ va_S A s.heap H locs ∧ lv_has ls 3 [(2, .int u_7), (0, .ref (y 10)), (1, .ref (V.2.1 (100 + si)))]) (g := fun ls => F0 m 36 ls []) (fun n_8 H locs ls hX ihn_8 => ?_) _ ⟨0, (iv_c (0 : Int32) (by decide)), (fun j hj => absurd hj (by have h9 : (0 : Int32).toInt = 0 := (by decide); omega)), rfl, hP, hD, hS, lv_sub hl [0, 1, 2] rfl⟩
      obtain ⟨u_7, bu_7, inn_8_0, en_8, hP, hD, hS, hl⟩ := hX
      refine lv_iload_n hx hb dX6_at_36 rfl (lv_at hl 0 rfl) ?_
      refine lv_aload_n hx hb dX6_at_37 rfl (lv_at hl 2 rfl) ?_
      refine jnI (wr := [(y 1, aB V 900 fy1), (y 10, .inr (6, o6_riiriiiii (y 11) py10_1 py10_2 (y 1) py10_4 py10_5 py10_6 py10_7 py10_8))]) (rnVx (rest := [.int u_7]) ⟨hx, hb, hml, hown, hg⟩ (k_J0_length_8abf5_0 l V si sq hsi) mt_J0_length_8abf5 q_2_216 ⟨Nat.le_of_ble_eq_true rfl, Nat.le_of_ble_eq_true rfl⟩ hK hP hD hS hA hE [] rfl rfl (o_recv (hE.2.2.2.2.2.2 si sq hsi).2.1 hS) rfl hl.1 rfl (Nat.le_of_ble_eq_true rfl) dX6_at_38 ⟨Nat.le_of_ble_eq_true rfl, Nat.le_of_ble_eq_true rfl⟩) hP hD hS hA [] [0, 1] rfl rfl rfl (by decide) (fun r_9 w H locs hw hP hD hS => ?_)
      obtain ⟨rfl, rfl⟩ := hw
      have hP : va_P V.1 vwCl [(y 1, aB V 900 fy1), (y 10, .inr (6, o6_riiriiiii (y 11) py10_1 py10_2 (y 1) py10_4 py10_5 py10_6 py10_7 py10_8))] H := hP
      have hD := cpD hP hD
      refine lv_icmp_ge (tgt := 71) hx hb dX6_at_41 (by decide) (fun c_10 => ?_) (fun c_10 => ?_)
      · have b_11 : iv ((sq.2.2.2.length : Int)) 2147483647 u_7 := iv_e2 c_10 (iv_nI (by omega)) bu_7 (by first | decide | omega)
        refine lv_iconst (v := 1) hx hb dX6_at_71 (by decide) ?_
        exact fiZ rfl hx hb hr hlk hK hP hD hS dX6_at_72 (Nat.le_of_ble_eq_true rfl) (Nat.le_of_ble_eq_true rfl) (⟨(iv_c (1 : Int32) (by decide)), (atF_1 (sL_len hsi).2 (Or.inl c_1) ex_4 c_5 b_11 (by omega) (Int32.not_lt.mpr c_10) inn_8_0), rfl⟩)
      · have b_12 : iv 0 ((sq.2.2.2.length : Int) - 1) u_7 := iv_l1 (Int32.not_le.mp c_10) bu_7 (iv_nI (by omega)) (by first | decide | omega)
        refine lv_aload_n hx hb dX6_at_44 rfl (lv_at hl 1 rfl) ?_
        refine va_get (ci := 6) (v := .ref (y 1)) (C := RX6) (T := TX6) (N := 9) hx hb hg inX6 hown hK hP 1 rfl rfl 3 (by decide) (hg _ q_1_140) (fun _ h9 => h9) rfl dX6_at_45 ?_
        refine lv_aload_n hx hb dX6_at_48 rfl (lv_at hl 1 rfl) ?_
        refine va_get (ci := 6) (v := .int py10_6) (C := RX6) (T := TX6) (N := 9) hx hb hg inX6 hown hK hP 1 rfl rfl 6 (by decide) (hg _ q_1_143) (fun _ h9 => h9) rfl dX6_at_49 ?_
        refine lv_iload_n hx hb dX6_at_52 rfl (lv_at hl 0 rfl) ?_
        refine lv_iadd hx hb dX6_at_53 ?_
        refine lv_topi (fun x_13 ex_13 => ?_)
        have bx_13 : iv 0 ((sq.2.2.2.length : Int) + 899) x_13 := by rw [ex_13]; exact iv_add bpy10_6 b_12 (by first | decide | omega)
        refine va_bald hx hb hK hP 0 1 rfl rfl (iv_in (at_ix ex_13 ex_4 c_5 (Int32.not_le.mp c_10) bpy10_6 bpy10_7 b_12 (by decide)) (by decide)) dX6_at_54 ?_
        refine lv_topi (fun x_14 ex_14 => ?_)
        have bx_14 : iv (-128) 127 x_14 := by rw [ex_14]; exact tfy1 _
        refine lv_aload_n hx hb dX6_at_55 rfl (lv_at hl 2 rfl) ?_
        refine lv_iload_n hx hb dX6_at_56 rfl (lv_at hl 0 rfl) ?_
        refine jnI (wr := [(y 1, aB V 900 fy1), (y 10, .inr (6, o6_riiriiiii (y 11) py10_1 py10_2 (y 1) py10_4 py10_5 py10_6 py10_7 py10_8))]) (rnVx (rest := [.int x_14]) ⟨hx, hb, hml, hown, hg⟩ (k_J0_charAt_5068e_0 l V si sq hsi u_7 (iv_w b_12 (by first | decide | omega)) (Int32.not_le.mp c_10)) mt_J0_charAt_5068e q_2_217 ⟨Nat.le_of_ble_eq_true rfl, Nat.le_of_ble_eq_true rfl⟩ hK hP hD hS hA hE [] rfl rfl (o_recv (hE.2.2.2.2.2.2 si sq hsi).2.1 hS) rfl hl.1 rfl (Nat.le_of_ble_eq_true rfl) dX6_at_57 ⟨Nat.le_of_ble_eq_true rfl, Nat.le_of_ble_eq_true rfl⟩) hP hD hS hA [] [0, 1] rfl rfl rfl (by decide) (fun r_15 w H locs hw hP hD hS => ?_)
        obtain ⟨er_15, rfl⟩ := hw
        have hP : va_P V.1 vwCl [(y 1, aB V 900 fy1), (y 10, .inr (6, o6_riiriiiii (y 11) py10_1 py10_2 (y 1) py10_4 py10_5 py10_6 py10_7 py10_8))] H := hP
        have hD := cpD hP hD
        refine lv_icmp_eq (tgt := 65) hx hb dX6_at_60 (by decide) (fun c_16 => ?_) (fun c_16 => ?_)
        · have b_17 : iv (-128) 127 r_15 := iv_q c_16.symm bx_14
          obtain ⟨x_18, ex_18⟩ : ∃ z9 : Int32, z9 = u_7 + 1 := ⟨_, rfl⟩
          have bx_18 : iv 1 ((sq.2.2.2.length : Int)) x_18 := by rw [ex_18]; exact iv_add b_12 (iv_c (1 : Int32) (a := 1) (b := 1) (by first | decide | omega)) (by first | decide | omega)
          refine lv_iinc (v := x_18) (lv' := [(2, .int x_18), (0, .ref (y 10)), (1, .ref (V.2.1 (100 + si)))]) hx hb dX6_at_65 hl (k := 0) rfl (by rw [ex_18]; rfl) (by decide) rfl (fun ls hl => ?_)
          refine lv_goto (tgt := 36) hx hb dX6_at_68 (by decide) ?_
          exact ihn_8 _ _ _ _ (by rw [en_8, ex_18]; exact mu_up b_12 (by first | decide | omega)) ⟨x_18, (iv_w bx_18 (by first | decide | omega)), (atF_s b_12 (by omega) ex_13 ex_14 er_15 c_16 inn_8_0 ex_18), rfl, hP, hD, hS, lv_sub hl [0, 1, 2] rfl⟩
        · refine lv_iconst (v := 0) hx hb dX6_at_63 (by decide) ?_
          exact fiZ rfl hx hb hr hlk hK hP hD hS dX6_at_64 (Nat.le_of_ble_eq_true rfl) (Nat.le_of_ble_eq_true rfl) (⟨(iv_c (0 : Int32) (by decide)), (atF_n (sL_len hsi).2 b_12 (by decide) (Int32.not_le.mp c_10) ex_13 ex_14 er_15 c_16), rfl⟩)
    · refine lv_iconst (v := 0) hx hb dX6_at_32 (by decide) ?_
      exact fiZ rfl hx hb hr hlk hK hP hD hS dX6_at_33 (Nat.le_of_ble_eq_true rfl) (Nat.le_of_ble_eq_true rfl) (⟨(iv_c (0 : Int32) (by decide)), (atF_l ex_4 c_5), rfl⟩)
  · refine lv_aload_n hx hb dX6_at_8 rfl (lv_at hl 0 rfl) ?_
    refine va_get (ci := 6) (v := .int py10_5) (C := RX6) (T := TX6) (N := 9) hx hb hg inX6 hown hK hP 1 rfl rfl 5 (by decide) (hg _ q_1_142) (fun _ h9 => h9) rfl dX6_at_9 ?_
    refine lv_iconst (v := 3) hx hb dX6_at_12 (by decide) ?_
    refine lv_icmp_ne (tgt := 32) hx hb dX6_at_13 (by decide) (fun c_19 => ?_) (fun c_19 => ?_)
    · refine lv_iconst (v := 0) hx hb dX6_at_32 (by decide) ?_
      exact fiZ rfl hx hb hr hlk hK hP hD hS dX6_at_33 (Nat.le_of_ble_eq_true rfl) (Nat.le_of_ble_eq_true rfl) (⟨(iv_c (0 : Int32) (by decide)), (atF_k c_1 c_19), rfl⟩)
    · have b_20 : iv 3 3 py10_5 := iv_q c_19 (iv_c (3 : Int32) (a := 3) (b := 3) (by decide))
      refine lv_aload_n hx hb dX6_at_16 rfl (lv_at hl 1 rfl) ?_
      refine jnI (wr := [(y 1, aB V 900 fy1), (y 10, .inr (6, o6_riiriiiii (y 11) py10_1 py10_2 (y 1) py10_4 py10_5 py10_6 py10_7 py10_8))]) (rnVx (rest := []) ⟨hx, hb, hml, hown, hg⟩ (k_J0_length_8abf5_0 l V si sq hsi) mt_J0_length_8abf5 q_2_216 ⟨Nat.le_of_ble_eq_true rfl, Nat.le_of_ble_eq_true rfl⟩ hK hP hD hS hA hE [] rfl rfl (o_recv (hE.2.2.2.2.2.2 si sq hsi).2.1 hS) rfl hl.1 rfl (Nat.le_of_ble_eq_true rfl) dX6_at_17 ⟨Nat.le_of_ble_eq_true rfl, Nat.le_of_ble_eq_true rfl⟩) hP hD hS hA [] [0, 1] rfl rfl rfl (by decide) (fun r_21 w H locs hw hP hD hS => ?_)
      obtain ⟨rfl, rfl⟩ := hw
      have hP : va_P V.1 vwCl [(y 1, aB V 900 fy1), (y 10, .inr (6, o6_riiriiiii (y 11) py10_1 py10_2 (y 1) py10_4 py10_5 py10_6 py10_7 py10_8))] H := hP
      have hD := cpD hP hD
      refine lv_aload_n hx hb dX6_at_20 rfl (lv_at hl 0 rfl) ?_
      refine va_get (ci := 6) (v := .int py10_7) (C := RX6) (T := TX6) (N := 9) hx hb hg inX6 hown hK hP 1 rfl rfl 7 (by decide) (hg _ q_1_144) (fun _ h9 => h9) rfl dX6_at_21 ?_
      refine lv_aload_n hx hb dX6_at_24 rfl (lv_at hl 0 rfl) ?_
      refine va_get (ci := 6) (v := .int py10_6) (C := RX6) (T := TX6) (N := 9) hx hb hg inX6 hown hK hP 1 rfl rfl 6 (by decide) (hg _ q_1_143) (fun _ h9 => h9) rfl dX6_at_25 ?_
      refine lv_isub hx hb dX6_at_28 ?_
      refine lv_topi (fun x_22 ex_22 => ?_)
      have bx_22 : iv (-900) 900 x_22 := by rw [ex_22]; exact iv_sub bpy10_7 bpy10_6 (by first | decide | omega)
      refine lv_icmp_eq (tgt := 34) hx hb dX6_at_29 (by decide) (fun c_23 => ?_) (fun c_23 => ?_)
      · have b_24 : iv ((sq.2.2.2.length : Int)) ((sq.2.2.2.length : Int)) x_22 := iv_q c_23.symm (iv_nI (by omega))
        refine lv_iconst (v := 0) hx hb dX6_at_34 (by decide) ?_
        refine lv_istore_n (lv' := [(2, .int 0), (0, .ref (y 10)), (1, .ref (V.2.1 (100 + si)))]) hx hb dX6_at_35 rfl hl (by decide) rfl (fun ls hl => ?_)
        refine loopF (X := fun (n_26 : Nat) (H : Heap) (locs : List Loc) (ls : Array Slot) => ∃ (u_25 : Int32), (iv 0 2147483647 u_25) ∧ (∀ j : Nat, (j : Int) < (u_25 : Int32).toInt → fy1 (py10_6 + nI j).toNatClampNeg = chF sq.2.2.2 (nI j)) ∧ n_26 = (2147483647 - (u_25 : Int32).toInt).toNat ∧ va_P V.1 vwCl [(y 1, aB V 900 fy1), (y 10, .inr (6, o6_riiriiiii (y 11) py10_1 py10_2 (y 1) py10_4 py10_5 py10_6 py10_7 py10_8))] H ∧ va_D A [(y 1, aB V 900 fy1), (y 10, .inr (6, o6_riiriiiii (y 11) py10_1 py10_2 (y 1) py10_4 py10_5 py10_6 py10_7 py10_8))] ∧ va_S A s.heap H locs ∧ lv_has ls 3 [(2, .int u_25), (0, .ref (y 10)), (1, .ref (V.2.1 (100 + si)))]) (g := fun ls => F0 m 36 ls []) (fun n_26 H locs ls hX ihn_26 => ?_) _ ⟨0, (iv_c (0 : Int32) (by decide)), (fun j hj => absurd hj (by have h9 : (0 : Int32).toInt = 0 := (by decide); omega)), rfl, hP, hD, hS, lv_sub hl [0, 1, 2] rfl⟩
        obtain ⟨u_25, bu_25, inn_26_0, en_26, hP, hD, hS, hl⟩ := hX
        refine lv_iload_n hx hb dX6_at_36 rfl (lv_at hl 0 rfl) ?_
        refine lv_aload_n hx hb dX6_at_37 rfl (lv_at hl 2 rfl) ?_
        refine jnI (wr := [(y 1, aB V 900 fy1), (y 10, .inr (6, o6_riiriiiii (y 11) py10_1 py10_2 (y 1) py10_4 py10_5 py10_6 py10_7 py10_8))]) (rnVx (rest := [.int u_25]) ⟨hx, hb, hml, hown, hg⟩ (k_J0_length_8abf5_0 l V si sq hsi) mt_J0_length_8abf5 q_2_216 ⟨Nat.le_of_ble_eq_true rfl, Nat.le_of_ble_eq_true rfl⟩ hK hP hD hS hA hE [] rfl rfl (o_recv (hE.2.2.2.2.2.2 si sq hsi).2.1 hS) rfl hl.1 rfl (Nat.le_of_ble_eq_true rfl) dX6_at_38 ⟨Nat.le_of_ble_eq_true rfl, Nat.le_of_ble_eq_true rfl⟩) hP hD hS hA [] [0, 1] rfl rfl rfl (by decide) (fun r_27 w H locs hw hP hD hS => ?_)
        obtain ⟨rfl, rfl⟩ := hw
        have hP : va_P V.1 vwCl [(y 1, aB V 900 fy1), (y 10, .inr (6, o6_riiriiiii (y 11) py10_1 py10_2 (y 1) py10_4 py10_5 py10_6 py10_7 py10_8))] H := hP
        have hD := cpD hP hD
        refine lv_icmp_ge (tgt := 71) hx hb dX6_at_41 (by decide) (fun c_28 => ?_) (fun c_28 => ?_)
        · have b_29 : iv ((sq.2.2.2.length : Int)) 2147483647 u_25 := iv_e2 c_28 (iv_nI (by omega)) bu_25 (by first | decide | omega)
          refine lv_iconst (v := 1) hx hb dX6_at_71 (by decide) ?_
          exact fiZ rfl hx hb hr hlk hK hP hD hS dX6_at_72 (Nat.le_of_ble_eq_true rfl) (Nat.le_of_ble_eq_true rfl) (⟨(iv_c (1 : Int32) (by decide)), (atF_1 (sL_len hsi).2 (Or.inr c_19) ex_22 c_23 b_29 (by omega) (Int32.not_lt.mpr c_28) inn_26_0), rfl⟩)
        · have b_30 : iv 0 ((sq.2.2.2.length : Int) - 1) u_25 := iv_l1 (Int32.not_le.mp c_28) bu_25 (iv_nI (by omega)) (by first | decide | omega)
          refine lv_aload_n hx hb dX6_at_44 rfl (lv_at hl 1 rfl) ?_
          refine va_get (ci := 6) (v := .ref (y 1)) (C := RX6) (T := TX6) (N := 9) hx hb hg inX6 hown hK hP 1 rfl rfl 3 (by decide) (hg _ q_1_140) (fun _ h9 => h9) rfl dX6_at_45 ?_
          refine lv_aload_n hx hb dX6_at_48 rfl (lv_at hl 1 rfl) ?_
          refine va_get (ci := 6) (v := .int py10_6) (C := RX6) (T := TX6) (N := 9) hx hb hg inX6 hown hK hP 1 rfl rfl 6 (by decide) (hg _ q_1_143) (fun _ h9 => h9) rfl dX6_at_49 ?_
          refine lv_iload_n hx hb dX6_at_52 rfl (lv_at hl 0 rfl) ?_
          refine lv_iadd hx hb dX6_at_53 ?_
          refine lv_topi (fun x_31 ex_31 => ?_)
          have bx_31 : iv 0 ((sq.2.2.2.length : Int) + 899) x_31 := by rw [ex_31]; exact iv_add bpy10_6 b_30 (by first | decide | omega)
          refine va_bald hx hb hK hP 0 1 rfl rfl (iv_in (at_ix ex_31 ex_22 c_23 (Int32.not_le.mp c_28) bpy10_6 bpy10_7 b_30 (by decide)) (by decide)) dX6_at_54 ?_
          refine lv_topi (fun x_32 ex_32 => ?_)
          have bx_32 : iv (-128) 127 x_32 := by rw [ex_32]; exact tfy1 _
          refine lv_aload_n hx hb dX6_at_55 rfl (lv_at hl 2 rfl) ?_
          refine lv_iload_n hx hb dX6_at_56 rfl (lv_at hl 0 rfl) ?_
          refine jnI (wr := [(y 1, aB V 900 fy1), (y 10, .inr (6, o6_riiriiiii (y 11) py10_1 py10_2 (y 1) py10_4 py10_5 py10_6 py10_7 py10_8))]) (rnVx (rest := [.int x_32]) ⟨hx, hb, hml, hown, hg⟩ (k_J0_charAt_5068e_0 l V si sq hsi u_25 (iv_w b_30 (by first | decide | omega)) (Int32.not_le.mp c_28)) mt_J0_charAt_5068e q_2_217 ⟨Nat.le_of_ble_eq_true rfl, Nat.le_of_ble_eq_true rfl⟩ hK hP hD hS hA hE [] rfl rfl (o_recv (hE.2.2.2.2.2.2 si sq hsi).2.1 hS) rfl hl.1 rfl (Nat.le_of_ble_eq_true rfl) dX6_at_57 ⟨Nat.le_of_ble_eq_true rfl, Nat.le_of_ble_eq_true rfl⟩) hP hD hS hA [] [0, 1] rfl rfl rfl (by decide) (fun r_33 w H locs hw hP hD hS => ?_)
          obtain ⟨er_33, rfl⟩ := hw
          have hP : va_P V.1 vwCl [(y 1, aB V 900 fy1), (y 10, .inr (6, o6_riiriiiii (y 11) py10_1 py10_2 (y 1) py10_4 py10_5 py10_6 py10_7 py10_8))] H := hP
          have hD := cpD hP hD
          refine lv_icmp_eq (tgt := 65) hx hb dX6_at_60 (by decide) (fun c_34 => ?_) (fun c_34 => ?_)
          · have b_35 : iv (-128) 127 r_33 := iv_q c_34.symm bx_32
            obtain ⟨x_36, ex_36⟩ : ∃ z9 : Int32, z9 = u_25 + 1 := ⟨_, rfl⟩
            have bx_36 : iv 1 ((sq.2.2.2.length : Int)) x_36 := by rw [ex_36]; exact iv_add b_30 (iv_c (1 : Int32) (a := 1) (b := 1) (by first | decide | omega)) (by first | decide | omega)
            refine lv_iinc (v := x_36) (lv' := [(2, .int x_36), (0, .ref (y 10)), (1, .ref (V.2.1 (100 + si)))]) hx hb dX6_at_65 hl (k := 0) rfl (by rw [ex_36]; rfl) (by decide) rfl (fun ls hl => ?_)
            refine lv_goto (tgt := 36) hx hb dX6_at_68 (by decide) ?_
            exact ihn_26 _ _ _ _ (by rw [en_26, ex_36]; exact mu_up b_30 (by first | decide | omega)) ⟨x_36, (iv_w bx_36 (by first | decide | omega)), (atF_s b_30 (by omega) ex_31 ex_32 er_33 c_34 inn_26_0 ex_36), rfl, hP, hD, hS, lv_sub hl [0, 1, 2] rfl⟩
          · refine lv_iconst (v := 0) hx hb dX6_at_63 (by decide) ?_
            exact fiZ rfl hx hb hr hlk hK hP hD hS dX6_at_64 (Nat.le_of_ble_eq_true rfl) (Nat.le_of_ble_eq_true rfl) (⟨(iv_c (0 : Int32) (by decide)), (atF_n (sL_len hsi).2 b_30 (by decide) (Int32.not_le.mp c_28) ex_31 ex_32 er_33 c_34), rfl⟩)
      · refine lv_iconst (v := 0) hx hb dX6_at_32 (by decide) ?_
        exact fiZ rfl hx hb hr hlk hK hP hD hS dX6_at_33 (Nat.le_of_ble_eq_true rfl) (Nat.le_of_ble_eq_true rfl) (⟨(iv_c (0 : Int32) (by decide)), (atF_l ex_22 c_23), rfl⟩)
theorem dX6_fail_0 : decode cX6_fail 0 = .ok (.aload_n 0, 1) := by decide +kernel
theorem q_1_136 : Cond.fieldLink "BeaconDelay$Reader" 38 "BeaconDelay$Reader" "fault" "I" ∈ gw := gw_1 (i := 136) (by decide +kernel) rfl
theorem dX6_fail_1 : decode cX6_fail 1 = .ok (.getfield 38, 3) := by decide +kernel
theorem dX6_fail_4 : decode cX6_fail 4 = .ok (.ifCond .ne 21, 3) := by decide +kernel
theorem dX6_fail_25 : decode cX6_fail 25 = .ok (.return_, 1) := by decide +kernel
theorem dX6_fail_7 : decode cX6_fail 7 = .ok (.aload_n 0, 1) := by decide +kernel
theorem dX6_fail_8 : decode cX6_fail 8 = .ok (.iload_n 1, 1) := by decide +kernel
theorem dX6_fail_9 : decode cX6_fail 9 = .ok (.putfield 38, 3) := by decide +kernel
theorem dX6_fail_12 : decode cX6_fail 12 = .ok (.aload_n 0, 1) := by decide +kernel
theorem dX6_fail_13 : decode cX6_fail 13 = .ok (.aload_n 0, 1) := by decide +kernel
theorem dX6_fail_14 : decode cX6_fail 14 = .ok (.getfield 240, 3) := by decide +kernel
theorem q_1_138 : Cond.fieldLink "BeaconDelay$Reader" 18 "BeaconDelay$Reader" "faultPlace" "I" ∈ gw := gw_1 (i := 138) (by decide +kernel) rfl
theorem dX6_fail_17 : decode cX6_fail 17 = .ok (.putfield 18, 3) := by decide +kernel
theorem dX6_fail_20 : decode cX6_fail 20 = .ok (.aload_n 0, 1) := by decide +kernel
theorem dX6_fail_21 : decode cX6_fail 21 = .ok (.iconst 4, 1) := by decide +kernel
theorem dX6_fail_22 : decode cX6_fail 22 = .ok (.putfield 41, 3) := by decide +kernel
set_option maxHeartbeats 4000000 in
set_option maxRecDepth 100000 in
theorem k_X6_fail_0 (l : Launch) (V : GV) (y : Nat → Nat) (a1 : Int32) (py10_1 : Int32) (py10_2 : Int32) (py10_4 : Int32) (py10_5 : Int32) (py10_6 : Int32) (py10_7 : Int32) (py10_8 : Int32) (bpy10_4 : iv 0 900 py10_4) (bpy10_6 : iv 0 900 py10_6) (bpy10_7 : iv 0 900 py10_7) (bpy10_8 : iv 0 999 py10_8) : Ct l V yX6_fail (.code yX6_fail cX6_fail 2 none) 1 [.ref (y 10), .int a1] [(y 10, .inr (6, o6_riiriiiii (y 11) py10_1 py10_2 (y 1) py10_4 py10_5 py10_6 py10_7 py10_8))] 0 0 (QV V (fun (w : va_W) => ∃ (v0 : Int32) (v1 : Int32) (v2 : Int32), (FL py10_1 py10_2 py10_5 py10_6 a1 v0 v1 v2) ∧ w = [(y 10, .inr (6, o6_riiriiiii (y 11) v0 v1 (y 1) py10_4 v2 py10_6 py10_7 py10_8))])) := by
  refine Ct.of (by decide) (Nat.le_of_ble_eq_true rfl) (fun p e s m below meth c A ls hx hb hr hml hown hlk hnm hg hP hK hD hE hA hS hl => ?_)
  have hl : lv_has ls 2 [(0, .ref (y 10)), (1, .int a1)] := hl
  refine lv_aload_n hx hb dX6_fail_0 rfl (lv_at hl 0 rfl) ?_
  refine va_get (ci := 6) (v := .int py10_1) (C := RX6) (T := TX6) (N := 9) hx hb hg inX6 hown hK hP 0 rfl rfl 1 (by decide) (hg _ q_1_136) (fun _ h9 => h9) rfl dX6_fail_1 ?_
  refine lv_if_ne (tgt := 25) hx hb dX6_fail_4 (by decide) (fun c_1 => ?_) (fun c_1 => ?_)
  · exact fiV hx hb hr hlk hK hP hD hS dX6_fail_25 (Nat.le_of_ble_eq_true rfl) (Nat.le_of_ble_eq_true rfl) (⟨py10_1, py10_2, py10_5, ⟨fun q9 => absurd q9 c_1, fun _ => ⟨rfl, rfl, rfl⟩⟩, rfl⟩)
  · have b_2 : iv 0 0 py10_1 := iv_q c_1 (iv_c (0 : Int32) (a := 0) (b := 0) (by decide))
    refine lv_aload_n hx hb dX6_fail_7 rfl (lv_at hl 0 rfl) ?_
    refine lv_iload_n hx hb dX6_fail_8 rfl (lv_at hl 1 rfl) ?_
    refine va_put (ci := 6) (v := .int a1) (ty := .int) (C := RX6) (T := TX6) (N := 9) hx hb hg inX6 tyX6 tyX6_ok nmX6 hown hK hP hD hS 0 rfl rfl 1 (by decide) (hg _ q_1_136) (fun _ h9 => h9) rfl (by decide +kernel) rfl rfl (Nat.le_of_ble_eq_true rfl) dX6_fail_9 (fun H locs hP hD hS => ?_)
    have hP : va_P V.1 vwCl [(y 10, .inr (6, o6_riiriiiii (y 11) a1 py10_2 (y 1) py10_4 py10_5 py10_6 py10_7 py10_8))] H := hP
    have hD := cpD hP hD
    refine lv_aload_n hx hb dX6_fail_12 rfl (lv_at hl 0 rfl) ?_
    refine lv_aload_n hx hb dX6_fail_13 rfl (lv_at hl 0 rfl) ?_
    refine va_get (ci := 6) (v := .int py10_6) (C := RX6) (T := TX6) (N := 9) hx hb hg inX6 hown hK hP 0 rfl rfl 6 (by decide) (hg _ q_1_143) (fun _ h9 => h9) rfl dX6_fail_14 ?_
    refine va_put (ci := 6) (v := .int py10_6) (ty := .int) (C := RX6) (T := TX6) (N := 9) hx hb hg inX6 tyX6 tyX6_ok nmX6 hown hK hP hD hS 0 rfl rfl 2 (by decide) (hg _ q_1_138) (fun _ h9 => h9) rfl (by decide +kernel) rfl rfl (Nat.le_of_ble_eq_true rfl) dX6_fail_17 (fun H locs hP hD hS => ?_)
    have hP : va_P V.1 vwCl [(y 10, .inr (6, o6_riiriiiii (y 11) a1 py10_6 (y 1) py10_4 py10_5 py10_6 py10_7 py10_8))] H := hP
    have hD := cpD hP hD
    refine lv_aload_n hx hb dX6_fail_20 rfl (lv_at hl 0 rfl) ?_
    refine lv_iconst (v := 4) hx hb dX6_fail_21 (by decide) ?_
    refine va_put (ci := 6) (v := .int 4) (ty := .int) (C := RX6) (T := TX6) (N := 9) hx hb hg inX6 tyX6 tyX6_ok nmX6 hown hK hP hD hS 0 rfl rfl 5 (by decide) (hg _ q_1_142) (fun _ h9 => h9) rfl (by decide +kernel) rfl rfl (Nat.le_of_ble_eq_true rfl) dX6_fail_22 (fun H locs hP hD hS => ?_)
    have hP : va_P V.1 vwCl [(y 10, .inr (6, o6_riiriiiii (y 11) a1 py10_6 (y 1) py10_4 4 py10_6 py10_7 py10_8))] H := hP
    have hD := cpD hP hD
    exact fiV hx hb hr hlk hK hP hD hS dX6_fail_25 (Nat.le_of_ble_eq_true rfl) (Nat.le_of_ble_eq_true rfl) (⟨a1, py10_6, 4, ⟨fun _ => ⟨rfl, rfl, rfl⟩, fun q9 => absurd c_1 q9⟩, rfl⟩)
theorem dX6_put_0 : decode cX6_put 0 = .ok (.aload_n 0, 1) := by decide +kernel
theorem dX6_put_1 : decode cX6_put 1 = .ok (.getfield 38, 3) := by decide +kernel
theorem dX6_put_4 : decode cX6_put 4 = .ok (.ifCond .ne 45, 3) := by decide +kernel
theorem dX6_put_49 : decode cX6_put 49 = .ok (.return_, 1) := by decide +kernel
theorem dX6_put_7 : decode cX6_put 7 = .ok (.aload_n 0, 1) := by decide +kernel
theorem q_1_134 : Cond.fieldLink "BeaconDelay$Reader" 12 "BeaconDelay$Reader" "told" "LBeaconDelay$Coast;" ∈ gw := gw_1 (i := 134) (by decide +kernel) rfl
theorem dX6_put_8 : decode cX6_put 8 = .ok (.getfield 12, 3) := by decide +kernel
theorem q_1_74 : Cond.fieldLink "BeaconDelay$Reader" 153 "BeaconDelay$Coast" "stepCount" "I" ∈ gw := gw_1 (i := 74) (by decide +kernel) rfl
theorem dX6_put_11 : decode cX6_put 11 = .ok (.getfield 153, 3) := by decide +kernel
theorem dX6_put_14 : decode cX6_put 14 = .ok (.sipush 900, 3) := by decide +kernel
theorem dX6_put_17 : decode cX6_put 17 = .ok (.if_icmp .ge 32, 3) := by decide +kernel
theorem dX6_put_20 : decode cX6_put 20 = .ok (.aload_n 0, 1) := by decide +kernel
theorem dX6_put_21 : decode cX6_put 21 = .ok (.getfield 12, 3) := by decide +kernel
theorem q_1_72 : Cond.fieldLink "BeaconDelay$Reader" 232 "BeaconDelay$Coast" "steps" "[I" ∈ gw := gw_1 (i := 72) (by decide +kernel) rfl
theorem dX6_put_24 : decode cX6_put 24 = .ok (.getfield 232, 3) := by decide +kernel
theorem dX6_put_27 : decode cX6_put 27 = .ok (.aload_n 0, 1) := by decide +kernel
theorem dX6_put_28 : decode cX6_put 28 = .ok (.getfield 12, 3) := by decide +kernel
theorem dX6_put_31 : decode cX6_put 31 = .ok (.getfield 153, 3) := by decide +kernel
theorem dX6_put_34 : decode cX6_put 34 = .ok (.iload_n 1, 1) := by decide +kernel
theorem dX6_put_35 : decode cX6_put 35 = .ok (.iastore, 1) := by decide +kernel
theorem dX6_put_36 : decode cX6_put 36 = .ok (.aload_n 0, 1) := by decide +kernel
theorem dX6_put_37 : decode cX6_put 37 = .ok (.getfield 12, 3) := by decide +kernel
theorem dX6_put_40 : decode cX6_put 40 = .ok (.dup, 1) := by decide +kernel
theorem dX6_put_41 : decode cX6_put 41 = .ok (.getfield 153, 3) := by decide +kernel
theorem dX6_put_44 : decode cX6_put 44 = .ok (.iconst 1, 1) := by decide +kernel
theorem dX6_put_45 : decode cX6_put 45 = .ok (.iadd, 1) := by decide +kernel
theorem dX6_put_46 : decode cX6_put 46 = .ok (.putfield 153, 3) := by decide +kernel
set_option maxHeartbeats 4000000 in
set_option maxRecDepth 100000 in
theorem k_X6_put_0 (l : Launch) (V : GV) (y : Nat → Nat) (a1 : Int32) (py10_1 : Int32) (py10_2 : Int32) (py10_4 : Int32) (py10_5 : Int32) (py10_6 : Int32) (py10_7 : Int32) (py10_8 : Int32) (py11_0 : Int32) (py11_1 : Int32) (py11_2 : Int32) (py11_3 : Int32) (py11_4 : Int32) (py11_5 : Int32) (py11_13 : Int32) (py11_14 : Int32) (py11_15 : Int32) (py11_16 : Int32) (py11_17 : Int32) (fy18 : Nat → Int32) (bpy10_4 : iv 0 900 py10_4) (bpy10_6 : iv 0 900 py10_6) (bpy10_7 : iv 0 900 py10_7) (bpy10_8 : iv 0 999 py10_8) (bpy11_1 : iv 0 4 py11_1) (bpy11_2 : iv 0 4 py11_2) (bpy11_3 : iv 0 8 py11_3) (bpy11_4 : iv 0 9999 py11_4) (bpy11_5 : iv 0 9 py11_5) (bpy11_13 : iv 0 900 py11_13) (bpy11_14 : iv 0 900 py11_14) (bpy11_15 : iv 0 900 py11_15) (bpy11_16 : iv 0 900 py11_16) (bpy11_17 : iv 0 900 py11_17) : Ct l V yX6_put (.code yX6_put cX6_put 2 none) 1 [.ref (y 10), .int a1] [(y 10, .inr (6, o6_riiriiiii (y 11) py10_1 py10_2 (y 1) py10_4 py10_5 py10_6 py10_7 py10_8)), (y 11, .inr (1, o1_iiiiiirrrrrrriiiii py11_0 py11_1 py11_2 py11_3 py11_4 py11_5 (y 12) (y 13) (y 14) (y 15) (y 16) (y 17) (y 18) py11_13 py11_14 py11_15 py11_16 py11_17)), (y 18, aI V 900 fy18)] 0 0 (QV V (fun (w : va_W) => ∃ (v0 : Int32) (g1 : Nat → Int32), iv 0 900 v0 ∧ (PU py10_1 py11_13 fy18 a1 v0 g1) ∧ w = [(y 10, .inr (6, o6_riiriiiii (y 11) py10_1 py10_2 (y 1) py10_4 py10_5 py10_6 py10_7 py10_8)), (y 11, .inr (1, o1_iiiiiirrrrrrriiiii py11_0 py11_1 py11_2 py11_3 py11_4 py11_5 (y 12) (y 13) (y 14) (y 15) (y 16) (y 17) (y 18) v0 py11_14 py11_15 py11_16 py11_17)), (y 18, aI V 900 g1)])) := by
  refine Ct.of (by decide) (Nat.le_of_ble_eq_true rfl) (fun p e s m below meth c A ls hx hb hr hml hown hlk hnm hg hP hK hD hE hA hS hl => ?_)
  have hl : lv_has ls 2 [(0, .ref (y 10)), (1, .int a1)] := hl
  refine lv_aload_n hx hb dX6_put_0 rfl (lv_at hl 0 rfl) ?_
  refine va_get (ci := 6) (v := .int py10_1) (C := RX6) (T := TX6) (N := 9) hx hb hg inX6 hown hK hP 0 rfl rfl 1 (by decide) (hg _ q_1_136) (fun _ h9 => h9) rfl dX6_put_1 ?_
  refine lv_if_ne (tgt := 49) hx hb dX6_put_4 (by decide) (fun c_1 => ?_) (fun c_1 => ?_)
  · exact fiV hx hb hr hlk hK hP hD hS dX6_put_49 (Nat.le_of_ble_eq_true rfl) (Nat.le_of_ble_eq_true rfl) (⟨py11_13, fy18, bpy11_13, (fun q9 => absurd q9 c_1), rfl⟩)
  · have b_2 : iv 0 0 py10_1 := iv_q c_1 (iv_c (0 : Int32) (a := 0) (b := 0) (by decide))
    refine lv_aload_n hx hb dX6_put_7 rfl (lv_at hl 0 rfl) ?_
    refine va_get (ci := 6) (v := .ref (y 11)) (C := RX6) (T := TX6) (N := 9) hx hb hg inX6 hown hK hP 0 rfl rfl 0 (by decide) (hg _ q_1_134) (fun _ h9 => h9) rfl dX6_put_8 ?_
    refine va_get (ci := 1) (v := .int py11_13) (C := RX1) (T := TX1) (N := 18) hx hb hg inX1 hown hK hP 1 rfl rfl 13 (by decide) (hg _ q_1_74) (fun _ h9 => h9) rfl dX6_put_11 ?_
    refine lv_sipush (v := 900) hx hb dX6_put_14 (by decide) ?_
    refine lv_icmp_ge (tgt := 49) hx hb dX6_put_17 (by decide) (fun c_3 => ?_) (fun c_3 => ?_)
    · have b_4 : iv 900 900 py11_13 := iv_e2 c_3 (iv_c (900 : Int32) (a := 900) (b := 900) (by decide)) bpy11_13 (by decide)
      exact fiV hx hb hr hlk hK hP hD hS dX6_put_49 (Nat.le_of_ble_eq_true rfl) (Nat.le_of_ble_eq_true rfl) (⟨py11_13, fy18, (iv_w b_4 (by decide)), (fun _ q9 => absurd q9 (by have z_0 := congrArg Int32.toInt c_1; have z_1 := Int32.le_iff_toInt_le.mp c_3; have k_0 : (0 : Int32).toInt = 0 := (by decide); have k_900 : (900 : Int32).toInt = 900 := (by decide); omega)), rfl⟩)
    · have b_5 : iv 0 899 py11_13 := iv_l1 (Int32.not_le.mp c_3) bpy11_13 (iv_c (900 : Int32) (a := 900) (b := 900) (by decide)) (by decide)
      refine lv_aload_n hx hb dX6_put_20 rfl (lv_at hl 0 rfl) ?_
      refine va_get (ci := 6) (v := .ref (y 11)) (C := RX6) (T := TX6) (N := 9) hx hb hg inX6 hown hK hP 0 rfl rfl 0 (by decide) (hg _ q_1_134) (fun _ h9 => h9) rfl dX6_put_21 ?_
      refine va_get (ci := 1) (v := .ref (y 18)) (C := RX1) (T := TX1) (N := 18) hx hb hg inX1 hown hK hP 1 rfl rfl 12 (by decide) (hg _ q_1_72) (fun _ h9 => h9) rfl dX6_put_24 ?_
      refine lv_aload_n hx hb dX6_put_27 rfl (lv_at hl 0 rfl) ?_
      refine va_get (ci := 6) (v := .ref (y 11)) (C := RX6) (T := TX6) (N := 9) hx hb hg inX6 hown hK hP 0 rfl rfl 0 (by decide) (hg _ q_1_134) (fun _ h9 => h9) rfl dX6_put_28 ?_
      refine va_get (ci := 1) (v := .int py11_13) (C := RX1) (T := TX1) (N := 18) hx hb hg inX1 hown hK hP 1 rfl rfl 13 (by decide) (hg _ q_1_74) (fun _ h9 => h9) rfl dX6_put_31 ?_
      refine lv_iload_n hx hb dX6_put_34 rfl (lv_at hl 1 rfl) ?_
      refine va_iast hx hb hK hP hD hS 2 0 rfl rfl (iv_in b_5 (by decide)) dX6_put_35 (fun H locs hP hD hS => ?_)
      obtain ⟨f_6, ef_6, hP, hD⟩ : ∃ f_6 : Nat → Int32, f_6 = (upd fy18 (py11_13 : Int32).toNatClampNeg a1) ∧ va_P V.1 vwCl [(y 10, .inr (6, o6_riiriiiii (y 11) py10_1 py10_2 (y 1) py10_4 py10_5 py10_6 py10_7 py10_8)), (y 11, .inr (1, o1_iiiiiirrrrrrriiiii py11_0 py11_1 py11_2 py11_3 py11_4 py11_5 (y 12) (y 13) (y 14) (y 15) (y 16) (y 17) (y 18) py11_13 py11_14 py11_15 py11_16 py11_17)), (y 18, aI V 900 f_6)] H ∧ va_D A [(y 10, .inr (6, o6_riiriiiii (y 11) py10_1 py10_2 (y 1) py10_4 py10_5 py10_6 py10_7 py10_8)), (y 11, .inr (1, o1_iiiiiirrrrrrriiiii py11_0 py11_1 py11_2 py11_3 py11_4 py11_5 (y 12) (y 13) (y 14) (y 15) (y 16) (y 17) (y 18) py11_13 py11_14 py11_15 py11_16 py11_17)), (y 18, aI V 900 f_6)] := ⟨_, rfl, hP, hD⟩
      refine lv_aload_n hx hb dX6_put_36 rfl (lv_at hl 0 rfl) ?_
      refine va_get (ci := 6) (v := .ref (y 11)) (C := RX6) (T := TX6) (N := 9) hx hb hg inX6 hown hK hP 0 rfl rfl 0 (by decide) (hg _ q_1_134) (fun _ h9 => h9) rfl dX6_put_37 ?_
      refine lv_dup hx hb dX6_put_40 rfl ?_
      refine va_get (ci := 1) (v := .int py11_13) (C := RX1) (T := TX1) (N := 18) hx hb hg inX1 hown hK hP 1 rfl rfl 13 (by decide) (hg _ q_1_74) (fun _ h9 => h9) rfl dX6_put_41 ?_
      refine lv_iconst (v := 1) hx hb dX6_put_44 (by decide) ?_
      refine lv_iadd hx hb dX6_put_45 ?_
      refine lv_topi (fun x_7 ex_7 => ?_)
      have bx_7 : iv 1 900 x_7 := by rw [ex_7]; exact iv_add b_5 (iv_c (1 : Int32) (a := 1) (b := 1) (by decide)) (by decide)
      refine va_put (ci := 1) (v := .int x_7) (ty := .int) (C := RX1) (T := TX1) (N := 18) hx hb hg inX1 tyX1 tyX1_ok nmX1 hown hK hP hD hS 1 rfl rfl 13 (by decide) (hg _ q_1_74) (fun _ h9 => h9) rfl (by decide +kernel) rfl rfl (Nat.le_of_ble_eq_true rfl) dX6_put_46 (fun H locs hP hD hS => ?_)
      have hP : va_P V.1 vwCl [(y 10, .inr (6, o6_riiriiiii (y 11) py10_1 py10_2 (y 1) py10_4 py10_5 py10_6 py10_7 py10_8)), (y 11, .inr (1, o1_iiiiiirrrrrrriiiii py11_0 py11_1 py11_2 py11_3 py11_4 py11_5 (y 12) (y 13) (y 14) (y 15) (y 16) (y 17) (y 18) x_7 py11_14 py11_15 py11_16 py11_17)), (y 18, aI V 900 f_6)] H := hP
      have hD := cpD hP hD
      exact fiV hx hb hr hlk hK hP hD hS dX6_put_49 (Nat.le_of_ble_eq_true rfl) (Nat.le_of_ble_eq_true rfl) (⟨x_7, f_6, (iv_w bx_7 (by decide)), (fun _ _ => ⟨ex_7, ef_6⟩), rfl⟩)
theorem dX6_endOfRun_0 : decode cX6_endOfRun 0 = .ok (.aload_n 0, 1) := by decide +kernel
theorem dX6_endOfRun_1 : decode cX6_endOfRun 1 = .ok (.getfield 240, 3) := by decide +kernel
theorem dX6_endOfRun_4 : decode cX6_endOfRun 4 = .ok (.istore_n 3, 1) := by decide +kernel
theorem dX6_endOfRun_5 : decode cX6_endOfRun 5 = .ok (.iload_n 3, 1) := by decide +kernel
theorem dX6_endOfRun_6 : decode cX6_endOfRun 6 = .ok (.aload_n 0, 1) := by decide +kernel
theorem q_1_141 : Cond.fieldLink "BeaconDelay$Reader" 35 "BeaconDelay$Reader" "length" "I" ∈ gw := gw_1 (i := 141) (by decide +kernel) rfl
theorem dX6_endOfRun_7 : decode cX6_endOfRun 7 = .ok (.getfield 35, 3) := by decide +kernel
theorem dX6_endOfRun_10 : decode cX6_endOfRun 10 = .ok (.if_icmp .ge 29, 3) := by decide +kernel
theorem dX6_endOfRun_39 : decode cX6_endOfRun 39 = .ok (.iload_n 3, 1) := by decide +kernel
theorem dX6_endOfRun_40 : decode cX6_endOfRun 40 = .ok (.ireturn, 1) := by decide +kernel
theorem dX6_endOfRun_13 : decode cX6_endOfRun 13 = .ok (.aload_n 0, 1) := by decide +kernel
theorem dX6_endOfRun_14 : decode cX6_endOfRun 14 = .ok (.getfield 22, 3) := by decide +kernel
theorem dX6_endOfRun_17 : decode cX6_endOfRun 17 = .ok (.iload_n 3, 1) := by decide +kernel
theorem dX6_endOfRun_18 : decode cX6_endOfRun 18 = .ok (.baload, 1) := by decide +kernel
theorem dX6_endOfRun_19 : decode cX6_endOfRun 19 = .ok (.iload_n 1, 1) := by decide +kernel
theorem dX6_endOfRun_20 : decode cX6_endOfRun 20 = .ok (.if_icmp .lt 19, 3) := by decide +kernel
theorem dX6_endOfRun_23 : decode cX6_endOfRun 23 = .ok (.aload_n 0, 1) := by decide +kernel
theorem dX6_endOfRun_24 : decode cX6_endOfRun 24 = .ok (.getfield 22, 3) := by decide +kernel
theorem dX6_endOfRun_27 : decode cX6_endOfRun 27 = .ok (.iload_n 3, 1) := by decide +kernel
theorem dX6_endOfRun_28 : decode cX6_endOfRun 28 = .ok (.baload, 1) := by decide +kernel
theorem dX6_endOfRun_29 : decode cX6_endOfRun 29 = .ok (.iload_n 2, 1) := by decide +kernel
theorem dX6_endOfRun_30 : decode cX6_endOfRun 30 = .ok (.if_icmp .gt 9, 3) := by decide +kernel
theorem dX6_endOfRun_33 : decode cX6_endOfRun 33 = .ok (.iinc 3 1, 3) := by decide +kernel
theorem dX6_endOfRun_36 : decode cX6_endOfRun 36 = .ok (.goto (-31), 3) := by decide +kernel
set_option maxHeartbeats 4000000 in
set_option maxRecDepth 100000 in
theorem k_X6_endOfRun_0 (l : Launch) (V : GV) (y : Nat → Nat) (a1 : Int32) (a2 : Int32) (fy1 : Nat → Int32) (py10_1 : Int32) (py10_2 : Int32) (py10_4 : Int32) (py10_5 : Int32) (py10_6 : Int32) (py10_7 : Int32) (py10_8 : Int32) (tfy1 : ∀ j, iv (-128) 127 (fy1 j)) (bpy10_4 : iv 0 900 py10_4) (bpy10_6 : iv 0 900 py10_6) (bpy10_7 : iv 0 900 py10_7) (bpy10_8 : iv 0 999 py10_8) : Ct l V yX6_endOfRun (.code yX6_endOfRun cX6_endOfRun 4 (some .int)) 1 [.ref (y 10), .int a1, .int a2] [(y 1, aB V 900 fy1), (y 10, .inr (6, o6_riiriiiii (y 11) py10_1 py10_2 (y 1) py10_4 py10_5 py10_6 py10_7 py10_8))] 0 0 (QI V (fun (r : Int32) (w : va_W) => iv 0 900 r ∧ (r = scF (ltB fy1 py10_4 a1 a2) 901 py10_6) ∧ ((py10_6 : Int32).toInt ≤ (r : Int32).toInt) ∧ w = [(y 1, aB V 900 fy1), (y 10, .inr (6, o6_riiriiiii (y 11) py10_1 py10_2 (y 1) py10_4 py10_5 py10_6 py10_7 py10_8))])) := by
  refine Ct.of (by decide) (Nat.le_of_ble_eq_true rfl) (fun p e s m below meth c A ls hx hb hr hml hown hlk hnm hg hP hK hD hE hA hS hl => ?_)
  have hl : lv_has ls 4 [(0, .ref (y 10)), (1, .int a1), (2, .int a2)] := hl
  refine lv_aload_n hx hb dX6_endOfRun_0 rfl (lv_at hl 0 rfl) ?_
  refine va_get (ci := 6) (v := .int py10_6) (C := RX6) (T := TX6) (N := 9) hx hb hg inX6 hown hK hP 1 rfl rfl 6 (by decide) (hg _ q_1_143) (fun _ h9 => h9) rfl dX6_endOfRun_1 ?_
  refine lv_istore_n (lv' := [(3, .int py10_6), (0, .ref (y 10)), (1, .int a1), (2, .int a2)]) hx hb dX6_endOfRun_4 rfl hl (by decide) rfl (fun ls hl => ?_)
  refine loopF (X := fun (n_2 : Nat) (H : Heap) (locs : List Loc) (ls : Array Slot) => ∃ (u_1 : Int32), (iv 0 900 u_1) ∧ ((py10_6 : Int32).toInt ≤ (u_1 : Int32).toInt) ∧ (∀ j : Int32, (py10_6 : Int32).toInt ≤ j.toInt → j.toInt < (u_1 : Int32).toInt → ltB fy1 py10_4 a1 a2 j = true) ∧ n_2 = (2147483647 - (u_1 : Int32).toInt).toNat ∧ va_P V.1 vwCl [(y 1, aB V 900 fy1), (y 10, .inr (6, o6_riiriiiii (y 11) py10_1 py10_2 (y 1) py10_4 py10_5 py10_6 py10_7 py10_8))] H ∧ va_D A [(y 1, aB V 900 fy1), (y 10, .inr (6, o6_riiriiiii (y 11) py10_1 py10_2 (y 1) py10_4 py10_5 py10_6 py10_7 py10_8))] ∧ va_S A s.heap H locs ∧ lv_has ls 4 [(3, .int u_1), (0, .ref (y 10)), (1, .int a1), (2, .int a2)]) (g := fun ls => F0 m 5 ls []) (fun n_2 H locs ls hX ihn_2 => ?_) _ ⟨py10_6, bpy10_6, (Int.le_refl _), (fun j h1 h2 => absurd h1 (Int.not_le.mpr h2)), rfl, hP, hD, hS, lv_sub hl [0, 1, 2, 3] rfl⟩
  obtain ⟨u_1, bu_1, inn_2_0, inn_2_1, en_2, hP, hD, hS, hl⟩ := hX
  refine lv_iload_n hx hb dX6_endOfRun_5 rfl (lv_at hl 0 rfl) ?_
  refine lv_aload_n hx hb dX6_endOfRun_6 rfl (lv_at hl 1 rfl) ?_
  refine va_get (ci := 6) (v := .int py10_4) (C := RX6) (T := TX6) (N := 9) hx hb hg inX6 hown hK hP 1 rfl rfl 4 (by decide) (hg _ q_1_141) (fun _ h9 => h9) rfl dX6_endOfRun_7 ?_
  refine lv_icmp_ge (tgt := 39) hx hb dX6_endOfRun_10 (by decide) (fun c_3 => ?_) (fun c_3 => ?_)
  · refine lv_iload_n hx hb dX6_endOfRun_39 rfl (lv_at hl 0 rfl) ?_
    exact fiI hx hb hr hlk hK hP hD hS dX6_endOfRun_40 (Nat.le_of_ble_eq_true rfl) (Nat.le_of_ble_eq_true rfl) (⟨bu_1, (er_of bpy10_6 bu_1 inn_2_0 inn_2_1 (ltB_0 (Int32.not_lt.mpr c_3))), inn_2_0, rfl⟩)
  · have b_4 : iv 0 899 u_1 := iv_l1 (Int32.not_le.mp c_3) bu_1 bpy10_4 (by decide)
    have b_5 : iv 1 900 py10_4 := iv_l2 (Int32.not_le.mp c_3) bu_1 bpy10_4 (by decide)
    refine lv_aload_n hx hb dX6_endOfRun_13 rfl (lv_at hl 1 rfl) ?_
    refine va_get (ci := 6) (v := .ref (y 1)) (C := RX6) (T := TX6) (N := 9) hx hb hg inX6 hown hK hP 1 rfl rfl 3 (by decide) (hg _ q_1_140) (fun _ h9 => h9) rfl dX6_endOfRun_14 ?_
    refine lv_iload_n hx hb dX6_endOfRun_17 rfl (lv_at hl 0 rfl) ?_
    refine va_bald hx hb hK hP 0 1 rfl rfl (iv_in b_4 (by decide)) dX6_endOfRun_18 ?_
    refine lv_topi (fun x_6 ex_6 => ?_)
    have bx_6 : iv (-128) 127 x_6 := by rw [ex_6]; exact tfy1 _
    refine lv_iload_n hx hb dX6_endOfRun_19 rfl (lv_at hl 2 rfl) ?_
    refine lv_icmp_lt (tgt := 39) hx hb dX6_endOfRun_20 (by decide) (fun c_7 => ?_) (fun c_7 => ?_)
    · have b_8 : iv (-127) 2147483647 a1 := iv_l2 c_7 bx_6 (iv_top a1) (by decide)
      refine lv_iload_n hx hb dX6_endOfRun_39 rfl (lv_at hl 0 rfl) ?_
      exact fiI hx hb hr hlk hK hP hD hS dX6_endOfRun_40 (Nat.le_of_ble_eq_true rfl) (Nat.le_of_ble_eq_true rfl) (⟨(iv_w b_4 (by decide)), (er_of bpy10_6 (iv_w b_4 (by decide)) inn_2_0 inn_2_1 (ltB_n ex_6 (Or.inl (Int32.not_le.mpr c_7)))), inn_2_0, rfl⟩)
    · have b_9 : iv (-2147483648) 127 a1 := iv_e1 (Int32.not_lt.mp c_7) (iv_top a1) bx_6 (by decide)
      refine lv_aload_n hx hb dX6_endOfRun_23 rfl (lv_at hl 1 rfl) ?_
      refine va_get (ci := 6) (v := .ref (y 1)) (C := RX6) (T := TX6) (N := 9) hx hb hg inX6 hown hK hP 1 rfl rfl 3 (by decide) (hg _ q_1_140) (fun _ h9 => h9) rfl dX6_endOfRun_24 ?_
      refine lv_iload_n hx hb dX6_endOfRun_27 rfl (lv_at hl 0 rfl) ?_
      refine va_bald hx hb hK hP 0 1 rfl rfl (iv_in b_4 (by decide)) dX6_endOfRun_28 ?_
      refine tpi (y := x_6) ex_6.symm ?_
      refine lv_iload_n hx hb dX6_endOfRun_29 rfl (lv_at hl 3 rfl) ?_
      refine lv_icmp_gt (tgt := 39) hx hb dX6_endOfRun_30 (by decide) (fun c_10 => ?_) (fun c_10 => ?_)
      · have b_11 : iv (-2147483648) 126 a2 := iv_l1 c_10 (iv_top a2) bx_6 (by decide)
        refine lv_iload_n hx hb dX6_endOfRun_39 rfl (lv_at hl 0 rfl) ?_
        exact fiI hx hb hr hlk hK hP hD hS dX6_endOfRun_40 (Nat.le_of_ble_eq_true rfl) (Nat.le_of_ble_eq_true rfl) (⟨(iv_w b_4 (by decide)), (er_of bpy10_6 (iv_w b_4 (by decide)) inn_2_0 inn_2_1 (ltB_n ex_6 (Or.inr (Int32.not_le.mpr c_10)))), inn_2_0, rfl⟩)
      · have b_12 : iv (-128) 2147483647 a2 := iv_e2 (Int32.not_lt.mp c_10) bx_6 (iv_top a2) (by decide)
        obtain ⟨x_13, ex_13⟩ : ∃ z9 : Int32, z9 = u_1 + 1 := ⟨_, rfl⟩
        have bx_13 : iv 1 900 x_13 := by rw [ex_13]; exact iv_add b_4 (iv_c (1 : Int32) (a := 1) (b := 1) (by decide)) (by decide)
        refine lv_iinc (v := x_13) (lv' := [(3, .int x_13), (0, .ref (y 10)), (1, .int a1), (2, .int a2)]) hx hb dX6_endOfRun_33 hl (k := 0) rfl (by rw [ex_13]; rfl) (by decide) rfl (fun ls hl => ?_)
        refine lv_goto (tgt := 5) hx hb dX6_endOfRun_36 (by decide) ?_
        exact ihn_2 _ _ _ _ (by rw [en_2, ex_13]; exact mu_up b_4 (by decide)) ⟨x_13, (iv_w bx_13 (by decide)), (by have q9 := inc_toInt ex_13 b_4 (by decide); have q8 := inn_2_0; omega), (sc_s inn_2_1 (ltB_1 (Int32.not_le.mp c_3) ex_6 (Int32.not_lt.mp c_7) (Int32.not_lt.mp c_10)) ex_13 b_4 (by decide)), rfl, hP, hD, hS, lv_sub hl [0, 1, 2, 3] rfl⟩
theorem dX6_valueOfRun_0 : decode cX6_valueOfRun 0 = .ok (.iconst 0, 1) := by decide +kernel
theorem dX6_valueOfRun_1 : decode cX6_valueOfRun 1 = .ok (.istore_n 1, 1) := by decide +kernel
theorem dX6_valueOfRun_2 : decode cX6_valueOfRun 2 = .ok (.aload_n 0, 1) := by decide +kernel
theorem dX6_valueOfRun_3 : decode cX6_valueOfRun 3 = .ok (.getfield 240, 3) := by decide +kernel
theorem dX6_valueOfRun_6 : decode cX6_valueOfRun 6 = .ok (.istore_n 2, 1) := by decide +kernel
theorem dX6_valueOfRun_7 : decode cX6_valueOfRun 7 = .ok (.iload_n 2, 1) := by decide +kernel
theorem dX6_valueOfRun_8 : decode cX6_valueOfRun 8 = .ok (.aload_n 0, 1) := by decide +kernel
theorem dX6_valueOfRun_9 : decode cX6_valueOfRun 9 = .ok (.getfield 44, 3) := by decide +kernel
theorem dX6_valueOfRun_12 : decode cX6_valueOfRun 12 = .ok (.if_icmp .ge 24, 3) := by decide +kernel
theorem dX6_valueOfRun_36 : decode cX6_valueOfRun 36 = .ok (.iload_n 1, 1) := by decide +kernel
theorem dX6_valueOfRun_37 : decode cX6_valueOfRun 37 = .ok (.ireturn, 1) := by decide +kernel
theorem dX6_valueOfRun_15 : decode cX6_valueOfRun 15 = .ok (.iload_n 1, 1) := by decide +kernel
theorem dX6_valueOfRun_16 : decode cX6_valueOfRun 16 = .ok (.bipush 10, 2) := by decide +kernel
theorem dX6_valueOfRun_18 : decode cX6_valueOfRun 18 = .ok (.imul, 1) := by decide +kernel
theorem dX6_valueOfRun_19 : decode cX6_valueOfRun 19 = .ok (.aload_n 0, 1) := by decide +kernel
theorem dX6_valueOfRun_20 : decode cX6_valueOfRun 20 = .ok (.getfield 22, 3) := by decide +kernel
theorem dX6_valueOfRun_23 : decode cX6_valueOfRun 23 = .ok (.iload_n 2, 1) := by decide +kernel
theorem dX6_valueOfRun_24 : decode cX6_valueOfRun 24 = .ok (.baload, 1) := by decide +kernel
theorem dX6_valueOfRun_25 : decode cX6_valueOfRun 25 = .ok (.iadd, 1) := by decide +kernel
theorem dX6_valueOfRun_26 : decode cX6_valueOfRun 26 = .ok (.bipush 48, 2) := by decide +kernel
theorem dX6_valueOfRun_28 : decode cX6_valueOfRun 28 = .ok (.isub, 1) := by decide +kernel
theorem dX6_valueOfRun_29 : decode cX6_valueOfRun 29 = .ok (.istore_n 1, 1) := by decide +kernel
theorem dX6_valueOfRun_30 : decode cX6_valueOfRun 30 = .ok (.iinc 2 1, 3) := by decide +kernel
theorem dX6_valueOfRun_33 : decode cX6_valueOfRun 33 = .ok (.goto (-26), 3) := by decide +kernel
set_option maxHeartbeats 4000000 in
set_option maxRecDepth 100000 in
theorem k_X6_valueOfRun_0 (l : Launch) (V : GV) (y : Nat → Nat) (fy1 : Nat → Int32) (py10_1 : Int32) (py10_2 : Int32) (py10_4 : Int32) (py10_5 : Int32) (py10_6 : Int32) (py10_7 : Int32) (py10_8 : Int32) (tfy1 : ∀ j, iv (-128) 127 (fy1 j)) (bpy10_4 : iv 0 900 py10_4) (bpy10_6 : iv 0 900 py10_6) (bpy10_7 : iv 0 900 py10_7) (bpy10_8 : iv 0 999 py10_8) : Ct l V yX6_valueOfRun (.code yX6_valueOfRun cX6_valueOfRun 3 (some .int)) 1 [.ref (y 10)] [(y 1, aB V 900 fy1), (y 10, .inr (6, o6_riiriiiii (y 11) py10_1 py10_2 (y 1) py10_4 py10_5 py10_6 py10_7 py10_8))] 0 0 (QI V (fun (r : Int32) (w : va_W) => ((py10_6 : Int32).toInt ≤ (py10_7 : Int32).toInt → r = dv fy1 py10_6 (py10_7 - py10_6).toNatClampNeg) ∧ w = [(y 1, aB V 900 fy1), (y 10, .inr (6, o6_riiriiiii (y 11) py10_1 py10_2 (y 1) py10_4 py10_5 py10_6 py10_7 py10_8))])) := by
  refine Ct.of (by decide) (Nat.le_of_ble_eq_true rfl) (fun p e s m below meth c A ls hx hb hr hml hown hlk hnm hg hP hK hD hE hA hS hl => ?_)
  have hl : lv_has ls 3 [(0, .ref (y 10))] := hl
  refine lv_iconst (v := 0) hx hb dX6_valueOfRun_0 (by decide) ?_
  refine lv_istore_n (lv' := [(1, .int 0), (0, .ref (y 10))]) hx hb dX6_valueOfRun_1 rfl hl (by decide) rfl (fun ls hl => ?_)
  refine lv_aload_n hx hb dX6_valueOfRun_2 rfl (lv_at hl 1 rfl) ?_
  refine va_get (ci := 6) (v := .int py10_6) (C := RX6) (T := TX6) (N := 9) hx hb hg inX6 hown hK hP 1 rfl rfl 6 (by decide) (hg _ q_1_143) (fun _ h9 => h9) rfl dX6_valueOfRun_3 ?_
  refine lv_istore_n (lv' := [(2, .int py10_6), (1, .int 0), (0, .ref (y 10))]) hx hb dX6_valueOfRun_6 rfl hl (by decide) rfl (fun ls hl => ?_)
  refine loopF (X := fun (n_3 : Nat) (H : Heap) (locs : List Loc) (ls : Array Slot) => ∃ (u_1 : Int32) (u_2 : Int32), (iv 0 2147483647 u_1) ∧ ((py10_6 : Int32).toInt ≤ (u_1 : Int32).toInt) ∧ (u_2 = dv fy1 py10_6 (u_1 - py10_6).toNatClampNeg) ∧ ((py10_6 : Int32).toInt ≤ (py10_7 : Int32).toInt → (u_1 : Int32).toInt ≤ (py10_7 : Int32).toInt) ∧ n_3 = (2147483647 - (u_1 : Int32).toInt).toNat ∧ va_P V.1 vwCl [(y 1, aB V 900 fy1), (y 10, .inr (6, o6_riiriiiii (y 11) py10_1 py10_2 (y 1) py10_4 py10_5 py10_6 py10_7 py10_8))] H ∧ va_D A [(y 1, aB V 900 fy1), (y 10, .inr (6, o6_riiriiiii (y 11) py10_1 py10_2 (y 1) py10_4 py10_5 py10_6 py10_7 py10_8))] ∧ va_S A s.heap H locs ∧ lv_has ls 3 [(2, .int u_1), (1, .int u_2), (0, .ref (y 10))]) (g := fun ls => F0 m 7 ls []) (fun n_3 H locs ls hX ihn_3 => ?_) _ ⟨py10_6, 0, (iv_w bpy10_6 (by decide)), (Int.le_refl _), dv_0, (fun q9 => q9), rfl, hP, hD, hS, lv_sub hl [0, 1, 2] rfl⟩
  obtain ⟨u_1, u_2, bu_1, inn_3_0, inn_3_1, inn_3_2, en_3, hP, hD, hS, hl⟩ := hX
  refine lv_iload_n hx hb dX6_valueOfRun_7 rfl (lv_at hl 0 rfl) ?_
  refine lv_aload_n hx hb dX6_valueOfRun_8 rfl (lv_at hl 2 rfl) ?_
  refine va_get (ci := 6) (v := .int py10_7) (C := RX6) (T := TX6) (N := 9) hx hb hg inX6 hown hK hP 1 rfl rfl 7 (by decide) (hg _ q_1_144) (fun _ h9 => h9) rfl dX6_valueOfRun_9 ?_
  refine lv_icmp_ge (tgt := 36) hx hb dX6_valueOfRun_12 (by decide) (fun c_4 => ?_) (fun c_4 => ?_)
  · refine lv_iload_n hx hb dX6_valueOfRun_36 rfl (lv_at hl 1 rfl) ?_
    exact fiI hx hb hr hlk hK hP hD hS dX6_valueOfRun_37 (Nat.le_of_ble_eq_true rfl) (Nat.le_of_ble_eq_true rfl) (⟨(fun q9 => dv_e (inn_3_2 q9) (Int32.not_lt.mpr c_4) inn_3_1), rfl⟩)
  · have b_5 : iv 0 899 u_1 := iv_l1 (Int32.not_le.mp c_4) bu_1 bpy10_7 (by decide)
    have b_6 : iv 1 900 py10_7 := iv_l2 (Int32.not_le.mp c_4) bu_1 bpy10_7 (by decide)
    refine lv_iload_n hx hb dX6_valueOfRun_15 rfl (lv_at hl 1 rfl) ?_
    refine lv_bipush (v := 10) hx hb dX6_valueOfRun_16 (by decide) ?_
    refine lv_imul hx hb dX6_valueOfRun_18 ?_
    refine lv_topi (fun x_7 ex_7 => ?_)
    refine lv_aload_n hx hb dX6_valueOfRun_19 rfl (lv_at hl 2 rfl) ?_
    refine va_get (ci := 6) (v := .ref (y 1)) (C := RX6) (T := TX6) (N := 9) hx hb hg inX6 hown hK hP 1 rfl rfl 3 (by decide) (hg _ q_1_140) (fun _ h9 => h9) rfl dX6_valueOfRun_20 ?_
    refine lv_iload_n hx hb dX6_valueOfRun_23 rfl (lv_at hl 0 rfl) ?_
    refine va_bald hx hb hK hP 0 1 rfl rfl (iv_in b_5 (by decide)) dX6_valueOfRun_24 ?_
    refine lv_topi (fun x_8 ex_8 => ?_)
    have bx_8 : iv (-128) 127 x_8 := by rw [ex_8]; exact tfy1 _
    refine lv_iadd hx hb dX6_valueOfRun_25 ?_
    refine lv_topi (fun x_9 ex_9 => ?_)
    refine lv_bipush (v := 48) hx hb dX6_valueOfRun_26 (by decide) ?_
    refine lv_isub hx hb dX6_valueOfRun_28 ?_
    refine lv_topi (fun x_10 ex_10 => ?_)
    refine lv_istore_n (lv' := [(1, .int x_10), (2, .int u_1), (0, .ref (y 10))]) hx hb dX6_valueOfRun_29 rfl hl (by decide) rfl (fun ls hl => ?_)
    obtain ⟨x_11, ex_11⟩ : ∃ z9 : Int32, z9 = u_1 + 1 := ⟨_, rfl⟩
    have bx_11 : iv 1 900 x_11 := by rw [ex_11]; exact iv_add b_5 (iv_c (1 : Int32) (a := 1) (b := 1) (by decide)) (by decide)
    refine lv_iinc (v := x_11) (lv' := [(2, .int x_11), (1, .int x_10), (0, .ref (y 10))]) hx hb dX6_valueOfRun_30 hl (k := 1) rfl (by rw [ex_11]; rfl) (by decide) rfl (fun ls hl => ?_)
    refine lv_goto (tgt := 7) hx hb dX6_valueOfRun_33 (by decide) ?_
    exact ihn_3 _ _ _ _ (by rw [en_3, ex_11]; exact mu_up b_5 (by decide)) ⟨x_11, x_10, (iv_w bx_11 (by decide)), (by have q9 := inc_toInt ex_11 b_5 (by decide); have q8 := inn_3_0; omega), (dv_s bpy10_6 b_5 (by decide) inn_3_0 inn_3_1 ex_8 ex_7 ex_9 ex_10 ex_11), (fun _ => by have q9 := inc_toInt ex_11 b_5 (by decide); have q8 := Int32.lt_iff_toInt_lt.mp (Int32.not_le.mp c_4); omega), rfl, hP, hD, hS, lv_sub hl [0, 1, 2] rfl⟩
theorem dX6_step_0 : decode cX6_step 0 = .ok (.aload_n 0, 1) := by decide +kernel
theorem dX6_step_1 : decode cX6_step 1 = .ok (.getfield 41, 3) := by decide +kernel
theorem dX6_step_4 : decode cX6_step 4 = .ok (.iconst 4, 1) := by decide +kernel
theorem dX6_step_5 : decode cX6_step 5 = .ok (.if_icmp .ne 4, 3) := by decide +kernel
theorem dX6_step_9 : decode cX6_step 9 = .ok (.aload_n 0, 1) := by decide +kernel
theorem dX6_step_10 : decode cX6_step 10 = .ok (.aload_n 0, 1) := by decide +kernel
theorem dX6_step_11 : decode cX6_step 11 = .ok (.getfield 44, 3) := by decide +kernel
theorem dX6_step_14 : decode cX6_step 14 = .ok (.putfield 240, 3) := by decide +kernel
theorem dX6_step_17 : decode cX6_step 17 = .ok (.aload_n 0, 1) := by decide +kernel
theorem dX6_step_18 : decode cX6_step 18 = .ok (.getfield 240, 3) := by decide +kernel
theorem dX6_step_21 : decode cX6_step 21 = .ok (.aload_n 0, 1) := by decide +kernel
theorem dX6_step_22 : decode cX6_step 22 = .ok (.getfield 35, 3) := by decide +kernel
theorem dX6_step_25 : decode cX6_step 25 = .ok (.if_icmp .ge 44, 3) := by decide +kernel
theorem dX6_step_69 : decode cX6_step 69 = .ok (.aload_n 0, 1) := by decide +kernel
theorem dX6_step_70 : decode cX6_step 70 = .ok (.aload_n 0, 1) := by decide +kernel
theorem dX6_step_71 : decode cX6_step 71 = .ok (.getfield 240, 3) := by decide +kernel
theorem dX6_step_74 : decode cX6_step 74 = .ok (.putfield 44, 3) := by decide +kernel
theorem dX6_step_77 : decode cX6_step 77 = .ok (.aload_n 0, 1) := by decide +kernel
theorem dX6_step_78 : decode cX6_step 78 = .ok (.getfield 240, 3) := by decide +kernel
theorem dX6_step_81 : decode cX6_step 81 = .ok (.aload_n 0, 1) := by decide +kernel
theorem dX6_step_82 : decode cX6_step 82 = .ok (.getfield 35, 3) := by decide +kernel
theorem dX6_step_85 : decode cX6_step 85 = .ok (.if_icmp .lt 11, 3) := by decide +kernel
theorem dX6_step_96 : decode cX6_step 96 = .ok (.aload_n 0, 1) := by decide +kernel
theorem dX6_step_97 : decode cX6_step 97 = .ok (.getfield 22, 3) := by decide +kernel
theorem dX6_step_100 : decode cX6_step 100 = .ok (.aload_n 0, 1) := by decide +kernel
theorem dX6_step_101 : decode cX6_step 101 = .ok (.getfield 240, 3) := by decide +kernel
theorem dX6_step_104 : decode cX6_step 104 = .ok (.baload, 1) := by decide +kernel
theorem dX6_step_105 : decode cX6_step 105 = .ok (.bipush 97, 2) := by decide +kernel
theorem dX6_step_107 : decode cX6_step 107 = .ok (.if_icmp .lt 37, 3) := by decide +kernel
theorem dX6_step_144 : decode cX6_step 144 = .ok (.aload_n 0, 1) := by decide +kernel
theorem dX6_step_145 : decode cX6_step 145 = .ok (.getfield 22, 3) := by decide +kernel
theorem dX6_step_148 : decode cX6_step 148 = .ok (.aload_n 0, 1) := by decide +kernel
theorem dX6_step_149 : decode cX6_step 149 = .ok (.getfield 240, 3) := by decide +kernel
theorem dX6_step_152 : decode cX6_step 152 = .ok (.baload, 1) := by decide +kernel
theorem dX6_step_153 : decode cX6_step 153 = .ok (.bipush 48, 2) := by decide +kernel
theorem dX6_step_155 : decode cX6_step 155 = .ok (.if_icmp .lt 66, 3) := by decide +kernel
theorem dX6_step_221 : decode cX6_step 221 = .ok (.ldc 254, 2) := by decide +kernel
theorem dX6_step_223 : decode cX6_step 223 = .ok (.aload_n 0, 1) := by decide +kernel
theorem dX6_step_224 : decode cX6_step 224 = .ok (.getfield 22, 3) := by decide +kernel
theorem dX6_step_227 : decode cX6_step 227 = .ok (.aload_n 0, 1) := by decide +kernel
theorem dX6_step_228 : decode cX6_step 228 = .ok (.getfield 240, 3) := by decide +kernel
theorem dX6_step_231 : decode cX6_step 231 = .ok (.baload, 1) := by decide +kernel
theorem dX6_step_232 : decode cX6_step 232 = .ok (.sipush 255, 3) := by decide +kernel
theorem dX6_step_235 : decode cX6_step 235 = .ok (.iand, 1) := by decide +kernel
theorem dX6_step_236 : decode cX6_step 236 = .ok (.i2c, 1) := by decide +kernel
theorem q_2_128 : Cond.code yJ0_indexOf_0f7a4 prog_16_method_79_code 2 (some FieldType.int) ∈ gw := gw_2 (i := 128) (rfl) rfl
theorem q_2_126 : Cond.instanceMethod yJ0_indexOf_0f7a4 ∈ gw := gw_2 (i := 126) (by decide +kernel) rfl
theorem q_2_127 : Cond.selects "java/lang/String" yJ0_indexOf_0f7a4 yJ0_indexOf_0f7a4 ∈ gw := gw_2 (i := 127) (by decide +kernel) rfl
theorem mt_J0_indexOf_0f7a4 : MtV yJ0_indexOf_0f7a4 cJ0_indexOf_0f7a4 2 (some .int) 1 := ⟨⟨q_2_128, q_1_11, by decide +kernel, by decide +kernel, by decide +kernel⟩, q_2_126, q_2_127⟩
theorem q_2_125 : Cond.methodLink "BeaconDelay$Reader" 256 yJ0_indexOf_0f7a4 ∈ gw := gw_2 (i := 125) (by decide +kernel) rfl
theorem dX6_step_237 : decode cX6_step 237 = .ok (.invokevirtual 256, 3) := by decide +kernel
theorem dX6_step_240 : decode cX6_step 240 = .ok (.ifCond .lt 21, 3) := by decide +kernel
theorem dX6_step_261 : decode cX6_step 261 = .ok (.aload_n 0, 1) := by decide +kernel
theorem dX6_step_262 : decode cX6_step 262 = .ok (.iconst 1, 1) := by decide +kernel
theorem q_2_119 : Cond.code yX6_fail prog_8_method_20_code 2 none ∈ gw := gw_2 (i := 119) (rfl) rfl
theorem q_1_3 : Cond.initialized "BeaconDelay$Reader" ∈ gw := gw_1 (i := 3) (by decide +kernel) rfl
theorem q_2_118 : Cond.instanceMethod yX6_fail ∈ gw := gw_2 (i := 118) (by decide +kernel) rfl
theorem q_s_3 : Cond.selects "BeaconDelay$Reader" yX6_fail yX6_fail ∈ gw := gw_s (i := 3) (by decide +kernel) rfl
theorem mt_X6_fail : MtV yX6_fail cX6_fail 2 none 1 := ⟨⟨q_2_119, q_1_3, by decide +kernel, by decide +kernel, by decide +kernel⟩, q_2_118, q_s_3⟩
theorem q_2_116 : Cond.methodLink "BeaconDelay$Reader" 105 yX6_fail ∈ gw := gw_2 (i := 116) (by decide +kernel) rfl
theorem dX6_step_263 : decode cX6_step 263 = .ok (.invokevirtual 105, 3) := by decide +kernel
theorem dX6_step_266 : decode cX6_step 266 = .ok (.return_, 1) := by decide +kernel
theorem dX6_step_243 : decode cX6_step 243 = .ok (.aload_n 0, 1) := by decide +kernel
theorem dX6_step_244 : decode cX6_step 244 = .ok (.iconst 3, 1) := by decide +kernel
theorem dX6_step_245 : decode cX6_step 245 = .ok (.putfield 41, 3) := by decide +kernel
theorem dX6_step_248 : decode cX6_step 248 = .ok (.aload_n 0, 1) := by decide +kernel
theorem dX6_step_249 : decode cX6_step 249 = .ok (.aload_n 0, 1) := by decide +kernel
theorem dX6_step_250 : decode cX6_step 250 = .ok (.getfield 240, 3) := by decide +kernel
theorem dX6_step_253 : decode cX6_step 253 = .ok (.iconst 1, 1) := by decide +kernel
theorem dX6_step_254 : decode cX6_step 254 = .ok (.iadd, 1) := by decide +kernel
theorem dX6_step_255 : decode cX6_step 255 = .ok (.putfield 44, 3) := by decide +kernel
theorem dX6_step_258 : decode cX6_step 258 = .ok (.goto 8, 3) := by decide +kernel
theorem dX6_step_158 : decode cX6_step 158 = .ok (.aload_n 0, 1) := by decide +kernel
theorem dX6_step_159 : decode cX6_step 159 = .ok (.getfield 22, 3) := by decide +kernel
theorem dX6_step_162 : decode cX6_step 162 = .ok (.aload_n 0, 1) := by decide +kernel
theorem dX6_step_163 : decode cX6_step 163 = .ok (.getfield 240, 3) := by decide +kernel
theorem dX6_step_166 : decode cX6_step 166 = .ok (.baload, 1) := by decide +kernel
theorem dX6_step_167 : decode cX6_step 167 = .ok (.bipush 57, 2) := by decide +kernel
theorem dX6_step_169 : decode cX6_step 169 = .ok (.if_icmp .gt 52, 3) := by decide +kernel
theorem dX6_step_172 : decode cX6_step 172 = .ok (.aload_n 0, 1) := by decide +kernel
theorem dX6_step_173 : decode cX6_step 173 = .ok (.iconst 2, 1) := by decide +kernel
theorem dX6_step_174 : decode cX6_step 174 = .ok (.putfield 41, 3) := by decide +kernel
theorem dX6_step_177 : decode cX6_step 177 = .ok (.aload_n 0, 1) := by decide +kernel
theorem dX6_step_178 : decode cX6_step 178 = .ok (.aload_n 0, 1) := by decide +kernel
theorem dX6_step_179 : decode cX6_step 179 = .ok (.bipush 48, 2) := by decide +kernel
theorem dX6_step_181 : decode cX6_step 181 = .ok (.bipush 57, 2) := by decide +kernel
theorem q_2_115 : Cond.code yX6_endOfRun prog_8_method_22_code 4 (some FieldType.int) ∈ gw := gw_2 (i := 115) (rfl) rfl
theorem q_2_114 : Cond.instanceMethod yX6_endOfRun ∈ gw := gw_2 (i := 114) (by decide +kernel) rfl
theorem q_s_2 : Cond.selects "BeaconDelay$Reader" yX6_endOfRun yX6_endOfRun ∈ gw := gw_s (i := 2) (by decide +kernel) rfl
theorem mt_X6_endOfRun : MtV yX6_endOfRun cX6_endOfRun 4 (some .int) 2 := ⟨⟨q_2_115, q_1_3, by decide +kernel, by decide +kernel, by decide +kernel⟩, q_2_114, q_s_2⟩
theorem q_2_112 : Cond.methodLink "BeaconDelay$Reader" 247 yX6_endOfRun ∈ gw := gw_2 (i := 112) (by decide +kernel) rfl
theorem dX6_step_183 : decode cX6_step 183 = .ok (.invokevirtual 247, 3) := by decide +kernel
theorem dX6_step_186 : decode cX6_step 186 = .ok (.putfield 44, 3) := by decide +kernel
theorem dX6_step_189 : decode cX6_step 189 = .ok (.aload_n 0, 1) := by decide +kernel
theorem dX6_step_190 : decode cX6_step 190 = .ok (.getfield 44, 3) := by decide +kernel
theorem dX6_step_193 : decode cX6_step 193 = .ok (.aload_n 0, 1) := by decide +kernel
theorem dX6_step_194 : decode cX6_step 194 = .ok (.getfield 240, 3) := by decide +kernel
theorem dX6_step_197 : decode cX6_step 197 = .ok (.isub, 1) := by decide +kernel
theorem dX6_step_198 : decode cX6_step 198 = .ok (.iconst 3, 1) := by decide +kernel
theorem dX6_step_199 : decode cX6_step 199 = .ok (.if_icmp .le 11, 3) := by decide +kernel
theorem dX6_step_210 : decode cX6_step 210 = .ok (.aload_n 0, 1) := by decide +kernel
theorem dX6_step_211 : decode cX6_step 211 = .ok (.aload_n 0, 1) := by decide +kernel
theorem q_2_123 : Cond.code yX6_valueOfRun prog_8_method_23_code 3 (some FieldType.int) ∈ gw := gw_2 (i := 123) (rfl) rfl
theorem q_2_122 : Cond.instanceMethod yX6_valueOfRun ∈ gw := gw_2 (i := 122) (by decide +kernel) rfl
theorem q_s_4 : Cond.selects "BeaconDelay$Reader" yX6_valueOfRun yX6_valueOfRun ∈ gw := gw_s (i := 4) (by decide +kernel) rfl
theorem mt_X6_valueOfRun : MtV yX6_valueOfRun cX6_valueOfRun 3 (some .int) 0 := ⟨⟨q_2_123, q_1_3, by decide +kernel, by decide +kernel, by decide +kernel⟩, q_2_122, q_s_4⟩
theorem q_2_120 : Cond.methodLink "BeaconDelay$Reader" 251 yX6_valueOfRun ∈ gw := gw_2 (i := 120) (by decide +kernel) rfl
theorem dX6_step_212 : decode cX6_step 212 = .ok (.invokevirtual 251, 3) := by decide +kernel
theorem q_1_145 : Cond.fieldLink "BeaconDelay$Reader" 211 "BeaconDelay$Reader" "value" "I" ∈ gw := gw_1 (i := 145) (by decide +kernel) rfl
theorem dX6_step_215 : decode cX6_step 215 = .ok (.putfield 211, 3) := by decide +kernel
theorem dX6_step_218 : decode cX6_step 218 = .ok (.goto 48, 3) := by decide +kernel
theorem dX6_step_202 : decode cX6_step 202 = .ok (.aload_n 0, 1) := by decide +kernel
theorem dX6_step_203 : decode cX6_step 203 = .ok (.iconst 1, 1) := by decide +kernel
theorem dX6_step_204 : decode cX6_step 204 = .ok (.invokevirtual 105, 3) := by decide +kernel
theorem dX6_step_207 : decode cX6_step 207 = .ok (.goto 59, 3) := by decide +kernel
theorem dX6_step_110 : decode cX6_step 110 = .ok (.aload_n 0, 1) := by decide +kernel
theorem dX6_step_111 : decode cX6_step 111 = .ok (.getfield 22, 3) := by decide +kernel
theorem dX6_step_114 : decode cX6_step 114 = .ok (.aload_n 0, 1) := by decide +kernel
theorem dX6_step_115 : decode cX6_step 115 = .ok (.getfield 240, 3) := by decide +kernel
theorem dX6_step_118 : decode cX6_step 118 = .ok (.baload, 1) := by decide +kernel
theorem dX6_step_119 : decode cX6_step 119 = .ok (.bipush 122, 2) := by decide +kernel
theorem dX6_step_121 : decode cX6_step 121 = .ok (.if_icmp .gt 23, 3) := by decide +kernel
theorem dX6_step_124 : decode cX6_step 124 = .ok (.aload_n 0, 1) := by decide +kernel
theorem dX6_step_125 : decode cX6_step 125 = .ok (.iconst 1, 1) := by decide +kernel
theorem dX6_step_126 : decode cX6_step 126 = .ok (.putfield 41, 3) := by decide +kernel
theorem dX6_step_129 : decode cX6_step 129 = .ok (.aload_n 0, 1) := by decide +kernel
theorem dX6_step_130 : decode cX6_step 130 = .ok (.aload_n 0, 1) := by decide +kernel
theorem dX6_step_131 : decode cX6_step 131 = .ok (.bipush 97, 2) := by decide +kernel
theorem dX6_step_133 : decode cX6_step 133 = .ok (.bipush 122, 2) := by decide +kernel
theorem dX6_step_135 : decode cX6_step 135 = .ok (.invokevirtual 247, 3) := by decide +kernel
theorem dX6_step_138 : decode cX6_step 138 = .ok (.putfield 44, 3) := by decide +kernel
theorem dX6_step_141 : decode cX6_step 141 = .ok (.goto 125, 3) := by decide +kernel
theorem dX6_step_88 : decode cX6_step 88 = .ok (.aload_n 0, 1) := by decide +kernel
theorem dX6_step_89 : decode cX6_step 89 = .ok (.iconst 0, 1) := by decide +kernel
theorem dX6_step_90 : decode cX6_step 90 = .ok (.putfield 41, 3) := by decide +kernel
theorem dX6_step_93 : decode cX6_step 93 = .ok (.goto 173, 3) := by decide +kernel
theorem dX6_step_28 : decode cX6_step 28 = .ok (.aload_n 0, 1) := by decide +kernel
theorem dX6_step_29 : decode cX6_step 29 = .ok (.getfield 22, 3) := by decide +kernel
theorem dX6_step_32 : decode cX6_step 32 = .ok (.aload_n 0, 1) := by decide +kernel
theorem dX6_step_33 : decode cX6_step 33 = .ok (.getfield 240, 3) := by decide +kernel
theorem dX6_step_36 : decode cX6_step 36 = .ok (.baload, 1) := by decide +kernel
theorem dX6_step_37 : decode cX6_step 37 = .ok (.bipush 10, 2) := by decide +kernel
theorem dX6_step_39 : decode cX6_step 39 = .ok (.if_icmp .eq 17, 3) := by decide +kernel
theorem dX6_step_56 : decode cX6_step 56 = .ok (.aload_n 0, 1) := by decide +kernel
theorem dX6_step_57 : decode cX6_step 57 = .ok (.dup, 1) := by decide +kernel
theorem dX6_step_58 : decode cX6_step 58 = .ok (.getfield 240, 3) := by decide +kernel
theorem dX6_step_61 : decode cX6_step 61 = .ok (.iconst 1, 1) := by decide +kernel
theorem dX6_step_62 : decode cX6_step 62 = .ok (.iadd, 1) := by decide +kernel
theorem dX6_step_63 : decode cX6_step 63 = .ok (.putfield 240, 3) := by decide +kernel
theorem dX6_step_66 : decode cX6_step 66 = .ok (.goto (-49), 3) := by decide +kernel
theorem dX6_step_42 : decode cX6_step 42 = .ok (.aload_n 0, 1) := by decide +kernel
theorem dX6_step_43 : decode cX6_step 43 = .ok (.getfield 22, 3) := by decide +kernel
theorem dX6_step_46 : decode cX6_step 46 = .ok (.aload_n 0, 1) := by decide +kernel
theorem dX6_step_47 : decode cX6_step 47 = .ok (.getfield 240, 3) := by decide +kernel
theorem dX6_step_50 : decode cX6_step 50 = .ok (.baload, 1) := by decide +kernel
theorem dX6_step_51 : decode cX6_step 51 = .ok (.bipush 32, 2) := by decide +kernel
theorem dX6_step_53 : decode cX6_step 53 = .ok (.if_icmp .ne 16, 3) := by decide +kernel
theorem dX6_step_8 : decode cX6_step 8 = .ok (.return_, 1) := by decide +kernel
set_option maxHeartbeats 4000000 in
set_option maxRecDepth 100000 in
theorem k_X6_step_0 (l : Launch) (V : GV) (y : Nat → Nat) (fy1 : Nat → Int32) (py10_1 : Int32) (py10_2 : Int32) (py10_4 : Int32) (py10_5 : Int32) (py10_6 : Int32) (py10_7 : Int32) (py10_8 : Int32) (tfy1 : ∀ j, iv (-128) 127 (fy1 j)) (bpy10_4 : iv 0 900 py10_4) (bpy10_6 : iv 0 900 py10_6) (bpy10_7 : iv 0 900 py10_7) (bpy10_8 : iv 0 999 py10_8) : Ct l V yX6_step (.code yX6_step cX6_step 1 none) 5 [.ref (y 10)] [(y 1, aB V 900 fy1), (y 10, .inr (6, o6_riiriiiii (y 11) py10_1 py10_2 (y 1) py10_4 py10_5 py10_6 py10_7 py10_8))] 0 0 (QV V (fun (w : va_W) => ∃ (v0 : Int32) (v1 : Int32) (v2 : Int32) (v3 : Int32) (v4 : Int32) (v5 : Int32), iv 0 900 v3 ∧ iv 0 900 v4 ∧ iv 0 999 v5 ∧ (SR fy1 py10_4 py10_1 py10_2 py10_5 py10_7 v0 v1 v2 v3 v4 v5) ∧ w = [(y 1, aB V 900 fy1), (y 10, .inr (6, o6_riiriiiii (y 11) v0 v1 (y 1) py10_4 v2 v3 v4 v5))])) := by
  refine Ct.of (by decide) (Nat.le_of_ble_eq_true rfl) (fun p e s m below meth c A ls hx hb hr hml hown hlk hnm hg hP hK hD hE hA hS hl => ?_)
  have hl : lv_has ls 1 [(0, .ref (y 10))] := hl
  refine lv_aload_n hx hb dX6_step_0 rfl (lv_at hl 0 rfl) ?_
  refine va_get (ci := 6) (v := .int py10_5) (C := RX6) (T := TX6) (N := 9) hx hb hg inX6 hown hK hP 1 rfl rfl 5 (by decide) (hg _ q_1_142) (fun _ h9 => h9) rfl dX6_step_1 ?_
  refine lv_iconst (v := 4) hx hb dX6_step_4 (by decide) ?_
  refine lv_icmp_ne (tgt := 9) hx hb dX6_step_5 (by decide) (fun c_1 => ?_) (fun c_1 => ?_)
  · refine lv_aload_n hx hb dX6_step_9 rfl (lv_at hl 0 rfl) ?_
    refine lv_aload_n hx hb dX6_step_10 rfl (lv_at hl 0 rfl) ?_
    refine va_get (ci := 6) (v := .int py10_7) (C := RX6) (T := TX6) (N := 9) hx hb hg inX6 hown hK hP 1 rfl rfl 7 (by decide) (hg _ q_1_144) (fun _ h9 => h9) rfl dX6_step_11 ?_
    refine va_put (ci := 6) (v := .int py10_7) (ty := .int) (C := RX6) (T := TX6) (N := 9) hx hb hg inX6 tyX6 tyX6_ok nmX6 hown hK hP hD hS 1 rfl rfl 6 (by decide) (hg _ q_1_143) (fun _ h9 => h9) rfl (by decide +kernel) rfl rfl (Nat.le_of_ble_eq_true rfl) dX6_step_14 (fun H locs hP hD hS => ?_)
    have hP : va_P V.1 vwCl [(y 1, aB V 900 fy1), (y 10, .inr (6, o6_riiriiiii (y 11) py10_1 py10_2 (y 1) py10_4 py10_5 py10_7 py10_7 py10_8))] H := hP
    have hD := cpD hP hD
    refine loopF (X := fun (n_3 : Nat) (H : Heap) (locs : List Loc) (ls : Array Slot) => ∃ (u_2 : Int32), (iv 0 900 u_2) ∧ ((py10_7 : Int32).toInt ≤ (u_2 : Int32).toInt) ∧ (∀ j : Int32, (py10_7 : Int32).toInt ≤ j.toInt → j.toInt < (u_2 : Int32).toInt → blB fy1 py10_4 j = true) ∧ n_3 = (900 - (u_2 : Int32).toInt).toNat ∧ va_P V.1 vwCl [(y 1, aB V 900 fy1), (y 10, .inr (6, o6_riiriiiii (y 11) py10_1 py10_2 (y 1) py10_4 py10_5 u_2 py10_7 py10_8))] H ∧ va_D A [(y 1, aB V 900 fy1), (y 10, .inr (6, o6_riiriiiii (y 11) py10_1 py10_2 (y 1) py10_4 py10_5 u_2 py10_7 py10_8))] ∧ va_S A s.heap H locs ∧ lv_has ls 1 [(0, .ref (y 10))]) (g := fun ls => F0 m 17 ls []) (fun n_3 H locs ls hX ihn_3 => ?_) _ ⟨py10_7, bpy10_7, (Int.le_refl _), (fun j h1 h2 => absurd h1 (Int.not_le.mpr h2)), rfl, hP, hD, hS, lv_sub hl [0] rfl⟩
    obtain ⟨u_2, bu_2, inn_3_0, inn_3_1, en_3, hP, hD, hS, hl⟩ := hX
    refine lv_aload_n hx hb dX6_step_17 rfl (lv_at hl 0 rfl) ?_
    refine va_get (ci := 6) (v := .int u_2) (C := RX6) (T := TX6) (N := 9) hx hb hg inX6 hown hK hP 1 rfl rfl 6 (by decide) (hg _ q_1_143) (fun _ h9 => h9) rfl dX6_step_18 ?_
    refine lv_aload_n hx hb dX6_step_21 rfl (lv_at hl 0 rfl) ?_
    refine va_get (ci := 6) (v := .int py10_4) (C := RX6) (T := TX6) (N := 9) hx hb hg inX6 hown hK hP 1 rfl rfl 4 (by decide) (hg _ q_1_141) (fun _ h9 => h9) rfl dX6_step_22 ?_
    refine lv_icmp_ge (tgt := 69) hx hb dX6_step_25 (by decide) (fun c_4 => ?_) (fun c_4 => ?_)
    · refine lv_aload_n hx hb dX6_step_69 rfl (lv_at hl 0 rfl) ?_
      refine lv_aload_n hx hb dX6_step_70 rfl (lv_at hl 0 rfl) ?_
      refine va_get (ci := 6) (v := .int u_2) (C := RX6) (T := TX6) (N := 9) hx hb hg inX6 hown hK hP 1 rfl rfl 6 (by decide) (hg _ q_1_143) (fun _ h9 => h9) rfl dX6_step_71 ?_
      refine va_put (ci := 6) (v := .int u_2) (ty := .int) (C := RX6) (T := TX6) (N := 9) hx hb hg inX6 tyX6 tyX6_ok nmX6 hown hK hP hD hS 1 rfl rfl 7 (by decide) (hg _ q_1_144) (fun _ h9 => h9) rfl (by decide +kernel) rfl rfl (Nat.le_of_ble_eq_true rfl) dX6_step_74 (fun H locs hP hD hS => ?_)
      have hP : va_P V.1 vwCl [(y 1, aB V 900 fy1), (y 10, .inr (6, o6_riiriiiii (y 11) py10_1 py10_2 (y 1) py10_4 py10_5 u_2 u_2 py10_8))] H := hP
      have hD := cpD hP hD
      refine lv_aload_n hx hb dX6_step_77 rfl (lv_at hl 0 rfl) ?_
      refine va_get (ci := 6) (v := .int u_2) (C := RX6) (T := TX6) (N := 9) hx hb hg inX6 hown hK hP 1 rfl rfl 6 (by decide) (hg _ q_1_143) (fun _ h9 => h9) rfl dX6_step_78 ?_
      refine lv_aload_n hx hb dX6_step_81 rfl (lv_at hl 0 rfl) ?_
      refine va_get (ci := 6) (v := .int py10_4) (C := RX6) (T := TX6) (N := 9) hx hb hg inX6 hown hK hP 1 rfl rfl 4 (by decide) (hg _ q_1_141) (fun _ h9 => h9) rfl dX6_step_82 ?_
      refine lv_icmp_lt (tgt := 96) hx hb dX6_step_85 (by decide) (fun c_5 => ?_) (fun c_5 => ?_)
      · have b_6 : iv 0 899 u_2 := iv_l1 c_5 bu_2 bpy10_4 (by decide)
        have b_7 : iv 1 900 py10_4 := iv_l2 c_5 bu_2 bpy10_4 (by decide)
        refine lv_aload_n hx hb dX6_step_96 rfl (lv_at hl 0 rfl) ?_
        refine va_get (ci := 6) (v := .ref (y 1)) (C := RX6) (T := TX6) (N := 9) hx hb hg inX6 hown hK hP 1 rfl rfl 3 (by decide) (hg _ q_1_140) (fun _ h9 => h9) rfl dX6_step_97 ?_
        refine lv_aload_n hx hb dX6_step_100 rfl (lv_at hl 0 rfl) ?_
        refine va_get (ci := 6) (v := .int u_2) (C := RX6) (T := TX6) (N := 9) hx hb hg inX6 hown hK hP 1 rfl rfl 6 (by decide) (hg _ q_1_143) (fun _ h9 => h9) rfl dX6_step_101 ?_
        refine va_bald hx hb hK hP 0 1 rfl rfl (iv_in b_6 (by decide)) dX6_step_104 ?_
        refine lv_topi (fun x_8 ex_8 => ?_)
        have bx_8 : iv (-128) 127 x_8 := by rw [ex_8]; exact tfy1 _
        refine lv_bipush (v := 97) hx hb dX6_step_105 (by decide) ?_
        refine lv_icmp_lt (tgt := 144) hx hb dX6_step_107 (by decide) (fun c_9 => ?_) (fun c_9 => ?_)
        · have b_10 : iv (-128) 96 x_8 := iv_l1 c_9 bx_8 (iv_c (97 : Int32) (a := 97) (b := 97) (by decide)) (by decide)
          refine lv_aload_n hx hb dX6_step_144 rfl (lv_at hl 0 rfl) ?_
          refine va_get (ci := 6) (v := .ref (y 1)) (C := RX6) (T := TX6) (N := 9) hx hb hg inX6 hown hK hP 1 rfl rfl 3 (by decide) (hg _ q_1_140) (fun _ h9 => h9) rfl dX6_step_145 ?_
          refine lv_aload_n hx hb dX6_step_148 rfl (lv_at hl 0 rfl) ?_
          refine va_get (ci := 6) (v := .int u_2) (C := RX6) (T := TX6) (N := 9) hx hb hg inX6 hown hK hP 1 rfl rfl 6 (by decide) (hg _ q_1_143) (fun _ h9 => h9) rfl dX6_step_149 ?_
          refine va_bald hx hb hK hP 0 1 rfl rfl (iv_in b_6 (by decide)) dX6_step_152 ?_
          refine tpi (y := x_8) ex_8.symm ?_
          refine lv_bipush (v := 48) hx hb dX6_step_153 (by decide) ?_
          refine lv_icmp_lt (tgt := 221) hx hb dX6_step_155 (by decide) (fun c_11 => ?_) (fun c_11 => ?_)
          · have b_12 : iv (-128) 47 x_8 := iv_l1 c_11 b_10 (iv_c (48 : Int32) (a := 48) (b := 48) (by decide)) (by decide)
            refine va_ldcS hx hb hown (hE.2.2.2.2.2.2 0 ("BeaconDelay$Reader", 254, ";:+-*()[]=<>", [59, 58, 43, 45, 42, 40, 41, 91, 93, 61, 60, 62]) rfl).1 dX6_step_221 ?_
            refine lv_aload_n hx hb dX6_step_223 rfl (lv_at hl 0 rfl) ?_
            refine va_get (ci := 6) (v := .ref (y 1)) (C := RX6) (T := TX6) (N := 9) hx hb hg inX6 hown hK hP 1 rfl rfl 3 (by decide) (hg _ q_1_140) (fun _ h9 => h9) rfl dX6_step_224 ?_
            refine lv_aload_n hx hb dX6_step_227 rfl (lv_at hl 0 rfl) ?_
            refine va_get (ci := 6) (v := .int u_2) (C := RX6) (T := TX6) (N := 9) hx hb hg inX6 hown hK hP 1 rfl rfl 6 (by decide) (hg _ q_1_143) (fun _ h9 => h9) rfl dX6_step_228 ?_
            refine va_bald hx hb hK hP 0 1 rfl rfl (iv_in b_6 (by decide)) dX6_step_231 ?_
            refine tpi (y := x_8) ex_8.symm ?_
            refine lv_sipush (v := 255) hx hb dX6_step_232 (by decide) ?_
            refine lv_iand hx hb dX6_step_235 ?_
            refine lv_topi (fun x_13 ex_13 => ?_)
            refine lv_i2c hx hb dX6_step_236 rfl ?_
            refine lv_topi (fun x_14 ex_14 => ?_)
            refine jnI (wr := [(y 1, aB V 900 fy1), (y 10, .inr (6, o6_riiriiiii (y 11) py10_1 py10_2 (y 1) py10_4 py10_5 u_2 u_2 py10_8))]) (rnVx (rest := []) ⟨hx, hb, hml, hown, hg⟩ (k_J0_indexOf_0f7a4_0 l V 0 ("BeaconDelay$Reader", 254, ";:+-*()[]=<>", [59, 58, 43, 45, 42, 40, 41, 91, 93, 61, 60, 62]) rfl x_14) mt_J0_indexOf_0f7a4 q_2_125 ⟨Nat.le_of_ble_eq_true rfl, Nat.le_of_ble_eq_true rfl⟩ hK hP hD hS hA hE [] rfl rfl (o_recv (hE.2.2.2.2.2.2 0 ("BeaconDelay$Reader", 254, ";:+-*()[]=<>", [59, 58, 43, 45, 42, 40, 41, 91, 93, 61, 60, 62]) rfl).2.1 hS) rfl hl.1 rfl (Nat.le_of_ble_eq_true rfl) dX6_step_237 ⟨Nat.le_of_ble_eq_true rfl, Nat.le_of_ble_eq_true rfl⟩) hP hD hS hA [] [0, 1] rfl rfl rfl (by decide) (fun r_15 w H locs hw hP hD hS => ?_)
            obtain ⟨br_15, g_16, rfl⟩ := hw
            have br_15 : iv (-1) 11 r_15 := iv_w br_15 (by decide)
            have hP : va_P V.1 vwCl [(y 1, aB V 900 fy1), (y 10, .inr (6, o6_riiriiiii (y 11) py10_1 py10_2 (y 1) py10_4 py10_5 u_2 u_2 py10_8))] H := hP
            have hD := cpD hP hD
            refine lv_if_lt (tgt := 261) hx hb dX6_step_240 (by decide) (fun c_17 => ?_) (fun c_17 => ?_)
            · have b_18 : iv (-1) (-1) r_15 := iv_l1 c_17 br_15 (iv_c (0 : Int32) (a := 0) (b := 0) (by decide)) (by decide)
              refine lv_aload_n hx hb dX6_step_261 rfl (lv_at hl 0 rfl) ?_
              refine lv_iconst (v := 1) hx hb dX6_step_262 (by decide) ?_
              refine jnV (wr := [(y 1, aB V 900 fy1)]) (rnV (rest := []) ⟨hx, hb, hml, hown, hg⟩ (k_X6_fail_0 l V y 1 py10_1 py10_2 py10_4 py10_5 u_2 u_2 py10_8 (iv_w b_7 (by decide)) (iv_w b_6 (by decide)) (iv_w b_6 (by decide)) bpy10_8) mt_X6_fail q_2_116 ⟨Nat.le_of_ble_eq_true rfl, Nat.le_of_ble_eq_true rfl⟩ hK hP hD hS hA hE [1] rfl rfl 1 rfl rfl rfl rfl hl.1 rfl (Nat.le_of_ble_eq_true rfl) dX6_step_263 ⟨Nat.le_of_ble_eq_true rfl, Nat.le_of_ble_eq_true rfl⟩) hP hD hS hA [1] [0] rfl rfl rfl (by decide) (fun  w H locs hw hP hD hS => ?_)
              obtain ⟨v_19, v_20, v_21, g_22, rfl⟩ := hw
              have hP : va_P V.1 vwCl [(y 1, aB V 900 fy1), (y 10, .inr (6, o6_riiriiiii (y 11) v_19 v_20 (y 1) py10_4 v_21 u_2 u_2 py10_8))] H := hP
              have hD := cpD hP hD
              exact fiV hx hb hr hlk hK hP hD hS dX6_step_266 (Nat.le_of_ble_eq_true rfl) (Nat.le_of_ble_eq_true rfl) (⟨v_19, v_20, v_21, u_2, u_2, py10_8, (iv_w b_6 (by decide)), (iv_w b_6 (by decide)), bpy10_8, (SR_bad c_1 (st_P bpy10_7 (iv_w b_6 (by decide)) inn_3_0 inn_3_1 (blB_0 (Int32.not_lt.mpr c_4))) c_5 ex_8 (fun z => absurd z.1 (Int32.not_le.mpr c_9)) (fun z => absurd z.1 (Int32.not_le.mpr c_11)) (sg_0 ex_13 ex_14 g_16 c_17) g_22), rfl⟩)
            · have b_23 : iv 0 11 r_15 := iv_e2 (Int32.not_lt.mp c_17) (iv_c (0 : Int32) (a := 0) (b := 0) (by decide)) br_15 (by decide)
              refine lv_aload_n hx hb dX6_step_243 rfl (lv_at hl 0 rfl) ?_
              refine lv_iconst (v := 3) hx hb dX6_step_244 (by decide) ?_
              refine va_put (ci := 6) (v := .int 3) (ty := .int) (C := RX6) (T := TX6) (N := 9) hx hb hg inX6 tyX6 tyX6_ok nmX6 hown hK hP hD hS 1 rfl rfl 5 (by decide) (hg _ q_1_142) (fun _ h9 => h9) rfl (by decide +kernel) rfl rfl (Nat.le_of_ble_eq_true rfl) dX6_step_245 (fun H locs hP hD hS => ?_)
              have hP : va_P V.1 vwCl [(y 1, aB V 900 fy1), (y 10, .inr (6, o6_riiriiiii (y 11) py10_1 py10_2 (y 1) py10_4 3 u_2 u_2 py10_8))] H := hP
              have hD := cpD hP hD
              refine lv_aload_n hx hb dX6_step_248 rfl (lv_at hl 0 rfl) ?_
              refine lv_aload_n hx hb dX6_step_249 rfl (lv_at hl 0 rfl) ?_
              refine va_get (ci := 6) (v := .int u_2) (C := RX6) (T := TX6) (N := 9) hx hb hg inX6 hown hK hP 1 rfl rfl 6 (by decide) (hg _ q_1_143) (fun _ h9 => h9) rfl dX6_step_250 ?_
              refine lv_iconst (v := 1) hx hb dX6_step_253 (by decide) ?_
              refine lv_iadd hx hb dX6_step_254 ?_
              refine lv_topi (fun x_24 ex_24 => ?_)
              have bx_24 : iv 1 900 x_24 := by rw [ex_24]; exact iv_add b_6 (iv_c (1 : Int32) (a := 1) (b := 1) (by decide)) (by decide)
              refine va_put (ci := 6) (v := .int x_24) (ty := .int) (C := RX6) (T := TX6) (N := 9) hx hb hg inX6 tyX6 tyX6_ok nmX6 hown hK hP hD hS 1 rfl rfl 7 (by decide) (hg _ q_1_144) (fun _ h9 => h9) rfl (by decide +kernel) rfl rfl (Nat.le_of_ble_eq_true rfl) dX6_step_255 (fun H locs hP hD hS => ?_)
              have hP : va_P V.1 vwCl [(y 1, aB V 900 fy1), (y 10, .inr (6, o6_riiriiiii (y 11) py10_1 py10_2 (y 1) py10_4 3 u_2 x_24 py10_8))] H := hP
              have hD := cpD hP hD
              refine lv_goto (tgt := 266) hx hb dX6_step_258 (by decide) ?_
              exact fiV hx hb hr hlk hK hP hD hS dX6_step_266 (Nat.le_of_ble_eq_true rfl) (Nat.le_of_ble_eq_true rfl) (⟨py10_1, py10_2, 3, u_2, x_24, py10_8, (iv_w b_6 (by decide)), (iv_w bx_24 (by decide)), bpy10_8, (SR_sign c_1 (st_P bpy10_7 (iv_w b_6 (by decide)) inn_3_0 inn_3_1 (blB_0 (Int32.not_lt.mpr c_4))) c_5 ex_8 (fun z => absurd z.1 (Int32.not_le.mpr c_9)) (fun z => absurd z.1 (Int32.not_le.mpr c_11)) (sg_1 ex_13 ex_14 g_16 c_17) ex_24), rfl⟩)
          · have b_25 : iv 48 96 x_8 := iv_e2 (Int32.not_lt.mp c_11) (iv_c (48 : Int32) (a := 48) (b := 48) (by decide)) b_10 (by decide)
            refine lv_aload_n hx hb dX6_step_158 rfl (lv_at hl 0 rfl) ?_
            refine va_get (ci := 6) (v := .ref (y 1)) (C := RX6) (T := TX6) (N := 9) hx hb hg inX6 hown hK hP 1 rfl rfl 3 (by decide) (hg _ q_1_140) (fun _ h9 => h9) rfl dX6_step_159 ?_
            refine lv_aload_n hx hb dX6_step_162 rfl (lv_at hl 0 rfl) ?_
            refine va_get (ci := 6) (v := .int u_2) (C := RX6) (T := TX6) (N := 9) hx hb hg inX6 hown hK hP 1 rfl rfl 6 (by decide) (hg _ q_1_143) (fun _ h9 => h9) rfl dX6_step_163 ?_
            refine va_bald hx hb hK hP 0 1 rfl rfl (iv_in b_6 (by decide)) dX6_step_166 ?_
            refine tpi (y := x_8) ex_8.symm ?_
            refine lv_bipush (v := 57) hx hb dX6_step_167 (by decide) ?_
            refine lv_icmp_gt (tgt := 221) hx hb dX6_step_169 (by decide) (fun c_26 => ?_) (fun c_26 => ?_)
            · have b_27 : iv 58 96 x_8 := iv_l2 c_26 (iv_c (57 : Int32) (a := 57) (b := 57) (by decide)) b_25 (by decide)
              refine va_ldcS hx hb hown (hE.2.2.2.2.2.2 0 ("BeaconDelay$Reader", 254, ";:+-*()[]=<>", [59, 58, 43, 45, 42, 40, 41, 91, 93, 61, 60, 62]) rfl).1 dX6_step_221 ?_
              refine lv_aload_n hx hb dX6_step_223 rfl (lv_at hl 0 rfl) ?_
              refine va_get (ci := 6) (v := .ref (y 1)) (C := RX6) (T := TX6) (N := 9) hx hb hg inX6 hown hK hP 1 rfl rfl 3 (by decide) (hg _ q_1_140) (fun _ h9 => h9) rfl dX6_step_224 ?_
              refine lv_aload_n hx hb dX6_step_227 rfl (lv_at hl 0 rfl) ?_
              refine va_get (ci := 6) (v := .int u_2) (C := RX6) (T := TX6) (N := 9) hx hb hg inX6 hown hK hP 1 rfl rfl 6 (by decide) (hg _ q_1_143) (fun _ h9 => h9) rfl dX6_step_228 ?_
              refine va_bald hx hb hK hP 0 1 rfl rfl (iv_in b_6 (by decide)) dX6_step_231 ?_
              refine tpi (y := x_8) ex_8.symm ?_
              refine lv_sipush (v := 255) hx hb dX6_step_232 (by decide) ?_
              refine lv_iand hx hb dX6_step_235 ?_
              refine lv_topi (fun x_28 ex_28 => ?_)
              refine lv_i2c hx hb dX6_step_236 rfl ?_
              refine lv_topi (fun x_29 ex_29 => ?_)
              refine jnI (wr := [(y 1, aB V 900 fy1), (y 10, .inr (6, o6_riiriiiii (y 11) py10_1 py10_2 (y 1) py10_4 py10_5 u_2 u_2 py10_8))]) (rnVx (rest := []) ⟨hx, hb, hml, hown, hg⟩ (k_J0_indexOf_0f7a4_0 l V 0 ("BeaconDelay$Reader", 254, ";:+-*()[]=<>", [59, 58, 43, 45, 42, 40, 41, 91, 93, 61, 60, 62]) rfl x_29) mt_J0_indexOf_0f7a4 q_2_125 ⟨Nat.le_of_ble_eq_true rfl, Nat.le_of_ble_eq_true rfl⟩ hK hP hD hS hA hE [] rfl rfl (o_recv (hE.2.2.2.2.2.2 0 ("BeaconDelay$Reader", 254, ";:+-*()[]=<>", [59, 58, 43, 45, 42, 40, 41, 91, 93, 61, 60, 62]) rfl).2.1 hS) rfl hl.1 rfl (Nat.le_of_ble_eq_true rfl) dX6_step_237 ⟨Nat.le_of_ble_eq_true rfl, Nat.le_of_ble_eq_true rfl⟩) hP hD hS hA [] [0, 1] rfl rfl rfl (by decide) (fun r_30 w H locs hw hP hD hS => ?_)
              obtain ⟨br_30, g_31, rfl⟩ := hw
              have br_30 : iv (-1) 11 r_30 := iv_w br_30 (by decide)
              have hP : va_P V.1 vwCl [(y 1, aB V 900 fy1), (y 10, .inr (6, o6_riiriiiii (y 11) py10_1 py10_2 (y 1) py10_4 py10_5 u_2 u_2 py10_8))] H := hP
              have hD := cpD hP hD
              refine lv_if_lt (tgt := 261) hx hb dX6_step_240 (by decide) (fun c_32 => ?_) (fun c_32 => ?_)
              · have b_33 : iv (-1) (-1) r_30 := iv_l1 c_32 br_30 (iv_c (0 : Int32) (a := 0) (b := 0) (by decide)) (by decide)
                refine lv_aload_n hx hb dX6_step_261 rfl (lv_at hl 0 rfl) ?_
                refine lv_iconst (v := 1) hx hb dX6_step_262 (by decide) ?_
                refine jnV (wr := [(y 1, aB V 900 fy1)]) (rnV (rest := []) ⟨hx, hb, hml, hown, hg⟩ (k_X6_fail_0 l V y 1 py10_1 py10_2 py10_4 py10_5 u_2 u_2 py10_8 (iv_w b_7 (by decide)) (iv_w b_6 (by decide)) (iv_w b_6 (by decide)) bpy10_8) mt_X6_fail q_2_116 ⟨Nat.le_of_ble_eq_true rfl, Nat.le_of_ble_eq_true rfl⟩ hK hP hD hS hA hE [1] rfl rfl 1 rfl rfl rfl rfl hl.1 rfl (Nat.le_of_ble_eq_true rfl) dX6_step_263 ⟨Nat.le_of_ble_eq_true rfl, Nat.le_of_ble_eq_true rfl⟩) hP hD hS hA [1] [0] rfl rfl rfl (by decide) (fun  w H locs hw hP hD hS => ?_)
                obtain ⟨v_34, v_35, v_36, g_37, rfl⟩ := hw
                have hP : va_P V.1 vwCl [(y 1, aB V 900 fy1), (y 10, .inr (6, o6_riiriiiii (y 11) v_34 v_35 (y 1) py10_4 v_36 u_2 u_2 py10_8))] H := hP
                have hD := cpD hP hD
                exact fiV hx hb hr hlk hK hP hD hS dX6_step_266 (Nat.le_of_ble_eq_true rfl) (Nat.le_of_ble_eq_true rfl) (⟨v_34, v_35, v_36, u_2, u_2, py10_8, (iv_w b_6 (by decide)), (iv_w b_6 (by decide)), bpy10_8, (SR_bad c_1 (st_P bpy10_7 (iv_w b_6 (by decide)) inn_3_0 inn_3_1 (blB_0 (Int32.not_lt.mpr c_4))) c_5 ex_8 (fun z => absurd z.1 (Int32.not_le.mpr c_9)) (fun z => absurd z.2 (Int32.not_le.mpr c_26)) (sg_0 ex_28 ex_29 g_31 c_32) g_37), rfl⟩)
              · have b_38 : iv 0 11 r_30 := iv_e2 (Int32.not_lt.mp c_32) (iv_c (0 : Int32) (a := 0) (b := 0) (by decide)) br_30 (by decide)
                refine lv_aload_n hx hb dX6_step_243 rfl (lv_at hl 0 rfl) ?_
                refine lv_iconst (v := 3) hx hb dX6_step_244 (by decide) ?_
                refine va_put (ci := 6) (v := .int 3) (ty := .int) (C := RX6) (T := TX6) (N := 9) hx hb hg inX6 tyX6 tyX6_ok nmX6 hown hK hP hD hS 1 rfl rfl 5 (by decide) (hg _ q_1_142) (fun _ h9 => h9) rfl (by decide +kernel) rfl rfl (Nat.le_of_ble_eq_true rfl) dX6_step_245 (fun H locs hP hD hS => ?_)
                have hP : va_P V.1 vwCl [(y 1, aB V 900 fy1), (y 10, .inr (6, o6_riiriiiii (y 11) py10_1 py10_2 (y 1) py10_4 3 u_2 u_2 py10_8))] H := hP
                have hD := cpD hP hD
                refine lv_aload_n hx hb dX6_step_248 rfl (lv_at hl 0 rfl) ?_
                refine lv_aload_n hx hb dX6_step_249 rfl (lv_at hl 0 rfl) ?_
                refine va_get (ci := 6) (v := .int u_2) (C := RX6) (T := TX6) (N := 9) hx hb hg inX6 hown hK hP 1 rfl rfl 6 (by decide) (hg _ q_1_143) (fun _ h9 => h9) rfl dX6_step_250 ?_
                refine lv_iconst (v := 1) hx hb dX6_step_253 (by decide) ?_
                refine lv_iadd hx hb dX6_step_254 ?_
                refine lv_topi (fun x_39 ex_39 => ?_)
                have bx_39 : iv 1 900 x_39 := by rw [ex_39]; exact iv_add b_6 (iv_c (1 : Int32) (a := 1) (b := 1) (by decide)) (by decide)
                refine va_put (ci := 6) (v := .int x_39) (ty := .int) (C := RX6) (T := TX6) (N := 9) hx hb hg inX6 tyX6 tyX6_ok nmX6 hown hK hP hD hS 1 rfl rfl 7 (by decide) (hg _ q_1_144) (fun _ h9 => h9) rfl (by decide +kernel) rfl rfl (Nat.le_of_ble_eq_true rfl) dX6_step_255 (fun H locs hP hD hS => ?_)
                have hP : va_P V.1 vwCl [(y 1, aB V 900 fy1), (y 10, .inr (6, o6_riiriiiii (y 11) py10_1 py10_2 (y 1) py10_4 3 u_2 x_39 py10_8))] H := hP
                have hD := cpD hP hD
                refine lv_goto (tgt := 266) hx hb dX6_step_258 (by decide) ?_
                exact fiV hx hb hr hlk hK hP hD hS dX6_step_266 (Nat.le_of_ble_eq_true rfl) (Nat.le_of_ble_eq_true rfl) (⟨py10_1, py10_2, 3, u_2, x_39, py10_8, (iv_w b_6 (by decide)), (iv_w bx_39 (by decide)), bpy10_8, (SR_sign c_1 (st_P bpy10_7 (iv_w b_6 (by decide)) inn_3_0 inn_3_1 (blB_0 (Int32.not_lt.mpr c_4))) c_5 ex_8 (fun z => absurd z.1 (Int32.not_le.mpr c_9)) (fun z => absurd z.2 (Int32.not_le.mpr c_26)) (sg_1 ex_28 ex_29 g_31 c_32) ex_39), rfl⟩)
            · have b_40 : iv 48 57 x_8 := iv_e1 (Int32.not_lt.mp c_26) b_25 (iv_c (57 : Int32) (a := 57) (b := 57) (by decide)) (by decide)
              refine lv_aload_n hx hb dX6_step_172 rfl (lv_at hl 0 rfl) ?_
              refine lv_iconst (v := 2) hx hb dX6_step_173 (by decide) ?_
              refine va_put (ci := 6) (v := .int 2) (ty := .int) (C := RX6) (T := TX6) (N := 9) hx hb hg inX6 tyX6 tyX6_ok nmX6 hown hK hP hD hS 1 rfl rfl 5 (by decide) (hg _ q_1_142) (fun _ h9 => h9) rfl (by decide +kernel) rfl rfl (Nat.le_of_ble_eq_true rfl) dX6_step_174 (fun H locs hP hD hS => ?_)
              have hP : va_P V.1 vwCl [(y 1, aB V 900 fy1), (y 10, .inr (6, o6_riiriiiii (y 11) py10_1 py10_2 (y 1) py10_4 2 u_2 u_2 py10_8))] H := hP
              have hD := cpD hP hD
              refine lv_aload_n hx hb dX6_step_177 rfl (lv_at hl 0 rfl) ?_
              refine lv_aload_n hx hb dX6_step_178 rfl (lv_at hl 0 rfl) ?_
              refine lv_bipush (v := 48) hx hb dX6_step_179 (by decide) ?_
              refine lv_bipush (v := 57) hx hb dX6_step_181 (by decide) ?_
              refine jnI (wr := []) (rnV (rest := [.ref (y 10)]) ⟨hx, hb, hml, hown, hg⟩ (k_X6_endOfRun_0 l V y 48 57 fy1 py10_1 py10_2 py10_4 2 u_2 u_2 py10_8 tfy1 (iv_w b_7 (by decide)) (iv_w b_6 (by decide)) (iv_w b_6 (by decide)) bpy10_8) mt_X6_endOfRun q_2_112 ⟨Nat.le_of_ble_eq_true rfl, Nat.le_of_ble_eq_true rfl⟩ hK hP hD hS hA hE [0, 1] rfl rfl 1 rfl rfl rfl rfl hl.1 rfl (Nat.le_of_ble_eq_true rfl) dX6_step_183 ⟨Nat.le_of_ble_eq_true rfl, Nat.le_of_ble_eq_true rfl⟩) hP hD hS hA [0, 1] [] rfl rfl rfl (by decide) (fun r_41 w H locs hw hP hD hS => ?_)
              obtain ⟨br_41, g_42, g_43, rfl⟩ := hw
              have hP : va_P V.1 vwCl [(y 1, aB V 900 fy1), (y 10, .inr (6, o6_riiriiiii (y 11) py10_1 py10_2 (y 1) py10_4 2 u_2 u_2 py10_8))] H := hP
              have hD := cpD hP hD
              refine va_put (ci := 6) (v := .int r_41) (ty := .int) (C := RX6) (T := TX6) (N := 9) hx hb hg inX6 tyX6 tyX6_ok nmX6 hown hK hP hD hS 1 rfl rfl 7 (by decide) (hg _ q_1_144) (fun _ h9 => h9) rfl (by decide +kernel) rfl rfl (Nat.le_of_ble_eq_true rfl) dX6_step_186 (fun H locs hP hD hS => ?_)
              have hP : va_P V.1 vwCl [(y 1, aB V 900 fy1), (y 10, .inr (6, o6_riiriiiii (y 11) py10_1 py10_2 (y 1) py10_4 2 u_2 r_41 py10_8))] H := hP
              have hD := cpD hP hD
              refine lv_aload_n hx hb dX6_step_189 rfl (lv_at hl 0 rfl) ?_
              refine va_get (ci := 6) (v := .int r_41) (C := RX6) (T := TX6) (N := 9) hx hb hg inX6 hown hK hP 1 rfl rfl 7 (by decide) (hg _ q_1_144) (fun _ h9 => h9) rfl dX6_step_190 ?_
              refine lv_aload_n hx hb dX6_step_193 rfl (lv_at hl 0 rfl) ?_
              refine va_get (ci := 6) (v := .int u_2) (C := RX6) (T := TX6) (N := 9) hx hb hg inX6 hown hK hP 1 rfl rfl 6 (by decide) (hg _ q_1_143) (fun _ h9 => h9) rfl dX6_step_194 ?_
              refine lv_isub hx hb dX6_step_197 ?_
              refine lv_topi (fun x_44 ex_44 => ?_)
              have bx_44 : iv (-899) 900 x_44 := by rw [ex_44]; exact iv_sub br_41 b_6 (by decide)
              refine lv_iconst (v := 3) hx hb dX6_step_198 (by decide) ?_
              refine lv_icmp_le (tgt := 210) hx hb dX6_step_199 (by decide) (fun c_45 => ?_) (fun c_45 => ?_)
              · have b_46 : iv (-899) 3 x_44 := iv_e1 c_45 bx_44 (iv_c (3 : Int32) (a := 3) (b := 3) (by decide)) (by decide)
                refine lv_aload_n hx hb dX6_step_210 rfl (lv_at hl 0 rfl) ?_
                refine lv_aload_n hx hb dX6_step_211 rfl (lv_at hl 0 rfl) ?_
                refine jnI (wr := []) (rnV (rest := [.ref (y 10)]) ⟨hx, hb, hml, hown, hg⟩ (k_X6_valueOfRun_0 l V y fy1 py10_1 py10_2 py10_4 2 u_2 r_41 py10_8 tfy1 (iv_w b_7 (by decide)) (iv_w b_6 (by decide)) br_41 bpy10_8) mt_X6_valueOfRun q_2_120 ⟨Nat.le_of_ble_eq_true rfl, Nat.le_of_ble_eq_true rfl⟩ hK hP hD hS hA hE [0, 1] rfl rfl 1 rfl rfl rfl rfl hl.1 rfl (Nat.le_of_ble_eq_true rfl) dX6_step_212 ⟨Nat.le_of_ble_eq_true rfl, Nat.le_of_ble_eq_true rfl⟩) hP hD hS hA [0, 1] [] rfl rfl rfl (by decide) (fun r_47 w H locs hw hP hD hS => ?_)
                obtain ⟨g_48, rfl⟩ := hw
                have hP : va_P V.1 vwCl [(y 1, aB V 900 fy1), (y 10, .inr (6, o6_riiriiiii (y 11) py10_1 py10_2 (y 1) py10_4 2 u_2 r_41 py10_8))] H := hP
                have hD := cpD hP hD
                have br_47 : iv 0 999 r_47 := vr_999 (iv_w b_7 (by decide)) (iv_w b_6 (by decide)) br_41 c_5 g_42 g_43 ex_44 c_45 g_48
                refine va_put (ci := 6) (v := .int r_47) (ty := .int) (C := RX6) (T := TX6) (N := 9) hx hb hg inX6 tyX6 tyX6_ok nmX6 hown hK hP hD hS 1 rfl rfl 8 (by decide) (hg _ q_1_145) (fun _ h9 => h9) rfl (by decide +kernel) rfl rfl (Nat.le_of_ble_eq_true rfl) dX6_step_215 (fun H locs hP hD hS => ?_)
                have hP : va_P V.1 vwCl [(y 1, aB V 900 fy1), (y 10, .inr (6, o6_riiriiiii (y 11) py10_1 py10_2 (y 1) py10_4 2 u_2 r_41 r_47))] H := hP
                have hD := cpD hP hD
                refine lv_goto (tgt := 266) hx hb dX6_step_218 (by decide) ?_
                exact fiV hx hb hr hlk hK hP hD hS dX6_step_266 (Nat.le_of_ble_eq_true rfl) (Nat.le_of_ble_eq_true rfl) (⟨py10_1, py10_2, 2, u_2, r_41, r_47, (iv_w b_6 (by decide)), br_41, br_47, (SR_num c_1 (st_P bpy10_7 (iv_w b_6 (by decide)) inn_3_0 inn_3_1 (blB_0 (Int32.not_lt.mpr c_4))) c_5 ex_8 (fun z => absurd z.1 (Int32.not_le.mpr c_9)) (Int32.not_lt.mp c_11) (Int32.not_lt.mp c_26) g_42 (by rw [← ex_44]; exact Int32.not_lt.mpr c_45) (g_48 g_43)), rfl⟩)
              · have b_49 : iv 4 900 x_44 := iv_l2 (Int32.not_le.mp c_45) (iv_c (3 : Int32) (a := 3) (b := 3) (by decide)) bx_44 (by decide)
                refine lv_aload_n hx hb dX6_step_202 rfl (lv_at hl 0 rfl) ?_
                refine lv_iconst (v := 1) hx hb dX6_step_203 (by decide) ?_
                refine jnV (wr := [(y 1, aB V 900 fy1)]) (rnV (rest := []) ⟨hx, hb, hml, hown, hg⟩ (k_X6_fail_0 l V y 1 py10_1 py10_2 py10_4 2 u_2 r_41 py10_8 (iv_w b_7 (by decide)) (iv_w b_6 (by decide)) br_41 bpy10_8) mt_X6_fail q_2_116 ⟨Nat.le_of_ble_eq_true rfl, Nat.le_of_ble_eq_true rfl⟩ hK hP hD hS hA hE [1] rfl rfl 1 rfl rfl rfl rfl hl.1 rfl (Nat.le_of_ble_eq_true rfl) dX6_step_204 ⟨Nat.le_of_ble_eq_true rfl, Nat.le_of_ble_eq_true rfl⟩) hP hD hS hA [1] [0] rfl rfl rfl (by decide) (fun  w H locs hw hP hD hS => ?_)
                obtain ⟨v_50, v_51, v_52, g_53, rfl⟩ := hw
                have hP : va_P V.1 vwCl [(y 1, aB V 900 fy1), (y 10, .inr (6, o6_riiriiiii (y 11) v_50 v_51 (y 1) py10_4 v_52 u_2 r_41 py10_8))] H := hP
                have hD := cpD hP hD
                refine lv_goto (tgt := 266) hx hb dX6_step_207 (by decide) ?_
                exact fiV hx hb hr hlk hK hP hD hS dX6_step_266 (Nat.le_of_ble_eq_true rfl) (Nat.le_of_ble_eq_true rfl) (⟨v_50, v_51, v_52, u_2, r_41, py10_8, (iv_w b_6 (by decide)), br_41, bpy10_8, (SR_bad3 c_1 (st_P bpy10_7 (iv_w b_6 (by decide)) inn_3_0 inn_3_1 (blB_0 (Int32.not_lt.mpr c_4))) c_5 ex_8 (fun z => absurd z.1 (Int32.not_le.mpr c_9)) (Int32.not_lt.mp c_11) (Int32.not_lt.mp c_26) g_42 (by rw [← ex_44]; exact Int32.not_le.mp c_45) g_53), rfl⟩)
        · have b_54 : iv 97 127 x_8 := iv_e2 (Int32.not_lt.mp c_9) (iv_c (97 : Int32) (a := 97) (b := 97) (by decide)) bx_8 (by decide)
          refine lv_aload_n hx hb dX6_step_110 rfl (lv_at hl 0 rfl) ?_
          refine va_get (ci := 6) (v := .ref (y 1)) (C := RX6) (T := TX6) (N := 9) hx hb hg inX6 hown hK hP 1 rfl rfl 3 (by decide) (hg _ q_1_140) (fun _ h9 => h9) rfl dX6_step_111 ?_
          refine lv_aload_n hx hb dX6_step_114 rfl (lv_at hl 0 rfl) ?_
          refine va_get (ci := 6) (v := .int u_2) (C := RX6) (T := TX6) (N := 9) hx hb hg inX6 hown hK hP 1 rfl rfl 6 (by decide) (hg _ q_1_143) (fun _ h9 => h9) rfl dX6_step_115 ?_
          refine va_bald hx hb hK hP 0 1 rfl rfl (iv_in b_6 (by decide)) dX6_step_118 ?_
          refine tpi (y := x_8) ex_8.symm ?_
          refine lv_bipush (v := 122) hx hb dX6_step_119 (by decide) ?_
          refine lv_icmp_gt (tgt := 144) hx hb dX6_step_121 (by decide) (fun c_55 => ?_) (fun c_55 => ?_)
          · have b_56 : iv 123 127 x_8 := iv_l2 c_55 (iv_c (122 : Int32) (a := 122) (b := 122) (by decide)) b_54 (by decide)
            refine lv_aload_n hx hb dX6_step_144 rfl (lv_at hl 0 rfl) ?_
            refine va_get (ci := 6) (v := .ref (y 1)) (C := RX6) (T := TX6) (N := 9) hx hb hg inX6 hown hK hP 1 rfl rfl 3 (by decide) (hg _ q_1_140) (fun _ h9 => h9) rfl dX6_step_145 ?_
            refine lv_aload_n hx hb dX6_step_148 rfl (lv_at hl 0 rfl) ?_
            refine va_get (ci := 6) (v := .int u_2) (C := RX6) (T := TX6) (N := 9) hx hb hg inX6 hown hK hP 1 rfl rfl 6 (by decide) (hg _ q_1_143) (fun _ h9 => h9) rfl dX6_step_149 ?_
            refine va_bald hx hb hK hP 0 1 rfl rfl (iv_in b_6 (by decide)) dX6_step_152 ?_
            refine tpi (y := x_8) ex_8.symm ?_
            refine lv_bipush (v := 48) hx hb dX6_step_153 (by decide) ?_
            refine lv_icmp_lt (tgt := 221) hx hb dX6_step_155 (by decide) (fun c_57 => absurd c_57 (iv_nlt b_56 (iv_c (48 : Int32) (a := 48) (b := 48) (by decide)) (by decide))) (fun _ => ?_)
            refine lv_aload_n hx hb dX6_step_158 rfl (lv_at hl 0 rfl) ?_
            refine va_get (ci := 6) (v := .ref (y 1)) (C := RX6) (T := TX6) (N := 9) hx hb hg inX6 hown hK hP 1 rfl rfl 3 (by decide) (hg _ q_1_140) (fun _ h9 => h9) rfl dX6_step_159 ?_
            refine lv_aload_n hx hb dX6_step_162 rfl (lv_at hl 0 rfl) ?_
            refine va_get (ci := 6) (v := .int u_2) (C := RX6) (T := TX6) (N := 9) hx hb hg inX6 hown hK hP 1 rfl rfl 6 (by decide) (hg _ q_1_143) (fun _ h9 => h9) rfl dX6_step_163 ?_
            refine va_bald hx hb hK hP 0 1 rfl rfl (iv_in b_6 (by decide)) dX6_step_166 ?_
            refine tpi (y := x_8) ex_8.symm ?_
            refine lv_bipush (v := 57) hx hb dX6_step_167 (by decide) ?_
            refine lv_icmp_gt (tgt := 221) hx hb dX6_step_169 (by decide) (fun _ => ?_) (fun c_58 => absurd (iv_lt (iv_c (57 : Int32) (a := 57) (b := 57) (by decide)) b_56 (by decide)) c_58)
            refine va_ldcS hx hb hown (hE.2.2.2.2.2.2 0 ("BeaconDelay$Reader", 254, ";:+-*()[]=<>", [59, 58, 43, 45, 42, 40, 41, 91, 93, 61, 60, 62]) rfl).1 dX6_step_221 ?_
            refine lv_aload_n hx hb dX6_step_223 rfl (lv_at hl 0 rfl) ?_
            refine va_get (ci := 6) (v := .ref (y 1)) (C := RX6) (T := TX6) (N := 9) hx hb hg inX6 hown hK hP 1 rfl rfl 3 (by decide) (hg _ q_1_140) (fun _ h9 => h9) rfl dX6_step_224 ?_
            refine lv_aload_n hx hb dX6_step_227 rfl (lv_at hl 0 rfl) ?_
            refine va_get (ci := 6) (v := .int u_2) (C := RX6) (T := TX6) (N := 9) hx hb hg inX6 hown hK hP 1 rfl rfl 6 (by decide) (hg _ q_1_143) (fun _ h9 => h9) rfl dX6_step_228 ?_
            refine va_bald hx hb hK hP 0 1 rfl rfl (iv_in b_6 (by decide)) dX6_step_231 ?_
            refine tpi (y := x_8) ex_8.symm ?_
            refine lv_sipush (v := 255) hx hb dX6_step_232 (by decide) ?_
            refine lv_iand hx hb dX6_step_235 ?_
            refine lv_topi (fun x_59 ex_59 => ?_)
            refine lv_i2c hx hb dX6_step_236 rfl ?_
            refine lv_topi (fun x_60 ex_60 => ?_)
            refine jnI (wr := [(y 1, aB V 900 fy1), (y 10, .inr (6, o6_riiriiiii (y 11) py10_1 py10_2 (y 1) py10_4 py10_5 u_2 u_2 py10_8))]) (rnVx (rest := []) ⟨hx, hb, hml, hown, hg⟩ (k_J0_indexOf_0f7a4_0 l V 0 ("BeaconDelay$Reader", 254, ";:+-*()[]=<>", [59, 58, 43, 45, 42, 40, 41, 91, 93, 61, 60, 62]) rfl x_60) mt_J0_indexOf_0f7a4 q_2_125 ⟨Nat.le_of_ble_eq_true rfl, Nat.le_of_ble_eq_true rfl⟩ hK hP hD hS hA hE [] rfl rfl (o_recv (hE.2.2.2.2.2.2 0 ("BeaconDelay$Reader", 254, ";:+-*()[]=<>", [59, 58, 43, 45, 42, 40, 41, 91, 93, 61, 60, 62]) rfl).2.1 hS) rfl hl.1 rfl (Nat.le_of_ble_eq_true rfl) dX6_step_237 ⟨Nat.le_of_ble_eq_true rfl, Nat.le_of_ble_eq_true rfl⟩) hP hD hS hA [] [0, 1] rfl rfl rfl (by decide) (fun r_61 w H locs hw hP hD hS => ?_)
            obtain ⟨br_61, g_62, rfl⟩ := hw
            have br_61 : iv (-1) 11 r_61 := iv_w br_61 (by decide)
            have hP : va_P V.1 vwCl [(y 1, aB V 900 fy1), (y 10, .inr (6, o6_riiriiiii (y 11) py10_1 py10_2 (y 1) py10_4 py10_5 u_2 u_2 py10_8))] H := hP
            have hD := cpD hP hD
            refine lv_if_lt (tgt := 261) hx hb dX6_step_240 (by decide) (fun c_63 => ?_) (fun c_63 => ?_)
            · have b_64 : iv (-1) (-1) r_61 := iv_l1 c_63 br_61 (iv_c (0 : Int32) (a := 0) (b := 0) (by decide)) (by decide)
              refine lv_aload_n hx hb dX6_step_261 rfl (lv_at hl 0 rfl) ?_
              refine lv_iconst (v := 1) hx hb dX6_step_262 (by decide) ?_
              refine jnV (wr := [(y 1, aB V 900 fy1)]) (rnV (rest := []) ⟨hx, hb, hml, hown, hg⟩ (k_X6_fail_0 l V y 1 py10_1 py10_2 py10_4 py10_5 u_2 u_2 py10_8 (iv_w b_7 (by decide)) (iv_w b_6 (by decide)) (iv_w b_6 (by decide)) bpy10_8) mt_X6_fail q_2_116 ⟨Nat.le_of_ble_eq_true rfl, Nat.le_of_ble_eq_true rfl⟩ hK hP hD hS hA hE [1] rfl rfl 1 rfl rfl rfl rfl hl.1 rfl (Nat.le_of_ble_eq_true rfl) dX6_step_263 ⟨Nat.le_of_ble_eq_true rfl, Nat.le_of_ble_eq_true rfl⟩) hP hD hS hA [1] [0] rfl rfl rfl (by decide) (fun  w H locs hw hP hD hS => ?_)
              obtain ⟨v_65, v_66, v_67, g_68, rfl⟩ := hw
              have hP : va_P V.1 vwCl [(y 1, aB V 900 fy1), (y 10, .inr (6, o6_riiriiiii (y 11) v_65 v_66 (y 1) py10_4 v_67 u_2 u_2 py10_8))] H := hP
              have hD := cpD hP hD
              exact fiV hx hb hr hlk hK hP hD hS dX6_step_266 (Nat.le_of_ble_eq_true rfl) (Nat.le_of_ble_eq_true rfl) (⟨v_65, v_66, v_67, u_2, u_2, py10_8, (iv_w b_6 (by decide)), (iv_w b_6 (by decide)), bpy10_8, (SR_bad c_1 (st_P bpy10_7 (iv_w b_6 (by decide)) inn_3_0 inn_3_1 (blB_0 (Int32.not_lt.mpr c_4))) c_5 ex_8 (fun z => absurd z.2 (Int32.not_le.mpr c_55)) (fun z => absurd z.2 (iv_nle b_56 (iv_c (57 : Int32) (a := 57) (b := 57) (by decide)) (by decide))) (sg_0 ex_59 ex_60 g_62 c_63) g_68), rfl⟩)
            · have b_69 : iv 0 11 r_61 := iv_e2 (Int32.not_lt.mp c_63) (iv_c (0 : Int32) (a := 0) (b := 0) (by decide)) br_61 (by decide)
              refine lv_aload_n hx hb dX6_step_243 rfl (lv_at hl 0 rfl) ?_
              refine lv_iconst (v := 3) hx hb dX6_step_244 (by decide) ?_
              refine va_put (ci := 6) (v := .int 3) (ty := .int) (C := RX6) (T := TX6) (N := 9) hx hb hg inX6 tyX6 tyX6_ok nmX6 hown hK hP hD hS 1 rfl rfl 5 (by decide) (hg _ q_1_142) (fun _ h9 => h9) rfl (by decide +kernel) rfl rfl (Nat.le_of_ble_eq_true rfl) dX6_step_245 (fun H locs hP hD hS => ?_)
              have hP : va_P V.1 vwCl [(y 1, aB V 900 fy1), (y 10, .inr (6, o6_riiriiiii (y 11) py10_1 py10_2 (y 1) py10_4 3 u_2 u_2 py10_8))] H := hP
              have hD := cpD hP hD
              refine lv_aload_n hx hb dX6_step_248 rfl (lv_at hl 0 rfl) ?_
              refine lv_aload_n hx hb dX6_step_249 rfl (lv_at hl 0 rfl) ?_
              refine va_get (ci := 6) (v := .int u_2) (C := RX6) (T := TX6) (N := 9) hx hb hg inX6 hown hK hP 1 rfl rfl 6 (by decide) (hg _ q_1_143) (fun _ h9 => h9) rfl dX6_step_250 ?_
              refine lv_iconst (v := 1) hx hb dX6_step_253 (by decide) ?_
              refine lv_iadd hx hb dX6_step_254 ?_
              refine lv_topi (fun x_70 ex_70 => ?_)
              have bx_70 : iv 1 900 x_70 := by rw [ex_70]; exact iv_add b_6 (iv_c (1 : Int32) (a := 1) (b := 1) (by decide)) (by decide)
              refine va_put (ci := 6) (v := .int x_70) (ty := .int) (C := RX6) (T := TX6) (N := 9) hx hb hg inX6 tyX6 tyX6_ok nmX6 hown hK hP hD hS 1 rfl rfl 7 (by decide) (hg _ q_1_144) (fun _ h9 => h9) rfl (by decide +kernel) rfl rfl (Nat.le_of_ble_eq_true rfl) dX6_step_255 (fun H locs hP hD hS => ?_)
              have hP : va_P V.1 vwCl [(y 1, aB V 900 fy1), (y 10, .inr (6, o6_riiriiiii (y 11) py10_1 py10_2 (y 1) py10_4 3 u_2 x_70 py10_8))] H := hP
              have hD := cpD hP hD
              refine lv_goto (tgt := 266) hx hb dX6_step_258 (by decide) ?_
              exact fiV hx hb hr hlk hK hP hD hS dX6_step_266 (Nat.le_of_ble_eq_true rfl) (Nat.le_of_ble_eq_true rfl) (⟨py10_1, py10_2, 3, u_2, x_70, py10_8, (iv_w b_6 (by decide)), (iv_w bx_70 (by decide)), bpy10_8, (SR_sign c_1 (st_P bpy10_7 (iv_w b_6 (by decide)) inn_3_0 inn_3_1 (blB_0 (Int32.not_lt.mpr c_4))) c_5 ex_8 (fun z => absurd z.2 (Int32.not_le.mpr c_55)) (fun z => absurd z.2 (iv_nle b_56 (iv_c (57 : Int32) (a := 57) (b := 57) (by decide)) (by decide))) (sg_1 ex_59 ex_60 g_62 c_63) ex_70), rfl⟩)
          · have b_71 : iv 97 122 x_8 := iv_e1 (Int32.not_lt.mp c_55) b_54 (iv_c (122 : Int32) (a := 122) (b := 122) (by decide)) (by decide)
            refine lv_aload_n hx hb dX6_step_124 rfl (lv_at hl 0 rfl) ?_
            refine lv_iconst (v := 1) hx hb dX6_step_125 (by decide) ?_
            refine va_put (ci := 6) (v := .int 1) (ty := .int) (C := RX6) (T := TX6) (N := 9) hx hb hg inX6 tyX6 tyX6_ok nmX6 hown hK hP hD hS 1 rfl rfl 5 (by decide) (hg _ q_1_142) (fun _ h9 => h9) rfl (by decide +kernel) rfl rfl (Nat.le_of_ble_eq_true rfl) dX6_step_126 (fun H locs hP hD hS => ?_)
            have hP : va_P V.1 vwCl [(y 1, aB V 900 fy1), (y 10, .inr (6, o6_riiriiiii (y 11) py10_1 py10_2 (y 1) py10_4 1 u_2 u_2 py10_8))] H := hP
            have hD := cpD hP hD
            refine lv_aload_n hx hb dX6_step_129 rfl (lv_at hl 0 rfl) ?_
            refine lv_aload_n hx hb dX6_step_130 rfl (lv_at hl 0 rfl) ?_
            refine lv_bipush (v := 97) hx hb dX6_step_131 (by decide) ?_
            refine lv_bipush (v := 122) hx hb dX6_step_133 (by decide) ?_
            refine jnI (wr := []) (rnV (rest := [.ref (y 10)]) ⟨hx, hb, hml, hown, hg⟩ (k_X6_endOfRun_0 l V y 97 122 fy1 py10_1 py10_2 py10_4 1 u_2 u_2 py10_8 tfy1 (iv_w b_7 (by decide)) (iv_w b_6 (by decide)) (iv_w b_6 (by decide)) bpy10_8) mt_X6_endOfRun q_2_112 ⟨Nat.le_of_ble_eq_true rfl, Nat.le_of_ble_eq_true rfl⟩ hK hP hD hS hA hE [0, 1] rfl rfl 1 rfl rfl rfl rfl hl.1 rfl (Nat.le_of_ble_eq_true rfl) dX6_step_135 ⟨Nat.le_of_ble_eq_true rfl, Nat.le_of_ble_eq_true rfl⟩) hP hD hS hA [0, 1] [] rfl rfl rfl (by decide) (fun r_72 w H locs hw hP hD hS => ?_)
            obtain ⟨br_72, g_73, g_74, rfl⟩ := hw
            have hP : va_P V.1 vwCl [(y 1, aB V 900 fy1), (y 10, .inr (6, o6_riiriiiii (y 11) py10_1 py10_2 (y 1) py10_4 1 u_2 u_2 py10_8))] H := hP
            have hD := cpD hP hD
            refine va_put (ci := 6) (v := .int r_72) (ty := .int) (C := RX6) (T := TX6) (N := 9) hx hb hg inX6 tyX6 tyX6_ok nmX6 hown hK hP hD hS 1 rfl rfl 7 (by decide) (hg _ q_1_144) (fun _ h9 => h9) rfl (by decide +kernel) rfl rfl (Nat.le_of_ble_eq_true rfl) dX6_step_138 (fun H locs hP hD hS => ?_)
            have hP : va_P V.1 vwCl [(y 1, aB V 900 fy1), (y 10, .inr (6, o6_riiriiiii (y 11) py10_1 py10_2 (y 1) py10_4 1 u_2 r_72 py10_8))] H := hP
            have hD := cpD hP hD
            refine lv_goto (tgt := 266) hx hb dX6_step_141 (by decide) ?_
            exact fiV hx hb hr hlk hK hP hD hS dX6_step_266 (Nat.le_of_ble_eq_true rfl) (Nat.le_of_ble_eq_true rfl) (⟨py10_1, py10_2, 1, u_2, r_72, py10_8, (iv_w b_6 (by decide)), br_72, bpy10_8, (SR_word c_1 (st_P bpy10_7 (iv_w b_6 (by decide)) inn_3_0 inn_3_1 (blB_0 (Int32.not_lt.mpr c_4))) c_5 ex_8 (Int32.not_lt.mp c_9) (Int32.not_lt.mp c_55) g_73), rfl⟩)
      · refine lv_aload_n hx hb dX6_step_88 rfl (lv_at hl 0 rfl) ?_
        refine lv_iconst (v := 0) hx hb dX6_step_89 (by decide) ?_
        refine va_put (ci := 6) (v := .int 0) (ty := .int) (C := RX6) (T := TX6) (N := 9) hx hb hg inX6 tyX6 tyX6_ok nmX6 hown hK hP hD hS 1 rfl rfl 5 (by decide) (hg _ q_1_142) (fun _ h9 => h9) rfl (by decide +kernel) rfl rfl (Nat.le_of_ble_eq_true rfl) dX6_step_90 (fun H locs hP hD hS => ?_)
        have hP : va_P V.1 vwCl [(y 1, aB V 900 fy1), (y 10, .inr (6, o6_riiriiiii (y 11) py10_1 py10_2 (y 1) py10_4 0 u_2 u_2 py10_8))] H := hP
        have hD := cpD hP hD
        refine lv_goto (tgt := 266) hx hb dX6_step_93 (by decide) ?_
        exact fiV hx hb hr hlk hK hP hD hS dX6_step_266 (Nat.le_of_ble_eq_true rfl) (Nat.le_of_ble_eq_true rfl) (⟨py10_1, py10_2, 0, u_2, u_2, py10_8, bu_2, bu_2, bpy10_8, (SR_end c_1 (st_P bpy10_7 bu_2 inn_3_0 inn_3_1 (blB_0 (Int32.not_lt.mpr c_4))) c_5), rfl⟩)
    · have b_75 : iv 0 899 u_2 := iv_l1 (Int32.not_le.mp c_4) bu_2 bpy10_4 (by decide)
      have b_76 : iv 1 900 py10_4 := iv_l2 (Int32.not_le.mp c_4) bu_2 bpy10_4 (by decide)
      refine lv_aload_n hx hb dX6_step_28 rfl (lv_at hl 0 rfl) ?_
      refine va_get (ci := 6) (v := .ref (y 1)) (C := RX6) (T := TX6) (N := 9) hx hb hg inX6 hown hK hP 1 rfl rfl 3 (by decide) (hg _ q_1_140) (fun _ h9 => h9) rfl dX6_step_29 ?_
      refine lv_aload_n hx hb dX6_step_32 rfl (lv_at hl 0 rfl) ?_
      refine va_get (ci := 6) (v := .int u_2) (C := RX6) (T := TX6) (N := 9) hx hb hg inX6 hown hK hP 1 rfl rfl 6 (by decide) (hg _ q_1_143) (fun _ h9 => h9) rfl dX6_step_33 ?_
      refine va_bald hx hb hK hP 0 1 rfl rfl (iv_in b_75 (by decide)) dX6_step_36 ?_
      refine lv_topi (fun x_77 ex_77 => ?_)
      have bx_77 : iv (-128) 127 x_77 := by rw [ex_77]; exact tfy1 _
      refine lv_bipush (v := 10) hx hb dX6_step_37 (by decide) ?_
      refine lv_icmp_eq (tgt := 56) hx hb dX6_step_39 (by decide) (fun c_78 => ?_) (fun c_78 => ?_)
      · have b_79 : iv 10 10 x_77 := iv_q c_78 (iv_c (10 : Int32) (a := 10) (b := 10) (by decide))
        refine lv_aload_n hx hb dX6_step_56 rfl (lv_at hl 0 rfl) ?_
        refine lv_dup hx hb dX6_step_57 rfl ?_
        refine va_get (ci := 6) (v := .int u_2) (C := RX6) (T := TX6) (N := 9) hx hb hg inX6 hown hK hP 1 rfl rfl 6 (by decide) (hg _ q_1_143) (fun _ h9 => h9) rfl dX6_step_58 ?_
        refine lv_iconst (v := 1) hx hb dX6_step_61 (by decide) ?_
        refine lv_iadd hx hb dX6_step_62 ?_
        refine lv_topi (fun x_80 ex_80 => ?_)
        have bx_80 : iv 1 900 x_80 := by rw [ex_80]; exact iv_add b_75 (iv_c (1 : Int32) (a := 1) (b := 1) (by decide)) (by decide)
        refine va_put (ci := 6) (v := .int x_80) (ty := .int) (C := RX6) (T := TX6) (N := 9) hx hb hg inX6 tyX6 tyX6_ok nmX6 hown hK hP hD hS 1 rfl rfl 6 (by decide) (hg _ q_1_143) (fun _ h9 => h9) rfl (by decide +kernel) rfl rfl (Nat.le_of_ble_eq_true rfl) dX6_step_63 (fun H locs hP hD hS => ?_)
        have hP : va_P V.1 vwCl [(y 1, aB V 900 fy1), (y 10, .inr (6, o6_riiriiiii (y 11) py10_1 py10_2 (y 1) py10_4 py10_5 x_80 py10_7 py10_8))] H := hP
        have hD := cpD hP hD
        refine lv_goto (tgt := 17) hx hb dX6_step_66 (by decide) ?_
        exact ihn_3 _ _ _ _ (by rw [en_3, ex_80]; exact mu_up b_75 (by decide)) ⟨x_80, (iv_w bx_80 (by decide)), (by have q9 := inc_toInt ex_80 b_75 (by decide); have q8 := inn_3_0; omega), (sc_s inn_3_1 (blB_1 (Int32.not_le.mp c_4) ex_77 (Or.inl c_78)) ex_80 b_75 (by decide)), rfl, hP, hD, hS, lv_sub hl [0] rfl⟩
      · refine lv_aload_n hx hb dX6_step_42 rfl (lv_at hl 0 rfl) ?_
        refine va_get (ci := 6) (v := .ref (y 1)) (C := RX6) (T := TX6) (N := 9) hx hb hg inX6 hown hK hP 1 rfl rfl 3 (by decide) (hg _ q_1_140) (fun _ h9 => h9) rfl dX6_step_43 ?_
        refine lv_aload_n hx hb dX6_step_46 rfl (lv_at hl 0 rfl) ?_
        refine va_get (ci := 6) (v := .int u_2) (C := RX6) (T := TX6) (N := 9) hx hb hg inX6 hown hK hP 1 rfl rfl 6 (by decide) (hg _ q_1_143) (fun _ h9 => h9) rfl dX6_step_47 ?_
        refine va_bald hx hb hK hP 0 1 rfl rfl (iv_in b_75 (by decide)) dX6_step_50 ?_
        refine tpi (y := x_77) ex_77.symm ?_
        refine lv_bipush (v := 32) hx hb dX6_step_51 (by decide) ?_
        refine lv_icmp_ne (tgt := 69) hx hb dX6_step_53 (by decide) (fun c_81 => ?_) (fun c_81 => ?_)
        · refine lv_aload_n hx hb dX6_step_69 rfl (lv_at hl 0 rfl) ?_
          refine lv_aload_n hx hb dX6_step_70 rfl (lv_at hl 0 rfl) ?_
          refine va_get (ci := 6) (v := .int u_2) (C := RX6) (T := TX6) (N := 9) hx hb hg inX6 hown hK hP 1 rfl rfl 6 (by decide) (hg _ q_1_143) (fun _ h9 => h9) rfl dX6_step_71 ?_
          refine va_put (ci := 6) (v := .int u_2) (ty := .int) (C := RX6) (T := TX6) (N := 9) hx hb hg inX6 tyX6 tyX6_ok nmX6 hown hK hP hD hS 1 rfl rfl 7 (by decide) (hg _ q_1_144) (fun _ h9 => h9) rfl (by decide +kernel) rfl rfl (Nat.le_of_ble_eq_true rfl) dX6_step_74 (fun H locs hP hD hS => ?_)
          have hP : va_P V.1 vwCl [(y 1, aB V 900 fy1), (y 10, .inr (6, o6_riiriiiii (y 11) py10_1 py10_2 (y 1) py10_4 py10_5 u_2 u_2 py10_8))] H := hP
          have hD := cpD hP hD
          refine lv_aload_n hx hb dX6_step_77 rfl (lv_at hl 0 rfl) ?_
          refine va_get (ci := 6) (v := .int u_2) (C := RX6) (T := TX6) (N := 9) hx hb hg inX6 hown hK hP 1 rfl rfl 6 (by decide) (hg _ q_1_143) (fun _ h9 => h9) rfl dX6_step_78 ?_
          refine lv_aload_n hx hb dX6_step_81 rfl (lv_at hl 0 rfl) ?_
          refine va_get (ci := 6) (v := .int py10_4) (C := RX6) (T := TX6) (N := 9) hx hb hg inX6 hown hK hP 1 rfl rfl 4 (by decide) (hg _ q_1_141) (fun _ h9 => h9) rfl dX6_step_82 ?_
          refine lv_icmp_lt (tgt := 96) hx hb dX6_step_85 (by decide) (fun c_82 => ?_) (fun c_82 => ?_)
          · refine lv_aload_n hx hb dX6_step_96 rfl (lv_at hl 0 rfl) ?_
            refine va_get (ci := 6) (v := .ref (y 1)) (C := RX6) (T := TX6) (N := 9) hx hb hg inX6 hown hK hP 1 rfl rfl 3 (by decide) (hg _ q_1_140) (fun _ h9 => h9) rfl dX6_step_97 ?_
            refine lv_aload_n hx hb dX6_step_100 rfl (lv_at hl 0 rfl) ?_
            refine va_get (ci := 6) (v := .int u_2) (C := RX6) (T := TX6) (N := 9) hx hb hg inX6 hown hK hP 1 rfl rfl 6 (by decide) (hg _ q_1_143) (fun _ h9 => h9) rfl dX6_step_101 ?_
            refine va_bald hx hb hK hP 0 1 rfl rfl (iv_in b_75 (by decide)) dX6_step_104 ?_
            refine tpi (y := x_77) ex_77.symm ?_
            refine lv_bipush (v := 97) hx hb dX6_step_105 (by decide) ?_
            refine lv_icmp_lt (tgt := 144) hx hb dX6_step_107 (by decide) (fun c_83 => ?_) (fun c_83 => ?_)
            · have b_84 : iv (-128) 96 x_77 := iv_l1 c_83 bx_77 (iv_c (97 : Int32) (a := 97) (b := 97) (by decide)) (by decide)
              refine lv_aload_n hx hb dX6_step_144 rfl (lv_at hl 0 rfl) ?_
              refine va_get (ci := 6) (v := .ref (y 1)) (C := RX6) (T := TX6) (N := 9) hx hb hg inX6 hown hK hP 1 rfl rfl 3 (by decide) (hg _ q_1_140) (fun _ h9 => h9) rfl dX6_step_145 ?_
              refine lv_aload_n hx hb dX6_step_148 rfl (lv_at hl 0 rfl) ?_
              refine va_get (ci := 6) (v := .int u_2) (C := RX6) (T := TX6) (N := 9) hx hb hg inX6 hown hK hP 1 rfl rfl 6 (by decide) (hg _ q_1_143) (fun _ h9 => h9) rfl dX6_step_149 ?_
              refine va_bald hx hb hK hP 0 1 rfl rfl (iv_in b_75 (by decide)) dX6_step_152 ?_
              refine tpi (y := x_77) ex_77.symm ?_
              refine lv_bipush (v := 48) hx hb dX6_step_153 (by decide) ?_
              refine lv_icmp_lt (tgt := 221) hx hb dX6_step_155 (by decide) (fun c_85 => ?_) (fun c_85 => ?_)
              · have b_86 : iv (-128) 47 x_77 := iv_l1 c_85 b_84 (iv_c (48 : Int32) (a := 48) (b := 48) (by decide)) (by decide)
                refine va_ldcS hx hb hown (hE.2.2.2.2.2.2 0 ("BeaconDelay$Reader", 254, ";:+-*()[]=<>", [59, 58, 43, 45, 42, 40, 41, 91, 93, 61, 60, 62]) rfl).1 dX6_step_221 ?_
                refine lv_aload_n hx hb dX6_step_223 rfl (lv_at hl 0 rfl) ?_
                refine va_get (ci := 6) (v := .ref (y 1)) (C := RX6) (T := TX6) (N := 9) hx hb hg inX6 hown hK hP 1 rfl rfl 3 (by decide) (hg _ q_1_140) (fun _ h9 => h9) rfl dX6_step_224 ?_
                refine lv_aload_n hx hb dX6_step_227 rfl (lv_at hl 0 rfl) ?_
                refine va_get (ci := 6) (v := .int u_2) (C := RX6) (T := TX6) (N := 9) hx hb hg inX6 hown hK hP 1 rfl rfl 6 (by decide) (hg _ q_1_143) (fun _ h9 => h9) rfl dX6_step_228 ?_
                refine va_bald hx hb hK hP 0 1 rfl rfl (iv_in b_75 (by decide)) dX6_step_231 ?_
                refine tpi (y := x_77) ex_77.symm ?_
                refine lv_sipush (v := 255) hx hb dX6_step_232 (by decide) ?_
                refine lv_iand hx hb dX6_step_235 ?_
                refine lv_topi (fun x_87 ex_87 => ?_)
                refine lv_i2c hx hb dX6_step_236 rfl ?_
                refine lv_topi (fun x_88 ex_88 => ?_)
                refine jnI (wr := [(y 1, aB V 900 fy1), (y 10, .inr (6, o6_riiriiiii (y 11) py10_1 py10_2 (y 1) py10_4 py10_5 u_2 u_2 py10_8))]) (rnVx (rest := []) ⟨hx, hb, hml, hown, hg⟩ (k_J0_indexOf_0f7a4_0 l V 0 ("BeaconDelay$Reader", 254, ";:+-*()[]=<>", [59, 58, 43, 45, 42, 40, 41, 91, 93, 61, 60, 62]) rfl x_88) mt_J0_indexOf_0f7a4 q_2_125 ⟨Nat.le_of_ble_eq_true rfl, Nat.le_of_ble_eq_true rfl⟩ hK hP hD hS hA hE [] rfl rfl (o_recv (hE.2.2.2.2.2.2 0 ("BeaconDelay$Reader", 254, ";:+-*()[]=<>", [59, 58, 43, 45, 42, 40, 41, 91, 93, 61, 60, 62]) rfl).2.1 hS) rfl hl.1 rfl (Nat.le_of_ble_eq_true rfl) dX6_step_237 ⟨Nat.le_of_ble_eq_true rfl, Nat.le_of_ble_eq_true rfl⟩) hP hD hS hA [] [0, 1] rfl rfl rfl (by decide) (fun r_89 w H locs hw hP hD hS => ?_)
                obtain ⟨br_89, g_90, rfl⟩ := hw
                have br_89 : iv (-1) 11 r_89 := iv_w br_89 (by decide)
                have hP : va_P V.1 vwCl [(y 1, aB V 900 fy1), (y 10, .inr (6, o6_riiriiiii (y 11) py10_1 py10_2 (y 1) py10_4 py10_5 u_2 u_2 py10_8))] H := hP
                have hD := cpD hP hD
                refine lv_if_lt (tgt := 261) hx hb dX6_step_240 (by decide) (fun c_91 => ?_) (fun c_91 => ?_)
                · have b_92 : iv (-1) (-1) r_89 := iv_l1 c_91 br_89 (iv_c (0 : Int32) (a := 0) (b := 0) (by decide)) (by decide)
                  refine lv_aload_n hx hb dX6_step_261 rfl (lv_at hl 0 rfl) ?_
                  refine lv_iconst (v := 1) hx hb dX6_step_262 (by decide) ?_
                  refine jnV (wr := [(y 1, aB V 900 fy1)]) (rnV (rest := []) ⟨hx, hb, hml, hown, hg⟩ (k_X6_fail_0 l V y 1 py10_1 py10_2 py10_4 py10_5 u_2 u_2 py10_8 (iv_w b_76 (by decide)) (iv_w b_75 (by decide)) (iv_w b_75 (by decide)) bpy10_8) mt_X6_fail q_2_116 ⟨Nat.le_of_ble_eq_true rfl, Nat.le_of_ble_eq_true rfl⟩ hK hP hD hS hA hE [1] rfl rfl 1 rfl rfl rfl rfl hl.1 rfl (Nat.le_of_ble_eq_true rfl) dX6_step_263 ⟨Nat.le_of_ble_eq_true rfl, Nat.le_of_ble_eq_true rfl⟩) hP hD hS hA [1] [0] rfl rfl rfl (by decide) (fun  w H locs hw hP hD hS => ?_)
                  obtain ⟨v_93, v_94, v_95, g_96, rfl⟩ := hw
                  have hP : va_P V.1 vwCl [(y 1, aB V 900 fy1), (y 10, .inr (6, o6_riiriiiii (y 11) v_93 v_94 (y 1) py10_4 v_95 u_2 u_2 py10_8))] H := hP
                  have hD := cpD hP hD
                  exact fiV hx hb hr hlk hK hP hD hS dX6_step_266 (Nat.le_of_ble_eq_true rfl) (Nat.le_of_ble_eq_true rfl) (⟨v_93, v_94, v_95, u_2, u_2, py10_8, (iv_w b_75 (by decide)), (iv_w b_75 (by decide)), bpy10_8, (SR_bad c_1 (st_P bpy10_7 (iv_w b_75 (by decide)) inn_3_0 inn_3_1 (blB_n ex_77 c_78 c_81)) c_82 ex_77 (fun z => absurd z.1 (Int32.not_le.mpr c_83)) (fun z => absurd z.1 (Int32.not_le.mpr c_85)) (sg_0 ex_87 ex_88 g_90 c_91) g_96), rfl⟩)
                · have b_97 : iv 0 11 r_89 := iv_e2 (Int32.not_lt.mp c_91) (iv_c (0 : Int32) (a := 0) (b := 0) (by decide)) br_89 (by decide)
                  refine lv_aload_n hx hb dX6_step_243 rfl (lv_at hl 0 rfl) ?_
                  refine lv_iconst (v := 3) hx hb dX6_step_244 (by decide) ?_
                  refine va_put (ci := 6) (v := .int 3) (ty := .int) (C := RX6) (T := TX6) (N := 9) hx hb hg inX6 tyX6 tyX6_ok nmX6 hown hK hP hD hS 1 rfl rfl 5 (by decide) (hg _ q_1_142) (fun _ h9 => h9) rfl (by decide +kernel) rfl rfl (Nat.le_of_ble_eq_true rfl) dX6_step_245 (fun H locs hP hD hS => ?_)
                  have hP : va_P V.1 vwCl [(y 1, aB V 900 fy1), (y 10, .inr (6, o6_riiriiiii (y 11) py10_1 py10_2 (y 1) py10_4 3 u_2 u_2 py10_8))] H := hP
                  have hD := cpD hP hD
                  refine lv_aload_n hx hb dX6_step_248 rfl (lv_at hl 0 rfl) ?_
                  refine lv_aload_n hx hb dX6_step_249 rfl (lv_at hl 0 rfl) ?_
                  refine va_get (ci := 6) (v := .int u_2) (C := RX6) (T := TX6) (N := 9) hx hb hg inX6 hown hK hP 1 rfl rfl 6 (by decide) (hg _ q_1_143) (fun _ h9 => h9) rfl dX6_step_250 ?_
                  refine lv_iconst (v := 1) hx hb dX6_step_253 (by decide) ?_
                  refine lv_iadd hx hb dX6_step_254 ?_
                  refine lv_topi (fun x_98 ex_98 => ?_)
                  have bx_98 : iv 1 900 x_98 := by rw [ex_98]; exact iv_add b_75 (iv_c (1 : Int32) (a := 1) (b := 1) (by decide)) (by decide)
                  refine va_put (ci := 6) (v := .int x_98) (ty := .int) (C := RX6) (T := TX6) (N := 9) hx hb hg inX6 tyX6 tyX6_ok nmX6 hown hK hP hD hS 1 rfl rfl 7 (by decide) (hg _ q_1_144) (fun _ h9 => h9) rfl (by decide +kernel) rfl rfl (Nat.le_of_ble_eq_true rfl) dX6_step_255 (fun H locs hP hD hS => ?_)
                  have hP : va_P V.1 vwCl [(y 1, aB V 900 fy1), (y 10, .inr (6, o6_riiriiiii (y 11) py10_1 py10_2 (y 1) py10_4 3 u_2 x_98 py10_8))] H := hP
                  have hD := cpD hP hD
                  refine lv_goto (tgt := 266) hx hb dX6_step_258 (by decide) ?_
                  exact fiV hx hb hr hlk hK hP hD hS dX6_step_266 (Nat.le_of_ble_eq_true rfl) (Nat.le_of_ble_eq_true rfl) (⟨py10_1, py10_2, 3, u_2, x_98, py10_8, (iv_w b_75 (by decide)), (iv_w bx_98 (by decide)), bpy10_8, (SR_sign c_1 (st_P bpy10_7 (iv_w b_75 (by decide)) inn_3_0 inn_3_1 (blB_n ex_77 c_78 c_81)) c_82 ex_77 (fun z => absurd z.1 (Int32.not_le.mpr c_83)) (fun z => absurd z.1 (Int32.not_le.mpr c_85)) (sg_1 ex_87 ex_88 g_90 c_91) ex_98), rfl⟩)
              · have b_99 : iv 48 96 x_77 := iv_e2 (Int32.not_lt.mp c_85) (iv_c (48 : Int32) (a := 48) (b := 48) (by decide)) b_84 (by decide)
                refine lv_aload_n hx hb dX6_step_158 rfl (lv_at hl 0 rfl) ?_
                refine va_get (ci := 6) (v := .ref (y 1)) (C := RX6) (T := TX6) (N := 9) hx hb hg inX6 hown hK hP 1 rfl rfl 3 (by decide) (hg _ q_1_140) (fun _ h9 => h9) rfl dX6_step_159 ?_
                refine lv_aload_n hx hb dX6_step_162 rfl (lv_at hl 0 rfl) ?_
                refine va_get (ci := 6) (v := .int u_2) (C := RX6) (T := TX6) (N := 9) hx hb hg inX6 hown hK hP 1 rfl rfl 6 (by decide) (hg _ q_1_143) (fun _ h9 => h9) rfl dX6_step_163 ?_
                refine va_bald hx hb hK hP 0 1 rfl rfl (iv_in b_75 (by decide)) dX6_step_166 ?_
                refine tpi (y := x_77) ex_77.symm ?_
                refine lv_bipush (v := 57) hx hb dX6_step_167 (by decide) ?_
                refine lv_icmp_gt (tgt := 221) hx hb dX6_step_169 (by decide) (fun c_100 => ?_) (fun c_100 => ?_)
                · have b_101 : iv 58 96 x_77 := iv_l2 c_100 (iv_c (57 : Int32) (a := 57) (b := 57) (by decide)) b_99 (by decide)
                  refine va_ldcS hx hb hown (hE.2.2.2.2.2.2 0 ("BeaconDelay$Reader", 254, ";:+-*()[]=<>", [59, 58, 43, 45, 42, 40, 41, 91, 93, 61, 60, 62]) rfl).1 dX6_step_221 ?_
                  refine lv_aload_n hx hb dX6_step_223 rfl (lv_at hl 0 rfl) ?_
                  refine va_get (ci := 6) (v := .ref (y 1)) (C := RX6) (T := TX6) (N := 9) hx hb hg inX6 hown hK hP 1 rfl rfl 3 (by decide) (hg _ q_1_140) (fun _ h9 => h9) rfl dX6_step_224 ?_
                  refine lv_aload_n hx hb dX6_step_227 rfl (lv_at hl 0 rfl) ?_
                  refine va_get (ci := 6) (v := .int u_2) (C := RX6) (T := TX6) (N := 9) hx hb hg inX6 hown hK hP 1 rfl rfl 6 (by decide) (hg _ q_1_143) (fun _ h9 => h9) rfl dX6_step_228 ?_
                  refine va_bald hx hb hK hP 0 1 rfl rfl (iv_in b_75 (by decide)) dX6_step_231 ?_
                  refine tpi (y := x_77) ex_77.symm ?_
                  refine lv_sipush (v := 255) hx hb dX6_step_232 (by decide) ?_
                  refine lv_iand hx hb dX6_step_235 ?_
                  refine lv_topi (fun x_102 ex_102 => ?_)
                  refine lv_i2c hx hb dX6_step_236 rfl ?_
                  refine lv_topi (fun x_103 ex_103 => ?_)
                  refine jnI (wr := [(y 1, aB V 900 fy1), (y 10, .inr (6, o6_riiriiiii (y 11) py10_1 py10_2 (y 1) py10_4 py10_5 u_2 u_2 py10_8))]) (rnVx (rest := []) ⟨hx, hb, hml, hown, hg⟩ (k_J0_indexOf_0f7a4_0 l V 0 ("BeaconDelay$Reader", 254, ";:+-*()[]=<>", [59, 58, 43, 45, 42, 40, 41, 91, 93, 61, 60, 62]) rfl x_103) mt_J0_indexOf_0f7a4 q_2_125 ⟨Nat.le_of_ble_eq_true rfl, Nat.le_of_ble_eq_true rfl⟩ hK hP hD hS hA hE [] rfl rfl (o_recv (hE.2.2.2.2.2.2 0 ("BeaconDelay$Reader", 254, ";:+-*()[]=<>", [59, 58, 43, 45, 42, 40, 41, 91, 93, 61, 60, 62]) rfl).2.1 hS) rfl hl.1 rfl (Nat.le_of_ble_eq_true rfl) dX6_step_237 ⟨Nat.le_of_ble_eq_true rfl, Nat.le_of_ble_eq_true rfl⟩) hP hD hS hA [] [0, 1] rfl rfl rfl (by decide) (fun r_104 w H locs hw hP hD hS => ?_)
                  obtain ⟨br_104, g_105, rfl⟩ := hw
                  have br_104 : iv (-1) 11 r_104 := iv_w br_104 (by decide)
                  have hP : va_P V.1 vwCl [(y 1, aB V 900 fy1), (y 10, .inr (6, o6_riiriiiii (y 11) py10_1 py10_2 (y 1) py10_4 py10_5 u_2 u_2 py10_8))] H := hP
                  have hD := cpD hP hD
                  refine lv_if_lt (tgt := 261) hx hb dX6_step_240 (by decide) (fun c_106 => ?_) (fun c_106 => ?_)
                  · have b_107 : iv (-1) (-1) r_104 := iv_l1 c_106 br_104 (iv_c (0 : Int32) (a := 0) (b := 0) (by decide)) (by decide)
                    refine lv_aload_n hx hb dX6_step_261 rfl (lv_at hl 0 rfl) ?_
                    refine lv_iconst (v := 1) hx hb dX6_step_262 (by decide) ?_
                    refine jnV (wr := [(y 1, aB V 900 fy1)]) (rnV (rest := []) ⟨hx, hb, hml, hown, hg⟩ (k_X6_fail_0 l V y 1 py10_1 py10_2 py10_4 py10_5 u_2 u_2 py10_8 (iv_w b_76 (by decide)) (iv_w b_75 (by decide)) (iv_w b_75 (by decide)) bpy10_8) mt_X6_fail q_2_116 ⟨Nat.le_of_ble_eq_true rfl, Nat.le_of_ble_eq_true rfl⟩ hK hP hD hS hA hE [1] rfl rfl 1 rfl rfl rfl rfl hl.1 rfl (Nat.le_of_ble_eq_true rfl) dX6_step_263 ⟨Nat.le_of_ble_eq_true rfl, Nat.le_of_ble_eq_true rfl⟩) hP hD hS hA [1] [0] rfl rfl rfl (by decide) (fun  w H locs hw hP hD hS => ?_)
                    obtain ⟨v_108, v_109, v_110, g_111, rfl⟩ := hw
                    have hP : va_P V.1 vwCl [(y 1, aB V 900 fy1), (y 10, .inr (6, o6_riiriiiii (y 11) v_108 v_109 (y 1) py10_4 v_110 u_2 u_2 py10_8))] H := hP
                    have hD := cpD hP hD
                    exact fiV hx hb hr hlk hK hP hD hS dX6_step_266 (Nat.le_of_ble_eq_true rfl) (Nat.le_of_ble_eq_true rfl) (⟨v_108, v_109, v_110, u_2, u_2, py10_8, (iv_w b_75 (by decide)), (iv_w b_75 (by decide)), bpy10_8, (SR_bad c_1 (st_P bpy10_7 (iv_w b_75 (by decide)) inn_3_0 inn_3_1 (blB_n ex_77 c_78 c_81)) c_82 ex_77 (fun z => absurd z.1 (Int32.not_le.mpr c_83)) (fun z => absurd z.2 (Int32.not_le.mpr c_100)) (sg_0 ex_102 ex_103 g_105 c_106) g_111), rfl⟩)
                  · have b_112 : iv 0 11 r_104 := iv_e2 (Int32.not_lt.mp c_106) (iv_c (0 : Int32) (a := 0) (b := 0) (by decide)) br_104 (by decide)
                    refine lv_aload_n hx hb dX6_step_243 rfl (lv_at hl 0 rfl) ?_
                    refine lv_iconst (v := 3) hx hb dX6_step_244 (by decide) ?_
                    refine va_put (ci := 6) (v := .int 3) (ty := .int) (C := RX6) (T := TX6) (N := 9) hx hb hg inX6 tyX6 tyX6_ok nmX6 hown hK hP hD hS 1 rfl rfl 5 (by decide) (hg _ q_1_142) (fun _ h9 => h9) rfl (by decide +kernel) rfl rfl (Nat.le_of_ble_eq_true rfl) dX6_step_245 (fun H locs hP hD hS => ?_)
                    have hP : va_P V.1 vwCl [(y 1, aB V 900 fy1), (y 10, .inr (6, o6_riiriiiii (y 11) py10_1 py10_2 (y 1) py10_4 3 u_2 u_2 py10_8))] H := hP
                    have hD := cpD hP hD
                    refine lv_aload_n hx hb dX6_step_248 rfl (lv_at hl 0 rfl) ?_
                    refine lv_aload_n hx hb dX6_step_249 rfl (lv_at hl 0 rfl) ?_
                    refine va_get (ci := 6) (v := .int u_2) (C := RX6) (T := TX6) (N := 9) hx hb hg inX6 hown hK hP 1 rfl rfl 6 (by decide) (hg _ q_1_143) (fun _ h9 => h9) rfl dX6_step_250 ?_
                    refine lv_iconst (v := 1) hx hb dX6_step_253 (by decide) ?_
                    refine lv_iadd hx hb dX6_step_254 ?_
                    refine lv_topi (fun x_113 ex_113 => ?_)
                    have bx_113 : iv 1 900 x_113 := by rw [ex_113]; exact iv_add b_75 (iv_c (1 : Int32) (a := 1) (b := 1) (by decide)) (by decide)
                    refine va_put (ci := 6) (v := .int x_113) (ty := .int) (C := RX6) (T := TX6) (N := 9) hx hb hg inX6 tyX6 tyX6_ok nmX6 hown hK hP hD hS 1 rfl rfl 7 (by decide) (hg _ q_1_144) (fun _ h9 => h9) rfl (by decide +kernel) rfl rfl (Nat.le_of_ble_eq_true rfl) dX6_step_255 (fun H locs hP hD hS => ?_)
                    have hP : va_P V.1 vwCl [(y 1, aB V 900 fy1), (y 10, .inr (6, o6_riiriiiii (y 11) py10_1 py10_2 (y 1) py10_4 3 u_2 x_113 py10_8))] H := hP
                    have hD := cpD hP hD
                    refine lv_goto (tgt := 266) hx hb dX6_step_258 (by decide) ?_
                    exact fiV hx hb hr hlk hK hP hD hS dX6_step_266 (Nat.le_of_ble_eq_true rfl) (Nat.le_of_ble_eq_true rfl) (⟨py10_1, py10_2, 3, u_2, x_113, py10_8, (iv_w b_75 (by decide)), (iv_w bx_113 (by decide)), bpy10_8, (SR_sign c_1 (st_P bpy10_7 (iv_w b_75 (by decide)) inn_3_0 inn_3_1 (blB_n ex_77 c_78 c_81)) c_82 ex_77 (fun z => absurd z.1 (Int32.not_le.mpr c_83)) (fun z => absurd z.2 (Int32.not_le.mpr c_100)) (sg_1 ex_102 ex_103 g_105 c_106) ex_113), rfl⟩)
                · have b_114 : iv 48 57 x_77 := iv_e1 (Int32.not_lt.mp c_100) b_99 (iv_c (57 : Int32) (a := 57) (b := 57) (by decide)) (by decide)
                  refine lv_aload_n hx hb dX6_step_172 rfl (lv_at hl 0 rfl) ?_
                  refine lv_iconst (v := 2) hx hb dX6_step_173 (by decide) ?_
                  refine va_put (ci := 6) (v := .int 2) (ty := .int) (C := RX6) (T := TX6) (N := 9) hx hb hg inX6 tyX6 tyX6_ok nmX6 hown hK hP hD hS 1 rfl rfl 5 (by decide) (hg _ q_1_142) (fun _ h9 => h9) rfl (by decide +kernel) rfl rfl (Nat.le_of_ble_eq_true rfl) dX6_step_174 (fun H locs hP hD hS => ?_)
                  have hP : va_P V.1 vwCl [(y 1, aB V 900 fy1), (y 10, .inr (6, o6_riiriiiii (y 11) py10_1 py10_2 (y 1) py10_4 2 u_2 u_2 py10_8))] H := hP
                  have hD := cpD hP hD
                  refine lv_aload_n hx hb dX6_step_177 rfl (lv_at hl 0 rfl) ?_
                  refine lv_aload_n hx hb dX6_step_178 rfl (lv_at hl 0 rfl) ?_
                  refine lv_bipush (v := 48) hx hb dX6_step_179 (by decide) ?_
                  refine lv_bipush (v := 57) hx hb dX6_step_181 (by decide) ?_
                  refine jnI (wr := []) (rnV (rest := [.ref (y 10)]) ⟨hx, hb, hml, hown, hg⟩ (k_X6_endOfRun_0 l V y 48 57 fy1 py10_1 py10_2 py10_4 2 u_2 u_2 py10_8 tfy1 (iv_w b_76 (by decide)) (iv_w b_75 (by decide)) (iv_w b_75 (by decide)) bpy10_8) mt_X6_endOfRun q_2_112 ⟨Nat.le_of_ble_eq_true rfl, Nat.le_of_ble_eq_true rfl⟩ hK hP hD hS hA hE [0, 1] rfl rfl 1 rfl rfl rfl rfl hl.1 rfl (Nat.le_of_ble_eq_true rfl) dX6_step_183 ⟨Nat.le_of_ble_eq_true rfl, Nat.le_of_ble_eq_true rfl⟩) hP hD hS hA [0, 1] [] rfl rfl rfl (by decide) (fun r_115 w H locs hw hP hD hS => ?_)
                  obtain ⟨br_115, g_116, g_117, rfl⟩ := hw
                  have hP : va_P V.1 vwCl [(y 1, aB V 900 fy1), (y 10, .inr (6, o6_riiriiiii (y 11) py10_1 py10_2 (y 1) py10_4 2 u_2 u_2 py10_8))] H := hP
                  have hD := cpD hP hD
                  refine va_put (ci := 6) (v := .int r_115) (ty := .int) (C := RX6) (T := TX6) (N := 9) hx hb hg inX6 tyX6 tyX6_ok nmX6 hown hK hP hD hS 1 rfl rfl 7 (by decide) (hg _ q_1_144) (fun _ h9 => h9) rfl (by decide +kernel) rfl rfl (Nat.le_of_ble_eq_true rfl) dX6_step_186 (fun H locs hP hD hS => ?_)
                  have hP : va_P V.1 vwCl [(y 1, aB V 900 fy1), (y 10, .inr (6, o6_riiriiiii (y 11) py10_1 py10_2 (y 1) py10_4 2 u_2 r_115 py10_8))] H := hP
                  have hD := cpD hP hD
                  refine lv_aload_n hx hb dX6_step_189 rfl (lv_at hl 0 rfl) ?_
                  refine va_get (ci := 6) (v := .int r_115) (C := RX6) (T := TX6) (N := 9) hx hb hg inX6 hown hK hP 1 rfl rfl 7 (by decide) (hg _ q_1_144) (fun _ h9 => h9) rfl dX6_step_190 ?_
                  refine lv_aload_n hx hb dX6_step_193 rfl (lv_at hl 0 rfl) ?_
                  refine va_get (ci := 6) (v := .int u_2) (C := RX6) (T := TX6) (N := 9) hx hb hg inX6 hown hK hP 1 rfl rfl 6 (by decide) (hg _ q_1_143) (fun _ h9 => h9) rfl dX6_step_194 ?_
                  refine lv_isub hx hb dX6_step_197 ?_
                  refine lv_topi (fun x_118 ex_118 => ?_)
                  have bx_118 : iv (-899) 900 x_118 := by rw [ex_118]; exact iv_sub br_115 b_75 (by decide)
                  refine lv_iconst (v := 3) hx hb dX6_step_198 (by decide) ?_
                  refine lv_icmp_le (tgt := 210) hx hb dX6_step_199 (by decide) (fun c_119 => ?_) (fun c_119 => ?_)
                  · have b_120 : iv (-899) 3 x_118 := iv_e1 c_119 bx_118 (iv_c (3 : Int32) (a := 3) (b := 3) (by decide)) (by decide)
                    refine lv_aload_n hx hb dX6_step_210 rfl (lv_at hl 0 rfl) ?_
                    refine lv_aload_n hx hb dX6_step_211 rfl (lv_at hl 0 rfl) ?_
                    refine jnI (wr := []) (rnV (rest := [.ref (y 10)]) ⟨hx, hb, hml, hown, hg⟩ (k_X6_valueOfRun_0 l V y fy1 py10_1 py10_2 py10_4 2 u_2 r_115 py10_8 tfy1 (iv_w b_76 (by decide)) (iv_w b_75 (by decide)) br_115 bpy10_8) mt_X6_valueOfRun q_2_120 ⟨Nat.le_of_ble_eq_true rfl, Nat.le_of_ble_eq_true rfl⟩ hK hP hD hS hA hE [0, 1] rfl rfl 1 rfl rfl rfl rfl hl.1 rfl (Nat.le_of_ble_eq_true rfl) dX6_step_212 ⟨Nat.le_of_ble_eq_true rfl, Nat.le_of_ble_eq_true rfl⟩) hP hD hS hA [0, 1] [] rfl rfl rfl (by decide) (fun r_121 w H locs hw hP hD hS => ?_)
                    obtain ⟨g_122, rfl⟩ := hw
                    have hP : va_P V.1 vwCl [(y 1, aB V 900 fy1), (y 10, .inr (6, o6_riiriiiii (y 11) py10_1 py10_2 (y 1) py10_4 2 u_2 r_115 py10_8))] H := hP
                    have hD := cpD hP hD
                    have br_121 : iv 0 999 r_121 := vr_999 (iv_w b_76 (by decide)) (iv_w b_75 (by decide)) br_115 c_82 g_116 g_117 ex_118 c_119 g_122
                    refine va_put (ci := 6) (v := .int r_121) (ty := .int) (C := RX6) (T := TX6) (N := 9) hx hb hg inX6 tyX6 tyX6_ok nmX6 hown hK hP hD hS 1 rfl rfl 8 (by decide) (hg _ q_1_145) (fun _ h9 => h9) rfl (by decide +kernel) rfl rfl (Nat.le_of_ble_eq_true rfl) dX6_step_215 (fun H locs hP hD hS => ?_)
                    have hP : va_P V.1 vwCl [(y 1, aB V 900 fy1), (y 10, .inr (6, o6_riiriiiii (y 11) py10_1 py10_2 (y 1) py10_4 2 u_2 r_115 r_121))] H := hP
                    have hD := cpD hP hD
                    refine lv_goto (tgt := 266) hx hb dX6_step_218 (by decide) ?_
                    exact fiV hx hb hr hlk hK hP hD hS dX6_step_266 (Nat.le_of_ble_eq_true rfl) (Nat.le_of_ble_eq_true rfl) (⟨py10_1, py10_2, 2, u_2, r_115, r_121, (iv_w b_75 (by decide)), br_115, br_121, (SR_num c_1 (st_P bpy10_7 (iv_w b_75 (by decide)) inn_3_0 inn_3_1 (blB_n ex_77 c_78 c_81)) c_82 ex_77 (fun z => absurd z.1 (Int32.not_le.mpr c_83)) (Int32.not_lt.mp c_85) (Int32.not_lt.mp c_100) g_116 (by rw [← ex_118]; exact Int32.not_lt.mpr c_119) (g_122 g_117)), rfl⟩)
                  · have b_123 : iv 4 900 x_118 := iv_l2 (Int32.not_le.mp c_119) (iv_c (3 : Int32) (a := 3) (b := 3) (by decide)) bx_118 (by decide)
                    refine lv_aload_n hx hb dX6_step_202 rfl (lv_at hl 0 rfl) ?_
                    refine lv_iconst (v := 1) hx hb dX6_step_203 (by decide) ?_
                    refine jnV (wr := [(y 1, aB V 900 fy1)]) (rnV (rest := []) ⟨hx, hb, hml, hown, hg⟩ (k_X6_fail_0 l V y 1 py10_1 py10_2 py10_4 2 u_2 r_115 py10_8 (iv_w b_76 (by decide)) (iv_w b_75 (by decide)) br_115 bpy10_8) mt_X6_fail q_2_116 ⟨Nat.le_of_ble_eq_true rfl, Nat.le_of_ble_eq_true rfl⟩ hK hP hD hS hA hE [1] rfl rfl 1 rfl rfl rfl rfl hl.1 rfl (Nat.le_of_ble_eq_true rfl) dX6_step_204 ⟨Nat.le_of_ble_eq_true rfl, Nat.le_of_ble_eq_true rfl⟩) hP hD hS hA [1] [0] rfl rfl rfl (by decide) (fun  w H locs hw hP hD hS => ?_)
                    obtain ⟨v_124, v_125, v_126, g_127, rfl⟩ := hw
                    have hP : va_P V.1 vwCl [(y 1, aB V 900 fy1), (y 10, .inr (6, o6_riiriiiii (y 11) v_124 v_125 (y 1) py10_4 v_126 u_2 r_115 py10_8))] H := hP
                    have hD := cpD hP hD
                    refine lv_goto (tgt := 266) hx hb dX6_step_207 (by decide) ?_
                    exact fiV hx hb hr hlk hK hP hD hS dX6_step_266 (Nat.le_of_ble_eq_true rfl) (Nat.le_of_ble_eq_true rfl) (⟨v_124, v_125, v_126, u_2, r_115, py10_8, (iv_w b_75 (by decide)), br_115, bpy10_8, (SR_bad3 c_1 (st_P bpy10_7 (iv_w b_75 (by decide)) inn_3_0 inn_3_1 (blB_n ex_77 c_78 c_81)) c_82 ex_77 (fun z => absurd z.1 (Int32.not_le.mpr c_83)) (Int32.not_lt.mp c_85) (Int32.not_lt.mp c_100) g_116 (by rw [← ex_118]; exact Int32.not_le.mp c_119) g_127), rfl⟩)
            · have b_128 : iv 97 127 x_77 := iv_e2 (Int32.not_lt.mp c_83) (iv_c (97 : Int32) (a := 97) (b := 97) (by decide)) bx_77 (by decide)
              refine lv_aload_n hx hb dX6_step_110 rfl (lv_at hl 0 rfl) ?_
              refine va_get (ci := 6) (v := .ref (y 1)) (C := RX6) (T := TX6) (N := 9) hx hb hg inX6 hown hK hP 1 rfl rfl 3 (by decide) (hg _ q_1_140) (fun _ h9 => h9) rfl dX6_step_111 ?_
              refine lv_aload_n hx hb dX6_step_114 rfl (lv_at hl 0 rfl) ?_
              refine va_get (ci := 6) (v := .int u_2) (C := RX6) (T := TX6) (N := 9) hx hb hg inX6 hown hK hP 1 rfl rfl 6 (by decide) (hg _ q_1_143) (fun _ h9 => h9) rfl dX6_step_115 ?_
              refine va_bald hx hb hK hP 0 1 rfl rfl (iv_in b_75 (by decide)) dX6_step_118 ?_
              refine tpi (y := x_77) ex_77.symm ?_
              refine lv_bipush (v := 122) hx hb dX6_step_119 (by decide) ?_
              refine lv_icmp_gt (tgt := 144) hx hb dX6_step_121 (by decide) (fun c_129 => ?_) (fun c_129 => ?_)
              · have b_130 : iv 123 127 x_77 := iv_l2 c_129 (iv_c (122 : Int32) (a := 122) (b := 122) (by decide)) b_128 (by decide)
                refine lv_aload_n hx hb dX6_step_144 rfl (lv_at hl 0 rfl) ?_
                refine va_get (ci := 6) (v := .ref (y 1)) (C := RX6) (T := TX6) (N := 9) hx hb hg inX6 hown hK hP 1 rfl rfl 3 (by decide) (hg _ q_1_140) (fun _ h9 => h9) rfl dX6_step_145 ?_
                refine lv_aload_n hx hb dX6_step_148 rfl (lv_at hl 0 rfl) ?_
                refine va_get (ci := 6) (v := .int u_2) (C := RX6) (T := TX6) (N := 9) hx hb hg inX6 hown hK hP 1 rfl rfl 6 (by decide) (hg _ q_1_143) (fun _ h9 => h9) rfl dX6_step_149 ?_
                refine va_bald hx hb hK hP 0 1 rfl rfl (iv_in b_75 (by decide)) dX6_step_152 ?_
                refine tpi (y := x_77) ex_77.symm ?_
                refine lv_bipush (v := 48) hx hb dX6_step_153 (by decide) ?_
                refine lv_icmp_lt (tgt := 221) hx hb dX6_step_155 (by decide) (fun c_131 => absurd c_131 (iv_nlt b_130 (iv_c (48 : Int32) (a := 48) (b := 48) (by decide)) (by decide))) (fun _ => ?_)
                refine lv_aload_n hx hb dX6_step_158 rfl (lv_at hl 0 rfl) ?_
                refine va_get (ci := 6) (v := .ref (y 1)) (C := RX6) (T := TX6) (N := 9) hx hb hg inX6 hown hK hP 1 rfl rfl 3 (by decide) (hg _ q_1_140) (fun _ h9 => h9) rfl dX6_step_159 ?_
                refine lv_aload_n hx hb dX6_step_162 rfl (lv_at hl 0 rfl) ?_
                refine va_get (ci := 6) (v := .int u_2) (C := RX6) (T := TX6) (N := 9) hx hb hg inX6 hown hK hP 1 rfl rfl 6 (by decide) (hg _ q_1_143) (fun _ h9 => h9) rfl dX6_step_163 ?_
                refine va_bald hx hb hK hP 0 1 rfl rfl (iv_in b_75 (by decide)) dX6_step_166 ?_
                refine tpi (y := x_77) ex_77.symm ?_
                refine lv_bipush (v := 57) hx hb dX6_step_167 (by decide) ?_
                refine lv_icmp_gt (tgt := 221) hx hb dX6_step_169 (by decide) (fun _ => ?_) (fun c_132 => absurd (iv_lt (iv_c (57 : Int32) (a := 57) (b := 57) (by decide)) b_130 (by decide)) c_132)
                refine va_ldcS hx hb hown (hE.2.2.2.2.2.2 0 ("BeaconDelay$Reader", 254, ";:+-*()[]=<>", [59, 58, 43, 45, 42, 40, 41, 91, 93, 61, 60, 62]) rfl).1 dX6_step_221 ?_
                refine lv_aload_n hx hb dX6_step_223 rfl (lv_at hl 0 rfl) ?_
                refine va_get (ci := 6) (v := .ref (y 1)) (C := RX6) (T := TX6) (N := 9) hx hb hg inX6 hown hK hP 1 rfl rfl 3 (by decide) (hg _ q_1_140) (fun _ h9 => h9) rfl dX6_step_224 ?_
                refine lv_aload_n hx hb dX6_step_227 rfl (lv_at hl 0 rfl) ?_
                refine va_get (ci := 6) (v := .int u_2) (C := RX6) (T := TX6) (N := 9) hx hb hg inX6 hown hK hP 1 rfl rfl 6 (by decide) (hg _ q_1_143) (fun _ h9 => h9) rfl dX6_step_228 ?_
                refine va_bald hx hb hK hP 0 1 rfl rfl (iv_in b_75 (by decide)) dX6_step_231 ?_
                refine tpi (y := x_77) ex_77.symm ?_
                refine lv_sipush (v := 255) hx hb dX6_step_232 (by decide) ?_
                refine lv_iand hx hb dX6_step_235 ?_
                refine lv_topi (fun x_133 ex_133 => ?_)
                refine lv_i2c hx hb dX6_step_236 rfl ?_
                refine lv_topi (fun x_134 ex_134 => ?_)
                refine jnI (wr := [(y 1, aB V 900 fy1), (y 10, .inr (6, o6_riiriiiii (y 11) py10_1 py10_2 (y 1) py10_4 py10_5 u_2 u_2 py10_8))]) (rnVx (rest := []) ⟨hx, hb, hml, hown, hg⟩ (k_J0_indexOf_0f7a4_0 l V 0 ("BeaconDelay$Reader", 254, ";:+-*()[]=<>", [59, 58, 43, 45, 42, 40, 41, 91, 93, 61, 60, 62]) rfl x_134) mt_J0_indexOf_0f7a4 q_2_125 ⟨Nat.le_of_ble_eq_true rfl, Nat.le_of_ble_eq_true rfl⟩ hK hP hD hS hA hE [] rfl rfl (o_recv (hE.2.2.2.2.2.2 0 ("BeaconDelay$Reader", 254, ";:+-*()[]=<>", [59, 58, 43, 45, 42, 40, 41, 91, 93, 61, 60, 62]) rfl).2.1 hS) rfl hl.1 rfl (Nat.le_of_ble_eq_true rfl) dX6_step_237 ⟨Nat.le_of_ble_eq_true rfl, Nat.le_of_ble_eq_true rfl⟩) hP hD hS hA [] [0, 1] rfl rfl rfl (by decide) (fun r_135 w H locs hw hP hD hS => ?_)
                obtain ⟨br_135, g_136, rfl⟩ := hw
                have br_135 : iv (-1) 11 r_135 := iv_w br_135 (by decide)
                have hP : va_P V.1 vwCl [(y 1, aB V 900 fy1), (y 10, .inr (6, o6_riiriiiii (y 11) py10_1 py10_2 (y 1) py10_4 py10_5 u_2 u_2 py10_8))] H := hP
                have hD := cpD hP hD
                refine lv_if_lt (tgt := 261) hx hb dX6_step_240 (by decide) (fun c_137 => ?_) (fun c_137 => ?_)
                · have b_138 : iv (-1) (-1) r_135 := iv_l1 c_137 br_135 (iv_c (0 : Int32) (a := 0) (b := 0) (by decide)) (by decide)
                  refine lv_aload_n hx hb dX6_step_261 rfl (lv_at hl 0 rfl) ?_
                  refine lv_iconst (v := 1) hx hb dX6_step_262 (by decide) ?_
                  refine jnV (wr := [(y 1, aB V 900 fy1)]) (rnV (rest := []) ⟨hx, hb, hml, hown, hg⟩ (k_X6_fail_0 l V y 1 py10_1 py10_2 py10_4 py10_5 u_2 u_2 py10_8 (iv_w b_76 (by decide)) (iv_w b_75 (by decide)) (iv_w b_75 (by decide)) bpy10_8) mt_X6_fail q_2_116 ⟨Nat.le_of_ble_eq_true rfl, Nat.le_of_ble_eq_true rfl⟩ hK hP hD hS hA hE [1] rfl rfl 1 rfl rfl rfl rfl hl.1 rfl (Nat.le_of_ble_eq_true rfl) dX6_step_263 ⟨Nat.le_of_ble_eq_true rfl, Nat.le_of_ble_eq_true rfl⟩) hP hD hS hA [1] [0] rfl rfl rfl (by decide) (fun  w H locs hw hP hD hS => ?_)
                  obtain ⟨v_139, v_140, v_141, g_142, rfl⟩ := hw
                  have hP : va_P V.1 vwCl [(y 1, aB V 900 fy1), (y 10, .inr (6, o6_riiriiiii (y 11) v_139 v_140 (y 1) py10_4 v_141 u_2 u_2 py10_8))] H := hP
                  have hD := cpD hP hD
                  exact fiV hx hb hr hlk hK hP hD hS dX6_step_266 (Nat.le_of_ble_eq_true rfl) (Nat.le_of_ble_eq_true rfl) (⟨v_139, v_140, v_141, u_2, u_2, py10_8, (iv_w b_75 (by decide)), (iv_w b_75 (by decide)), bpy10_8, (SR_bad c_1 (st_P bpy10_7 (iv_w b_75 (by decide)) inn_3_0 inn_3_1 (blB_n ex_77 c_78 c_81)) c_82 ex_77 (fun z => absurd z.2 (Int32.not_le.mpr c_129)) (fun z => absurd z.2 (iv_nle b_130 (iv_c (57 : Int32) (a := 57) (b := 57) (by decide)) (by decide))) (sg_0 ex_133 ex_134 g_136 c_137) g_142), rfl⟩)
                · have b_143 : iv 0 11 r_135 := iv_e2 (Int32.not_lt.mp c_137) (iv_c (0 : Int32) (a := 0) (b := 0) (by decide)) br_135 (by decide)
                  refine lv_aload_n hx hb dX6_step_243 rfl (lv_at hl 0 rfl) ?_
                  refine lv_iconst (v := 3) hx hb dX6_step_244 (by decide) ?_
                  refine va_put (ci := 6) (v := .int 3) (ty := .int) (C := RX6) (T := TX6) (N := 9) hx hb hg inX6 tyX6 tyX6_ok nmX6 hown hK hP hD hS 1 rfl rfl 5 (by decide) (hg _ q_1_142) (fun _ h9 => h9) rfl (by decide +kernel) rfl rfl (Nat.le_of_ble_eq_true rfl) dX6_step_245 (fun H locs hP hD hS => ?_)
                  have hP : va_P V.1 vwCl [(y 1, aB V 900 fy1), (y 10, .inr (6, o6_riiriiiii (y 11) py10_1 py10_2 (y 1) py10_4 3 u_2 u_2 py10_8))] H := hP
                  have hD := cpD hP hD
                  refine lv_aload_n hx hb dX6_step_248 rfl (lv_at hl 0 rfl) ?_
                  refine lv_aload_n hx hb dX6_step_249 rfl (lv_at hl 0 rfl) ?_
                  refine va_get (ci := 6) (v := .int u_2) (C := RX6) (T := TX6) (N := 9) hx hb hg inX6 hown hK hP 1 rfl rfl 6 (by decide) (hg _ q_1_143) (fun _ h9 => h9) rfl dX6_step_250 ?_
                  refine lv_iconst (v := 1) hx hb dX6_step_253 (by decide) ?_
                  refine lv_iadd hx hb dX6_step_254 ?_
                  refine lv_topi (fun x_144 ex_144 => ?_)
                  have bx_144 : iv 1 900 x_144 := by rw [ex_144]; exact iv_add b_75 (iv_c (1 : Int32) (a := 1) (b := 1) (by decide)) (by decide)
                  refine va_put (ci := 6) (v := .int x_144) (ty := .int) (C := RX6) (T := TX6) (N := 9) hx hb hg inX6 tyX6 tyX6_ok nmX6 hown hK hP hD hS 1 rfl rfl 7 (by decide) (hg _ q_1_144) (fun _ h9 => h9) rfl (by decide +kernel) rfl rfl (Nat.le_of_ble_eq_true rfl) dX6_step_255 (fun H locs hP hD hS => ?_)
                  have hP : va_P V.1 vwCl [(y 1, aB V 900 fy1), (y 10, .inr (6, o6_riiriiiii (y 11) py10_1 py10_2 (y 1) py10_4 3 u_2 x_144 py10_8))] H := hP
                  have hD := cpD hP hD
                  refine lv_goto (tgt := 266) hx hb dX6_step_258 (by decide) ?_
                  exact fiV hx hb hr hlk hK hP hD hS dX6_step_266 (Nat.le_of_ble_eq_true rfl) (Nat.le_of_ble_eq_true rfl) (⟨py10_1, py10_2, 3, u_2, x_144, py10_8, (iv_w b_75 (by decide)), (iv_w bx_144 (by decide)), bpy10_8, (SR_sign c_1 (st_P bpy10_7 (iv_w b_75 (by decide)) inn_3_0 inn_3_1 (blB_n ex_77 c_78 c_81)) c_82 ex_77 (fun z => absurd z.2 (Int32.not_le.mpr c_129)) (fun z => absurd z.2 (iv_nle b_130 (iv_c (57 : Int32) (a := 57) (b := 57) (by decide)) (by decide))) (sg_1 ex_133 ex_134 g_136 c_137) ex_144), rfl⟩)
              · have b_145 : iv 97 122 x_77 := iv_e1 (Int32.not_lt.mp c_129) b_128 (iv_c (122 : Int32) (a := 122) (b := 122) (by decide)) (by decide)
                refine lv_aload_n hx hb dX6_step_124 rfl (lv_at hl 0 rfl) ?_
                refine lv_iconst (v := 1) hx hb dX6_step_125 (by decide) ?_
                refine va_put (ci := 6) (v := .int 1) (ty := .int) (C := RX6) (T := TX6) (N := 9) hx hb hg inX6 tyX6 tyX6_ok nmX6 hown hK hP hD hS 1 rfl rfl 5 (by decide) (hg _ q_1_142) (fun _ h9 => h9) rfl (by decide +kernel) rfl rfl (Nat.le_of_ble_eq_true rfl) dX6_step_126 (fun H locs hP hD hS => ?_)
                have hP : va_P V.1 vwCl [(y 1, aB V 900 fy1), (y 10, .inr (6, o6_riiriiiii (y 11) py10_1 py10_2 (y 1) py10_4 1 u_2 u_2 py10_8))] H := hP
                have hD := cpD hP hD
                refine lv_aload_n hx hb dX6_step_129 rfl (lv_at hl 0 rfl) ?_
                refine lv_aload_n hx hb dX6_step_130 rfl (lv_at hl 0 rfl) ?_
                refine lv_bipush (v := 97) hx hb dX6_step_131 (by decide) ?_
                refine lv_bipush (v := 122) hx hb dX6_step_133 (by decide) ?_
                refine jnI (wr := []) (rnV (rest := [.ref (y 10)]) ⟨hx, hb, hml, hown, hg⟩ (k_X6_endOfRun_0 l V y 97 122 fy1 py10_1 py10_2 py10_4 1 u_2 u_2 py10_8 tfy1 (iv_w b_76 (by decide)) (iv_w b_75 (by decide)) (iv_w b_75 (by decide)) bpy10_8) mt_X6_endOfRun q_2_112 ⟨Nat.le_of_ble_eq_true rfl, Nat.le_of_ble_eq_true rfl⟩ hK hP hD hS hA hE [0, 1] rfl rfl 1 rfl rfl rfl rfl hl.1 rfl (Nat.le_of_ble_eq_true rfl) dX6_step_135 ⟨Nat.le_of_ble_eq_true rfl, Nat.le_of_ble_eq_true rfl⟩) hP hD hS hA [0, 1] [] rfl rfl rfl (by decide) (fun r_146 w H locs hw hP hD hS => ?_)
                obtain ⟨br_146, g_147, g_148, rfl⟩ := hw
                have hP : va_P V.1 vwCl [(y 1, aB V 900 fy1), (y 10, .inr (6, o6_riiriiiii (y 11) py10_1 py10_2 (y 1) py10_4 1 u_2 u_2 py10_8))] H := hP
                have hD := cpD hP hD
                refine va_put (ci := 6) (v := .int r_146) (ty := .int) (C := RX6) (T := TX6) (N := 9) hx hb hg inX6 tyX6 tyX6_ok nmX6 hown hK hP hD hS 1 rfl rfl 7 (by decide) (hg _ q_1_144) (fun _ h9 => h9) rfl (by decide +kernel) rfl rfl (Nat.le_of_ble_eq_true rfl) dX6_step_138 (fun H locs hP hD hS => ?_)
                have hP : va_P V.1 vwCl [(y 1, aB V 900 fy1), (y 10, .inr (6, o6_riiriiiii (y 11) py10_1 py10_2 (y 1) py10_4 1 u_2 r_146 py10_8))] H := hP
                have hD := cpD hP hD
                refine lv_goto (tgt := 266) hx hb dX6_step_141 (by decide) ?_
                exact fiV hx hb hr hlk hK hP hD hS dX6_step_266 (Nat.le_of_ble_eq_true rfl) (Nat.le_of_ble_eq_true rfl) (⟨py10_1, py10_2, 1, u_2, r_146, py10_8, (iv_w b_75 (by decide)), br_146, bpy10_8, (SR_word c_1 (st_P bpy10_7 (iv_w b_75 (by decide)) inn_3_0 inn_3_1 (blB_n ex_77 c_78 c_81)) c_82 ex_77 (Int32.not_lt.mp c_83) (Int32.not_lt.mp c_129) g_147), rfl⟩)
          · have b_149 : iv 1 899 py10_4 := iv_e1 (Int32.not_lt.mp c_82) b_76 b_75 (by decide)
            have b_150 : iv 1 899 u_2 := iv_e2 (Int32.not_lt.mp c_82) b_76 b_75 (by decide)
            refine lv_aload_n hx hb dX6_step_88 rfl (lv_at hl 0 rfl) ?_
            refine lv_iconst (v := 0) hx hb dX6_step_89 (by decide) ?_
            refine va_put (ci := 6) (v := .int 0) (ty := .int) (C := RX6) (T := TX6) (N := 9) hx hb hg inX6 tyX6 tyX6_ok nmX6 hown hK hP hD hS 1 rfl rfl 5 (by decide) (hg _ q_1_142) (fun _ h9 => h9) rfl (by decide +kernel) rfl rfl (Nat.le_of_ble_eq_true rfl) dX6_step_90 (fun H locs hP hD hS => ?_)
            have hP : va_P V.1 vwCl [(y 1, aB V 900 fy1), (y 10, .inr (6, o6_riiriiiii (y 11) py10_1 py10_2 (y 1) py10_4 0 u_2 u_2 py10_8))] H := hP
            have hD := cpD hP hD
            refine lv_goto (tgt := 266) hx hb dX6_step_93 (by decide) ?_
            exact fiV hx hb hr hlk hK hP hD hS dX6_step_266 (Nat.le_of_ble_eq_true rfl) (Nat.le_of_ble_eq_true rfl) (⟨py10_1, py10_2, 0, u_2, u_2, py10_8, (iv_w b_150 (by decide)), (iv_w b_150 (by decide)), bpy10_8, (SR_end c_1 (st_P bpy10_7 (iv_w b_150 (by decide)) inn_3_0 inn_3_1 (blB_n ex_77 c_78 c_81)) c_82), rfl⟩)
        · have b_151 : iv 32 32 x_77 := iv_q c_81 (iv_c (32 : Int32) (a := 32) (b := 32) (by decide))
          refine lv_aload_n hx hb dX6_step_56 rfl (lv_at hl 0 rfl) ?_
          refine lv_dup hx hb dX6_step_57 rfl ?_
          refine va_get (ci := 6) (v := .int u_2) (C := RX6) (T := TX6) (N := 9) hx hb hg inX6 hown hK hP 1 rfl rfl 6 (by decide) (hg _ q_1_143) (fun _ h9 => h9) rfl dX6_step_58 ?_
          refine lv_iconst (v := 1) hx hb dX6_step_61 (by decide) ?_
          refine lv_iadd hx hb dX6_step_62 ?_
          refine lv_topi (fun x_152 ex_152 => ?_)
          have bx_152 : iv 1 900 x_152 := by rw [ex_152]; exact iv_add b_75 (iv_c (1 : Int32) (a := 1) (b := 1) (by decide)) (by decide)
          refine va_put (ci := 6) (v := .int x_152) (ty := .int) (C := RX6) (T := TX6) (N := 9) hx hb hg inX6 tyX6 tyX6_ok nmX6 hown hK hP hD hS 1 rfl rfl 6 (by decide) (hg _ q_1_143) (fun _ h9 => h9) rfl (by decide +kernel) rfl rfl (Nat.le_of_ble_eq_true rfl) dX6_step_63 (fun H locs hP hD hS => ?_)
          have hP : va_P V.1 vwCl [(y 1, aB V 900 fy1), (y 10, .inr (6, o6_riiriiiii (y 11) py10_1 py10_2 (y 1) py10_4 py10_5 x_152 py10_7 py10_8))] H := hP
          have hD := cpD hP hD
          refine lv_goto (tgt := 17) hx hb dX6_step_66 (by decide) ?_
          exact ihn_3 _ _ _ _ (by rw [en_3, ex_152]; exact mu_up b_75 (by decide)) ⟨x_152, (iv_w bx_152 (by decide)), (by have q9 := inc_toInt ex_152 b_75 (by decide); have q8 := inn_3_0; omega), (sc_s inn_3_1 (blB_1 (Int32.not_le.mp c_4) ex_77 (Or.inr c_81)) ex_152 b_75 (by decide)), rfl, hP, hD, hS, lv_sub hl [0] rfl⟩
  · have b_153 : iv 4 4 py10_5 := iv_q c_1 (iv_c (4 : Int32) (a := 4) (b := 4) (by decide))
    exact fiV hx hb hr hlk hK hP hD hS dX6_step_8 (Nat.le_of_ble_eq_true rfl) (Nat.le_of_ble_eq_true rfl) (⟨py10_1, py10_2, py10_5, py10_6, py10_7, py10_8, bpy10_6, bpy10_7, bpy10_8, (SR_4 c_1), rfl⟩)
theorem dX6_expect_0 : decode cX6_expect 0 = .ok (.aload_n 0, 1) := by decide +kernel
theorem dX6_expect_1 : decode cX6_expect 1 = .ok (.aload_n 1, 1) := by decide +kernel
theorem q_2_215 : Cond.code yX6_at prog_8_method_17_code 3 (some FieldType.boolean) ∈ gw := gw_2 (i := 215) (rfl) rfl
theorem q_2_214 : Cond.instanceMethod yX6_at ∈ gw := gw_2 (i := 214) (by decide +kernel) rfl
theorem q_s_6 : Cond.selects "BeaconDelay$Reader" yX6_at yX6_at ∈ gw := gw_s (i := 6) (by decide +kernel) rfl
theorem mt_X6_at : MtV yX6_at cX6_at 3 (some .boolean) 1 := ⟨⟨q_2_215, q_1_3, by decide +kernel, by decide +kernel, by decide +kernel⟩, q_2_214, q_s_6⟩
theorem q_2_212 : Cond.methodLink "BeaconDelay$Reader" 78 yX6_at ∈ gw := gw_2 (i := 212) (by decide +kernel) rfl
theorem dX6_expect_2 : decode cX6_expect 2 = .ok (.invokevirtual 78, 3) := by decide +kernel
theorem dX6_expect_5 : decode cX6_expect 5 = .ok (.ifCond .eq 10, 3) := by decide +kernel
theorem dX6_expect_15 : decode cX6_expect 15 = .ok (.aload_n 0, 1) := by decide +kernel
theorem dX6_expect_16 : decode cX6_expect 16 = .ok (.iconst 2, 1) := by decide +kernel
theorem dX6_expect_17 : decode cX6_expect 17 = .ok (.invokevirtual 105, 3) := by decide +kernel
theorem dX6_expect_20 : decode cX6_expect 20 = .ok (.return_, 1) := by decide +kernel
theorem dX6_expect_8 : decode cX6_expect 8 = .ok (.aload_n 0, 1) := by decide +kernel
theorem q_2_111 : Cond.code yX6_step prog_8_method_21_code 1 none ∈ gw := gw_2 (i := 111) (rfl) rfl
theorem q_2_110 : Cond.instanceMethod yX6_step ∈ gw := gw_2 (i := 110) (by decide +kernel) rfl
theorem q_s_1 : Cond.selects "BeaconDelay$Reader" yX6_step yX6_step ∈ gw := gw_s (i := 1) (by decide +kernel) rfl
theorem mt_X6_step : MtV yX6_step cX6_step 1 none 0 := ⟨⟨q_2_111, q_1_3, by decide +kernel, by decide +kernel, by decide +kernel⟩, q_2_110, q_s_1⟩
theorem q_2_108 : Cond.methodLink "BeaconDelay$Reader" 50 yX6_step ∈ gw := gw_2 (i := 108) (by decide +kernel) rfl
theorem dX6_expect_9 : decode cX6_expect 9 = .ok (.invokevirtual 50, 3) := by decide +kernel
theorem dX6_expect_12 : decode cX6_expect 12 = .ok (.goto 8, 3) := by decide +kernel
set_option maxHeartbeats 4000000 in
set_option maxRecDepth 100000 in
theorem k_X6_expect_0 (l : Launch) (V : GV) (y : Nat → Nat) (si : Nat) (sq : String × Nat × String × List Int32) (hsi : sL[si]? = some sq) (fy1 : Nat → Int32) (py10_1 : Int32) (py10_2 : Int32) (py10_4 : Int32) (py10_5 : Int32) (py10_6 : Int32) (py10_7 : Int32) (py10_8 : Int32) (tfy1 : ∀ j, iv (-128) 127 (fy1 j)) (bpy10_4 : iv 0 900 py10_4) (bpy10_6 : iv 0 900 py10_6) (bpy10_7 : iv 0 900 py10_7) (bpy10_8 : iv 0 999 py10_8) : Ct l V yX6_expect (.code yX6_expect cX6_expect 2 none) 6 [.ref (y 10), .ref (V.2.1 (100 + si))] [(y 1, aB V 900 fy1), (y 10, .inr (6, o6_riiriiiii (y 11) py10_1 py10_2 (y 1) py10_4 py10_5 py10_6 py10_7 py10_8))] 0 0 (QV V (fun (w : va_W) => ∃ (v0 : Int32) (v1 : Int32) (v2 : Int32) (v3 : Int32) (v4 : Int32) (v5 : Int32), iv 0 900 v3 ∧ iv 0 900 v4 ∧ iv 0 999 v5 ∧ (∀ q9 : Sg, RC fy1 py10_4 q9 py10_1 py10_2 py10_5 py10_6 py10_7 py10_8 → RC fy1 py10_4 (exP (tkX fy1 py10_4) (kL sq.2.2.2) q9) v0 v1 v2 v3 v4 v5) ∧ w = [(y 1, aB V 900 fy1), (y 10, .inr (6, o6_riiriiiii (y 11) v0 v1 (y 1) py10_4 v2 v3 v4 v5))])) := by
  have hSL := sL_len hsi
  refine Ct.of (by decide) (Nat.le_of_ble_eq_true rfl) (fun p e s m below meth c A ls hx hb hr hml hown hlk hnm hg hP hK hD hE hA hS hl => ?_)
  have hl : lv_has ls 2 [(0, .ref (y 10)), (1, .ref (V.2.1 (100 + si)))] := hl
  refine lv_aload_n hx hb dX6_expect_0 rfl (lv_at hl 0 rfl) ?_
  refine lv_aload_n hx hb dX6_expect_1 rfl (lv_at hl 1 rfl) ?_
  refine jnI (wr := []) (rnV (rest := []) ⟨hx, hb, hml, hown, hg⟩ (k_X6_at_0 l V y si sq hsi fy1 py10_1 py10_2 py10_4 py10_5 py10_6 py10_7 py10_8 tfy1 bpy10_4 bpy10_6 bpy10_7 bpy10_8) mt_X6_at q_2_212 ⟨Nat.le_of_ble_eq_true rfl, Nat.le_of_ble_eq_true rfl⟩ hK hP hD hS hA hE [0, 1] rfl rfl 1 rfl rfl rfl rfl hl.1 rfl (Nat.le_of_ble_eq_true rfl) dX6_expect_2 ⟨Nat.le_of_ble_eq_true rfl, Nat.le_of_ble_eq_true rfl⟩) hP hD hS hA [0, 1] [] rfl rfl rfl (by decide) (fun r_1 w H locs hw hP hD hS => ?_)
  obtain ⟨br_1, er_1, rfl⟩ := hw
  have hP : va_P V.1 vwCl [(y 1, aB V 900 fy1), (y 10, .inr (6, o6_riiriiiii (y 11) py10_1 py10_2 (y 1) py10_4 py10_5 py10_6 py10_7 py10_8))] H := hP
  have hD := cpD hP hD
  refine lv_if_eq (tgt := 15) hx hb dX6_expect_5 (by decide) (fun c_2 => ?_) (fun c_2 => ?_)
  · have b_3 : iv 0 0 r_1 := iv_q c_2 (iv_c (0 : Int32) (a := 0) (b := 0) (by decide))
    refine lv_aload_n hx hb dX6_expect_15 rfl (lv_at hl 0 rfl) ?_
    refine lv_iconst (v := 2) hx hb dX6_expect_16 (by decide) ?_
    refine jnV (wr := [(y 1, aB V 900 fy1)]) (rnV (rest := []) ⟨hx, hb, hml, hown, hg⟩ (k_X6_fail_0 l V y 2 py10_1 py10_2 py10_4 py10_5 py10_6 py10_7 py10_8 bpy10_4 bpy10_6 bpy10_7 bpy10_8) mt_X6_fail q_2_116 ⟨Nat.le_of_ble_eq_true rfl, Nat.le_of_ble_eq_true rfl⟩ hK hP hD hS hA hE [1] rfl rfl 1 rfl rfl rfl rfl hl.1 rfl (Nat.le_of_ble_eq_true rfl) dX6_expect_17 ⟨Nat.le_of_ble_eq_true rfl, Nat.le_of_ble_eq_true rfl⟩) hP hD hS hA [1] [0] rfl rfl rfl (by decide) (fun  w H locs hw hP hD hS => ?_)
    obtain ⟨v_4, v_5, v_6, g_7, rfl⟩ := hw
    have hP : va_P V.1 vwCl [(y 1, aB V 900 fy1), (y 10, .inr (6, o6_riiriiiii (y 11) v_4 v_5 (y 1) py10_4 v_6 py10_6 py10_7 py10_8))] H := hP
    have hD := cpD hP hD
    exact fiV hx hb hr hlk hK hP hD hS dX6_expect_20 (Nat.le_of_ble_eq_true rfl) (Nat.le_of_ble_eq_true rfl) (⟨v_4, v_5, v_6, py10_6, py10_7, py10_8, bpy10_6, bpy10_7, bpy10_8, (fun q9 h9 => by have b0_1 := RC_a0 (i := si) (sq := sq) hsi rfl bpy10_4.2 tfy1 h9 er_1 b_3; have h0_2 := RC_fail h9 g_7 (by decide); exact RC_cg (exP_0 b0_1) h0_2), rfl⟩)
  · have b_8 : iv 1 1 r_1 := iv_n0 c_2 br_1 (iv_c (0 : Int32) (a := 0) (b := 0) (by decide)) (by first | decide | omega)
    refine lv_aload_n hx hb dX6_expect_8 rfl (lv_at hl 0 rfl) ?_
    refine jnV (wr := []) (rnV (rest := []) ⟨hx, hb, hml, hown, hg⟩ (k_X6_step_0 l V y fy1 py10_1 py10_2 py10_4 py10_5 py10_6 py10_7 py10_8 tfy1 bpy10_4 bpy10_6 bpy10_7 bpy10_8) mt_X6_step q_2_108 ⟨Nat.le_of_ble_eq_true rfl, Nat.le_of_ble_eq_true rfl⟩ hK hP hD hS hA hE [0, 1] rfl rfl 1 rfl rfl rfl rfl hl.1 rfl (Nat.le_of_ble_eq_true rfl) dX6_expect_9 ⟨Nat.le_of_ble_eq_true rfl, Nat.le_of_ble_eq_true rfl⟩) hP hD hS hA [0, 1] [] rfl rfl rfl (by decide) (fun  w H locs hw hP hD hS => ?_)
    obtain ⟨v_9, v_10, v_11, v_12, v_13, v_14, bv_12, bv_13, bv_14, g_15, rfl⟩ := hw
    have hP : va_P V.1 vwCl [(y 1, aB V 900 fy1), (y 10, .inr (6, o6_riiriiiii (y 11) v_9 v_10 (y 1) py10_4 v_11 v_12 v_13 v_14))] H := hP
    have hD := cpD hP hD
    refine lv_goto (tgt := 20) hx hb dX6_expect_12 (by decide) ?_
    exact fiV hx hb hr hlk hK hP hD hS dX6_expect_20 (Nat.le_of_ble_eq_true rfl) (Nat.le_of_ble_eq_true rfl) (⟨v_9, v_10, v_11, v_12, v_13, v_14, bv_12, bv_13, bv_14, (fun q9 h9 => by have b0_1 := RC_a1 (i := si) (sq := sq) hsi rfl bpy10_4.2 tfy1 h9 er_1 b_8; have h0_2 := RC_step bpy10_4.2 h9 g_15; exact RC_cg (exP_1 b0_1) h0_2), rfl⟩)
theorem dX6_numberUpTo_0 : decode cX6_numberUpTo 0 = .ok (.aload_n 0, 1) := by decide +kernel
theorem dX6_numberUpTo_1 : decode cX6_numberUpTo 1 = .ok (.getfield 41, 3) := by decide +kernel
theorem dX6_numberUpTo_4 : decode cX6_numberUpTo 4 = .ok (.iconst 2, 1) := by decide +kernel
theorem dX6_numberUpTo_5 : decode cX6_numberUpTo 5 = .ok (.if_icmp .eq 10, 3) := by decide +kernel
theorem dX6_numberUpTo_15 : decode cX6_numberUpTo 15 = .ok (.aload_n 0, 1) := by decide +kernel
theorem dX6_numberUpTo_16 : decode cX6_numberUpTo 16 = .ok (.getfield 211, 3) := by decide +kernel
theorem dX6_numberUpTo_19 : decode cX6_numberUpTo 19 = .ok (.iload_n 1, 1) := by decide +kernel
theorem dX6_numberUpTo_20 : decode cX6_numberUpTo 20 = .ok (.if_icmp .le 10, 3) := by decide +kernel
theorem dX6_numberUpTo_30 : decode cX6_numberUpTo 30 = .ok (.aload_n 0, 1) := by decide +kernel
theorem dX6_numberUpTo_31 : decode cX6_numberUpTo 31 = .ok (.getfield 211, 3) := by decide +kernel
theorem dX6_numberUpTo_34 : decode cX6_numberUpTo 34 = .ok (.istore_n 2, 1) := by decide +kernel
theorem dX6_numberUpTo_35 : decode cX6_numberUpTo 35 = .ok (.aload_n 0, 1) := by decide +kernel
theorem dX6_numberUpTo_36 : decode cX6_numberUpTo 36 = .ok (.invokevirtual 50, 3) := by decide +kernel
theorem dX6_numberUpTo_39 : decode cX6_numberUpTo 39 = .ok (.iload_n 2, 1) := by decide +kernel
theorem dX6_numberUpTo_40 : decode cX6_numberUpTo 40 = .ok (.ireturn, 1) := by decide +kernel
theorem dX6_numberUpTo_23 : decode cX6_numberUpTo 23 = .ok (.aload_n 0, 1) := by decide +kernel
theorem dX6_numberUpTo_24 : decode cX6_numberUpTo 24 = .ok (.iconst 3, 1) := by decide +kernel
theorem dX6_numberUpTo_25 : decode cX6_numberUpTo 25 = .ok (.invokevirtual 105, 3) := by decide +kernel
theorem dX6_numberUpTo_28 : decode cX6_numberUpTo 28 = .ok (.iconst 0, 1) := by decide +kernel
theorem dX6_numberUpTo_29 : decode cX6_numberUpTo 29 = .ok (.ireturn, 1) := by decide +kernel
theorem dX6_numberUpTo_8 : decode cX6_numberUpTo 8 = .ok (.aload_n 0, 1) := by decide +kernel
theorem dX6_numberUpTo_9 : decode cX6_numberUpTo 9 = .ok (.iconst 2, 1) := by decide +kernel
theorem dX6_numberUpTo_10 : decode cX6_numberUpTo 10 = .ok (.invokevirtual 105, 3) := by decide +kernel
theorem dX6_numberUpTo_13 : decode cX6_numberUpTo 13 = .ok (.iconst 0, 1) := by decide +kernel
theorem dX6_numberUpTo_14 : decode cX6_numberUpTo 14 = .ok (.ireturn, 1) := by decide +kernel
set_option maxHeartbeats 4000000 in
set_option maxRecDepth 100000 in
theorem k_X6_numberUpTo_0 (l : Launch) (V : GV) (y : Nat → Nat) (a1 : Int32) (fy1 : Nat → Int32) (py10_1 : Int32) (py10_2 : Int32) (py10_4 : Int32) (py10_5 : Int32) (py10_6 : Int32) (py10_7 : Int32) (py10_8 : Int32) (tfy1 : ∀ j, iv (-128) 127 (fy1 j)) (bpy10_4 : iv 0 900 py10_4) (bpy10_6 : iv 0 900 py10_6) (bpy10_7 : iv 0 900 py10_7) (bpy10_8 : iv 0 999 py10_8) : Ct l V yX6_numberUpTo (.code yX6_numberUpTo cX6_numberUpTo 3 (some .int)) 6 [.ref (y 10), .int a1] [(y 1, aB V 900 fy1), (y 10, .inr (6, o6_riiriiiii (y 11) py10_1 py10_2 (y 1) py10_4 py10_5 py10_6 py10_7 py10_8))] 0 0 (QI V (fun (r : Int32) (w : va_W) => ∃ (v0 : Int32) (v1 : Int32) (v2 : Int32) (v3 : Int32) (v4 : Int32) (v5 : Int32), iv 0 900 v3 ∧ iv 0 900 v4 ∧ iv 0 999 v5 ∧ iv 0 999 r ∧ (∀ q9 : Sg, RC fy1 py10_4 q9 py10_1 py10_2 py10_5 py10_6 py10_7 py10_8 → RC fy1 py10_4 (nuP (tkX fy1 py10_4) a1 q9) v0 v1 v2 v3 v4 v5) ∧ (∀ b9 : Int, (a1 : Int32).toInt ≤ b9 → 0 ≤ b9 → (r : Int32).toInt ≤ b9) ∧ (∀ q9 : Sg, RC fy1 py10_4 q9 py10_1 py10_2 py10_5 py10_6 py10_7 py10_8 → (nuP (tkX fy1 py10_4) a1 q9).1 = 0 → r = ((tkX fy1 py10_4) q9.2.2.1).2.2.2) ∧ w = [(y 1, aB V 900 fy1), (y 10, .inr (6, o6_riiriiiii (y 11) v0 v1 (y 1) py10_4 v2 v3 v4 v5))])) := by
  refine Ct.of (by decide) (Nat.le_of_ble_eq_true rfl) (fun p e s m below meth c A ls hx hb hr hml hown hlk hnm hg hP hK hD hE hA hS hl => ?_)
  have hl : lv_has ls 3 [(0, .ref (y 10)), (1, .int a1)] := hl
  refine lv_aload_n hx hb dX6_numberUpTo_0 rfl (lv_at hl 0 rfl) ?_
  refine va_get (ci := 6) (v := .int py10_5) (C := RX6) (T := TX6) (N := 9) hx hb hg inX6 hown hK hP 1 rfl rfl 5 (by decide) (hg _ q_1_142) (fun _ h9 => h9) rfl dX6_numberUpTo_1 ?_
  refine lv_iconst (v := 2) hx hb dX6_numberUpTo_4 (by decide) ?_
  refine lv_icmp_eq (tgt := 15) hx hb dX6_numberUpTo_5 (by decide) (fun c_1 => ?_) (fun c_1 => ?_)
  · have b_2 : iv 2 2 py10_5 := iv_q c_1 (iv_c (2 : Int32) (a := 2) (b := 2) (by decide))
    refine lv_aload_n hx hb dX6_numberUpTo_15 rfl (lv_at hl 0 rfl) ?_
    refine va_get (ci := 6) (v := .int py10_8) (C := RX6) (T := TX6) (N := 9) hx hb hg inX6 hown hK hP 1 rfl rfl 8 (by decide) (hg _ q_1_145) (fun _ h9 => h9) rfl dX6_numberUpTo_16 ?_
    refine lv_iload_n hx hb dX6_numberUpTo_19 rfl (lv_at hl 1 rfl) ?_
    refine lv_icmp_le (tgt := 30) hx hb dX6_numberUpTo_20 (by decide) (fun c_3 => ?_) (fun c_3 => ?_)
    · have b_4 : iv 0 2147483647 a1 := iv_e2 c_3 bpy10_8 (iv_top a1) (by decide)
      refine lv_aload_n hx hb dX6_numberUpTo_30 rfl (lv_at hl 0 rfl) ?_
      refine va_get (ci := 6) (v := .int py10_8) (C := RX6) (T := TX6) (N := 9) hx hb hg inX6 hown hK hP 1 rfl rfl 8 (by decide) (hg _ q_1_145) (fun _ h9 => h9) rfl dX6_numberUpTo_31 ?_
      refine lv_istore_n (lv' := [(2, .int py10_8), (0, .ref (y 10)), (1, .int a1)]) hx hb dX6_numberUpTo_34 rfl hl (by decide) rfl (fun ls hl => ?_)
      refine lv_aload_n hx hb dX6_numberUpTo_35 rfl (lv_at hl 1 rfl) ?_
      refine jnV (wr := []) (rnV (rest := []) ⟨hx, hb, hml, hown, hg⟩ (k_X6_step_0 l V y fy1 py10_1 py10_2 py10_4 py10_5 py10_6 py10_7 py10_8 tfy1 bpy10_4 bpy10_6 bpy10_7 bpy10_8) mt_X6_step q_2_108 ⟨Nat.le_of_ble_eq_true rfl, Nat.le_of_ble_eq_true rfl⟩ hK hP hD hS hA hE [0, 1] rfl rfl 1 rfl rfl rfl rfl hl.1 rfl (Nat.le_of_ble_eq_true rfl) dX6_numberUpTo_36 ⟨Nat.le_of_ble_eq_true rfl, Nat.le_of_ble_eq_true rfl⟩) hP hD hS hA [0, 1] [] rfl rfl rfl (by decide) (fun  w H locs hw hP hD hS => ?_)
      obtain ⟨v_5, v_6, v_7, v_8, v_9, v_10, bv_8, bv_9, bv_10, g_11, rfl⟩ := hw
      have hP : va_P V.1 vwCl [(y 1, aB V 900 fy1), (y 10, .inr (6, o6_riiriiiii (y 11) v_5 v_6 (y 1) py10_4 v_7 v_8 v_9 v_10))] H := hP
      have hD := cpD hP hD
      refine lv_iload_n hx hb dX6_numberUpTo_39 rfl (lv_at hl 0 rfl) ?_
      exact fiI hx hb hr hlk hK hP hD hS dX6_numberUpTo_40 (Nat.le_of_ble_eq_true rfl) (Nat.le_of_ble_eq_true rfl) (⟨v_5, v_6, v_7, v_8, v_9, v_10, bv_8, bv_9, bv_10, bpy10_8, (fun q9 h9 => by have h0_1 := RC_step bpy10_4.2 h9 g_11; exact RC_cg (RC_nu1 h9 c_1 c_3) h0_1), (fun b9 h8 h9 => Int.le_trans (Int32.le_iff_toInt_le.mp c_3) h8), (fun q9 h9 w9 => (RC_n1 h9 c_1).2), rfl⟩)
    · have b_12 : iv (-2147483648) 998 a1 := iv_l1 (Int32.not_le.mp c_3) (iv_top a1) bpy10_8 (by decide)
      refine lv_aload_n hx hb dX6_numberUpTo_23 rfl (lv_at hl 0 rfl) ?_
      refine lv_iconst (v := 3) hx hb dX6_numberUpTo_24 (by decide) ?_
      refine jnV (wr := [(y 1, aB V 900 fy1)]) (rnV (rest := []) ⟨hx, hb, hml, hown, hg⟩ (k_X6_fail_0 l V y 3 py10_1 py10_2 py10_4 py10_5 py10_6 py10_7 py10_8 bpy10_4 bpy10_6 bpy10_7 bpy10_8) mt_X6_fail q_2_116 ⟨Nat.le_of_ble_eq_true rfl, Nat.le_of_ble_eq_true rfl⟩ hK hP hD hS hA hE [1] rfl rfl 1 rfl rfl rfl rfl hl.1 rfl (Nat.le_of_ble_eq_true rfl) dX6_numberUpTo_25 ⟨Nat.le_of_ble_eq_true rfl, Nat.le_of_ble_eq_true rfl⟩) hP hD hS hA [1] [0] rfl rfl rfl (by decide) (fun  w H locs hw hP hD hS => ?_)
      obtain ⟨v_13, v_14, v_15, g_16, rfl⟩ := hw
      have hP : va_P V.1 vwCl [(y 1, aB V 900 fy1), (y 10, .inr (6, o6_riiriiiii (y 11) v_13 v_14 (y 1) py10_4 v_15 py10_6 py10_7 py10_8))] H := hP
      have hD := cpD hP hD
      refine lv_iconst (v := 0) hx hb dX6_numberUpTo_28 (by decide) ?_
      exact fiI hx hb hr hlk hK hP hD hS dX6_numberUpTo_29 (Nat.le_of_ble_eq_true rfl) (Nat.le_of_ble_eq_true rfl) (⟨v_13, v_14, v_15, py10_6, py10_7, py10_8, bpy10_6, bpy10_7, bpy10_8, (iv_c (0 : Int32) (by decide)), (fun q9 h9 => by have h0_1 := RC_fail h9 g_16 (by decide); exact RC_cg (RC_nu3 h9 c_1 c_3) h0_1), (fun b9 h8 h9 => Int.le_trans (by decide) h9), (fun q9 h9 w9 => by have n9 := RC_n1 h9 c_1; rw [nuP_3 n9.1 (by rw [← n9.2]; exact c_3)] at w9; exact absurd w9 (fl_n0 (by decide) _)), rfl⟩)
  · refine lv_aload_n hx hb dX6_numberUpTo_8 rfl (lv_at hl 0 rfl) ?_
    refine lv_iconst (v := 2) hx hb dX6_numberUpTo_9 (by decide) ?_
    refine jnV (wr := [(y 1, aB V 900 fy1)]) (rnV (rest := []) ⟨hx, hb, hml, hown, hg⟩ (k_X6_fail_0 l V y 2 py10_1 py10_2 py10_4 py10_5 py10_6 py10_7 py10_8 bpy10_4 bpy10_6 bpy10_7 bpy10_8) mt_X6_fail q_2_116 ⟨Nat.le_of_ble_eq_true rfl, Nat.le_of_ble_eq_true rfl⟩ hK hP hD hS hA hE [1] rfl rfl 1 rfl rfl rfl rfl hl.1 rfl (Nat.le_of_ble_eq_true rfl) dX6_numberUpTo_10 ⟨Nat.le_of_ble_eq_true rfl, Nat.le_of_ble_eq_true rfl⟩) hP hD hS hA [1] [0] rfl rfl rfl (by decide) (fun  w H locs hw hP hD hS => ?_)
    obtain ⟨v_17, v_18, v_19, g_20, rfl⟩ := hw
    have hP : va_P V.1 vwCl [(y 1, aB V 900 fy1), (y 10, .inr (6, o6_riiriiiii (y 11) v_17 v_18 (y 1) py10_4 v_19 py10_6 py10_7 py10_8))] H := hP
    have hD := cpD hP hD
    refine lv_iconst (v := 0) hx hb dX6_numberUpTo_13 (by decide) ?_
    exact fiI hx hb hr hlk hK hP hD hS dX6_numberUpTo_14 (Nat.le_of_ble_eq_true rfl) (Nat.le_of_ble_eq_true rfl) (⟨v_17, v_18, v_19, py10_6, py10_7, py10_8, bpy10_6, bpy10_7, bpy10_8, (iv_c (0 : Int32) (by decide)), (fun q9 h9 => by have h0_1 := RC_fail h9 g_20 (by decide); exact RC_cg (nuP_0 (RC_n0 h9 c_1)) h0_1), (fun b9 h8 h9 => Int.le_trans (by decide) h9), (fun q9 h9 w9 => by rw [nuP_0 (RC_n0 h9 c_1)] at w9; exact absurd w9 (fl_n0 (by decide) _)), rfl⟩)
