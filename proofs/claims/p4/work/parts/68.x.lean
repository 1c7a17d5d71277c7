set_option maxHeartbeats 4000000 in
set_option maxRecDepth 100000 in
theorem k_X10_common_25 (l : Launch) (V : GV) (k0 : Int64) (k1 : Int64) (bk0 : ivL (-8191) 8191 k0) (hf0 : ¬ k0 = 0) (hf1 : (k1 : Int64).toInt.natAbs < (k0 : Int64).toInt.natAbs) : Ct l V yX10_common (.code yX10_common cX10_common 4 (some .long)) 26 [.long k0, .long k1] [] 0 0 (QL V (fun (r : Int64) (w : va_W) => (¬ r = 0) ∧ w = [])) := by
  refine Ct.of (by decide) (Nat.le_of_ble_eq_true rfl) (fun p e s m below meth c A ls hx hb hr hml hown hlk hnm hg hP hK hD hE hA hS hl => ?_)
  have hl : lv_has ls 4 [(0, .long k0), (2, .long k1)] := hl
  refine lv_lload_n hx hb dX10_common_0 rfl (lv_at hl 1 rfl) ?_
  refine lv_lconst (v := 0) hx hb dX10_common_1 (by decide) ?_
  refine W.lcmp hx hb dX10_common_2 ?_
  refine lv_if_ne (tgt := 10) hx hb dX10_common_3 (by decide) (fun c_1 => ?_) (fun c_1 => ?_)
  · replace c_1 : ¬ k1 = (0 : Int64) := fun z => c_1 ((lg_cmp_eq _ _).mpr z)
    refine lv_lload_n hx hb dX10_common_10 rfl (lv_at hl 1 rfl) ?_
    refine lv_lload_n hx hb dX10_common_11 rfl (lv_at hl 0 rfl) ?_
    refine lv_lload_n hx hb dX10_common_12 rfl (lv_at hl 1 rfl) ?_
    refine lv_lrem hx hb dX10_common_13 c_1 ?_
    refine lv_topl (fun j_2 ej_2 => ?_)
    have b_3 : ivL (-4095) 4095 j_2 := com_D (M := 8191) (K := 4095) ej_2 c_1 bk0 hf1 (by decide)
    refine jnL (wr := []) (rnS (rest := []) ⟨hx, hb, hml, hown, hg⟩ (k_X10_common_24 l V k1 j_2 b_3 (Or.inl c_1)) mt_X10_common q_8_124 ⟨Nat.le_of_ble_eq_true rfl, Nat.le_of_ble_eq_true rfl⟩ hK hP hD hS hA hE [] rfl rfl rfl hl.1 rfl (Nat.le_of_ble_eq_true rfl) dX10_common_14 ⟨Nat.le_of_ble_eq_true rfl, Nat.le_of_ble_eq_true rfl⟩) hP hD hS hA [] [] rfl rfl rfl (by decide) (fun r_4 w H locs hw hP hD hS => ?_)
    obtain ⟨g_5, rfl⟩ := hw
    have hP : va_P V.1 vwCl [] H := hP
    have hD : va_D A [] := hD
    exact fiL hx hb hr hlk hK hP hD hS dX10_common_17 (Nat.le_of_ble_eq_true rfl) (Nat.le_of_ble_eq_true rfl) (⟨g_5, rfl⟩)
  · replace c_1 : k1 = (0 : Int64) := (lg_cmp_eq _ _).mp c_1
    have b_6 : ivL 0 0 k1 := ivL_q c_1 (ivL_c (0 : Int64) (a := 0) (b := 0) (by decide))
    refine lv_lload_n hx hb dX10_common_6 rfl (lv_at hl 0 rfl) ?_
    refine lv_goto (tgt := 17) hx hb dX10_common_7 (by decide) ?_
    exact fiL hx hb hr hlk hK hP hD hS dX10_common_17 (Nat.le_of_ble_eq_true rfl) (Nat.le_of_ble_eq_true rfl) (⟨hf0, rfl⟩)
set_option maxHeartbeats 4000000 in
set_option maxRecDepth 100000 in
theorem k_X10_common_26 (l : Launch) (V : GV) (k0 : Int64) (k1 : Int64) (bk1 : ivL (-8191) 8191 k1) (hf0 : ¬ k0 = 0 ∨ ¬ k1 = 0) : Ct l V yX10_common (.code yX10_common cX10_common 4 (some .long)) 27 [.long k0, .long k1] [] 0 0 (QL V (fun (r : Int64) (w : va_W) => (¬ r = 0) ∧ w = [])) := by
  refine Ct.of (by decide) (Nat.le_of_ble_eq_true rfl) (fun p e s m below meth c A ls hx hb hr hml hown hlk hnm hg hP hK hD hE hA hS hl => ?_)
  have hl : lv_has ls 4 [(0, .long k0), (2, .long k1)] := hl
  refine lv_lload_n hx hb dX10_common_0 rfl (lv_at hl 1 rfl) ?_
  refine lv_lconst (v := 0) hx hb dX10_common_1 (by decide) ?_
  refine W.lcmp hx hb dX10_common_2 ?_
  refine lv_if_ne (tgt := 10) hx hb dX10_common_3 (by decide) (fun c_1 => ?_) (fun c_1 => ?_)
  · replace c_1 : ¬ k1 = (0 : Int64) := fun z => c_1 ((lg_cmp_eq _ _).mpr z)
    refine lv_lload_n hx hb dX10_common_10 rfl (lv_at hl 1 rfl) ?_
    refine lv_lload_n hx hb dX10_common_11 rfl (lv_at hl 0 rfl) ?_
    refine lv_lload_n hx hb dX10_common_12 rfl (lv_at hl 1 rfl) ?_
    refine lv_lrem hx hb dX10_common_13 c_1 ?_
    refine lv_topl (fun j_2 ej_2 => ?_)
    refine jnL (wr := []) (rnS (rest := []) ⟨hx, hb, hml, hown, hg⟩ (k_X10_common_25 l V k1 j_2 bk1 c_1 (com_C ej_2 c_1)) mt_X10_common q_8_124 ⟨Nat.le_of_ble_eq_true rfl, Nat.le_of_ble_eq_true rfl⟩ hK hP hD hS hA hE [] rfl rfl rfl hl.1 rfl (Nat.le_of_ble_eq_true rfl) dX10_common_14 ⟨Nat.le_of_ble_eq_true rfl, Nat.le_of_ble_eq_true rfl⟩) hP hD hS hA [] [] rfl rfl rfl (by decide) (fun r_3 w H locs hw hP hD hS => ?_)
    obtain ⟨g_4, rfl⟩ := hw
    have hP : va_P V.1 vwCl [] H := hP
    have hD : va_D A [] := hD
    exact fiL hx hb hr hlk hK hP hD hS dX10_common_17 (Nat.le_of_ble_eq_true rfl) (Nat.le_of_ble_eq_true rfl) (⟨g_4, rfl⟩)
  · replace c_1 : k1 = (0 : Int64) := (lg_cmp_eq _ _).mp c_1
    have b_5 : ivL 0 0 k1 := ivL_q c_1 (ivL_c (0 : Int64) (a := 0) (b := 0) (by decide))
    refine lv_lload_n hx hb dX10_common_6 rfl (lv_at hl 0 rfl) ?_
    refine lv_goto (tgt := 17) hx hb dX10_common_7 (by decide) ?_
    exact fiL hx hb hr hlk hK hP hD hS dX10_common_17 (Nat.le_of_ble_eq_true rfl) (Nat.le_of_ble_eq_true rfl) (⟨(hf0.elim id (fun q9 => absurd c_1 q9)), rfl⟩)
set_option maxHeartbeats 4000000 in
set_option maxRecDepth 100000 in
theorem k_X10_common_27 (l : Launch) (V : GV) (k0 : Int64) (k1 : Int64) (bk0 : ivL (-16383) 16383 k0) (hf0 : ¬ k0 = 0) (hf1 : (k1 : Int64).toInt.natAbs < (k0 : Int64).toInt.natAbs) : Ct l V yX10_common (.code yX10_common cX10_common 4 (some .long)) 28 [.long k0, .long k1] [] 0 0 (QL V (fun (r : Int64) (w : va_W) => (¬ r = 0) ∧ w = [])) := by
  refine Ct.of (by decide) (Nat.le_of_ble_eq_true rfl) (fun p e s m below meth c A ls hx hb hr hml hown hlk hnm hg hP hK hD hE hA hS hl => ?_)
  have hl : lv_has ls 4 [(0, .long k0), (2, .long k1)] := hl
  refine lv_lload_n hx hb dX10_common_0 rfl (lv_at hl 1 rfl) ?_
  refine lv_lconst (v := 0) hx hb dX10_common_1 (by decide) ?_
  refine W.lcmp hx hb dX10_common_2 ?_
  refine lv_if_ne (tgt := 10) hx hb dX10_common_3 (by decide) (fun c_1 => ?_) (fun c_1 => ?_)
  · replace c_1 : ¬ k1 = (0 : Int64) := fun z => c_1 ((lg_cmp_eq _ _).mpr z)
    refine lv_lload_n hx hb dX10_common_10 rfl (lv_at hl 1 rfl) ?_
    refine lv_lload_n hx hb dX10_common_11 rfl (lv_at hl 0 rfl) ?_
    refine lv_lload_n hx hb dX10_common_12 rfl (lv_at hl 1 rfl) ?_
    refine lv_lrem hx hb dX10_common_13 c_1 ?_
    refine lv_topl (fun j_2 ej_2 => ?_)
    have b_3 : ivL (-8191) 8191 j_2 := com_D (M := 16383) (K := 8191) ej_2 c_1 bk0 hf1 (by decide)
    refine jnL (wr := []) (rnS (rest := []) ⟨hx, hb, hml, hown, hg⟩ (k_X10_common_26 l V k1 j_2 b_3 (Or.inl c_1)) mt_X10_common q_8_124 ⟨Nat.le_of_ble_eq_true rfl, Nat.le_of_ble_eq_true rfl⟩ hK hP hD hS hA hE [] rfl rfl rfl hl.1 rfl (Nat.le_of_ble_eq_true rfl) dX10_common_14 ⟨Nat.le_of_ble_eq_true rfl, Nat.le_of_ble_eq_true rfl⟩) hP hD hS hA [] [] rfl rfl rfl (by decide) (fun r_4 w H locs hw hP hD hS => ?_)
    obtain ⟨g_5, rfl⟩ := hw
    have hP : va_P V.1 vwCl [] H := hP
    have hD : va_D A [] := hD
    exact fiL hx hb hr hlk hK hP hD hS dX10_common_17 (Nat.le_of_ble_eq_true rfl) (Nat.le_of_ble_eq_true rfl) (⟨g_5, rfl⟩)
  · replace c_1 : k1 = (0 : Int64) := (lg_cmp_eq _ _).mp c_1
    have b_6 : ivL 0 0 k1 := ivL_q c_1 (ivL_c (0 : Int64) (a := 0) (b := 0) (by decide))
    refine lv_lload_n hx hb dX10_common_6 rfl (lv_at hl 0 rfl) ?_
    refine lv_goto (tgt := 17) hx hb dX10_common_7 (by decide) ?_
    exact fiL hx hb hr hlk hK hP hD hS dX10_common_17 (Nat.le_of_ble_eq_true rfl) (Nat.le_of_ble_eq_true rfl) (⟨hf0, rfl⟩)
set_option maxHeartbeats 4000000 in
set_option maxRecDepth 100000 in
theorem k_X10_common_28 (l : Launch) (V : GV) (k0 : Int64) (k1 : Int64) (bk1 : ivL (-16383) 16383 k1) (hf0 : ¬ k0 = 0 ∨ ¬ k1 = 0) : Ct l V yX10_common (.code yX10_common cX10_common 4 (some .long)) 29 [.long k0, .long k1] [] 0 0 (QL V (fun (r : Int64) (w : va_W) => (¬ r = 0) ∧ w = [])) := by
  refine Ct.of (by decide) (Nat.le_of_ble_eq_true rfl) (fun p e s m below meth c A ls hx hb hr hml hown hlk hnm hg hP hK hD hE hA hS hl => ?_)
  have hl : lv_has ls 4 [(0, .long k0), (2, .long k1)] := hl
  refine lv_lload_n hx hb dX10_common_0 rfl (lv_at hl 1 rfl) ?_
  refine lv_lconst (v := 0) hx hb dX10_common_1 (by decide) ?_
  refine W.lcmp hx hb dX10_common_2 ?_
  refine lv_if_ne (tgt := 10) hx hb dX10_common_3 (by decide) (fun c_1 => ?_) (fun c_1 => ?_)
  · replace c_1 : ¬ k1 = (0 : Int64) := fun z => c_1 ((lg_cmp_eq _ _).mpr z)
    refine lv_lload_n hx hb dX10_common_10 rfl (lv_at hl 1 rfl) ?_
    refine lv_lload_n hx hb dX10_common_11 rfl (lv_at hl 0 rfl) ?_
    refine lv_lload_n hx hb dX10_common_12 rfl (lv_at hl 1 rfl) ?_
    refine lv_lrem hx hb dX10_common_13 c_1 ?_
    refine lv_topl (fun j_2 ej_2 => ?_)
    refine jnL (wr := []) (rnS (rest := []) ⟨hx, hb, hml, hown, hg⟩ (k_X10_common_27 l V k1 j_2 bk1 c_1 (com_C ej_2 c_1)) mt_X10_common q_8_124 ⟨Nat.le_of_ble_eq_true rfl, Nat.le_of_ble_eq_true rfl⟩ hK hP hD hS hA hE [] rfl rfl rfl hl.1 rfl (Nat.le_of_ble_eq_true rfl) dX10_common_14 ⟨Nat.le_of_ble_eq_true rfl, Nat.le_of_ble_eq_true rfl⟩) hP hD hS hA [] [] rfl rfl rfl (by decide) (fun r_3 w H locs hw hP hD hS => ?_)
    obtain ⟨g_4, rfl⟩ := hw
    have hP : va_P V.1 vwCl [] H := hP
    have hD : va_D A [] := hD
    exact fiL hx hb hr hlk hK hP hD hS dX10_common_17 (Nat.le_of_ble_eq_true rfl) (Nat.le_of_ble_eq_true rfl) (⟨g_4, rfl⟩)
  · replace c_1 : k1 = (0 : Int64) := (lg_cmp_eq _ _).mp c_1
    have b_5 : ivL 0 0 k1 := ivL_q c_1 (ivL_c (0 : Int64) (a := 0) (b := 0) (by decide))
    refine lv_lload_n hx hb dX10_common_6 rfl (lv_at hl 0 rfl) ?_
    refine lv_goto (tgt := 17) hx hb dX10_common_7 (by decide) ?_
    exact fiL hx hb hr hlk hK hP hD hS dX10_common_17 (Nat.le_of_ble_eq_true rfl) (Nat.le_of_ble_eq_true rfl) (⟨(hf0.elim id (fun q9 => absurd c_1 q9)), rfl⟩)
set_option maxHeartbeats 4000000 in
set_option maxRecDepth 100000 in
theorem k_X10_common_29 (l : Launch) (V : GV) (k0 : Int64) (k1 : Int64) (bk0 : ivL (-32767) 32767 k0) (hf0 : ¬ k0 = 0) (hf1 : (k1 : Int64).toInt.natAbs < (k0 : Int64).toInt.natAbs) : Ct l V yX10_common (.code yX10_common cX10_common 4 (some .long)) 30 [.long k0, .long k1] [] 0 0 (QL V (fun (r : Int64) (w : va_W) => (¬ r = 0) ∧ w = [])) := by
  refine Ct.of (by decide) (Nat.le_of_ble_eq_true rfl) (fun p e s m below meth c A ls hx hb hr hml hown hlk hnm hg hP hK hD hE hA hS hl => ?_)
  have hl : lv_has ls 4 [(0, .long k0), (2, .long k1)] := hl
  refine lv_lload_n hx hb dX10_common_0 rfl (lv_at hl 1 rfl) ?_
  refine lv_lconst (v := 0) hx hb dX10_common_1 (by decide) ?_
  refine W.lcmp hx hb dX10_common_2 ?_
  refine lv_if_ne (tgt := 10) hx hb dX10_common_3 (by decide) (fun c_1 => ?_) (fun c_1 => ?_)
  · replace c_1 : ¬ k1 = (0 : Int64) := fun z => c_1 ((lg_cmp_eq _ _).mpr z)
    refine lv_lload_n hx hb dX10_common_10 rfl (lv_at hl 1 rfl) ?_
    refine lv_lload_n hx hb dX10_common_11 rfl (lv_at hl 0 rfl) ?_
    refine lv_lload_n hx hb dX10_common_12 rfl (lv_at hl 1 rfl) ?_
    refine lv_lrem hx hb dX10_common_13 c_1 ?_
    refine lv_topl (fun j_2 ej_2 => ?_)
    have b_3 : ivL (-16383) 16383 j_2 := com_D (M := 32767) (K := 16383) ej_2 c_1 bk0 hf1 (by decide)
    refine jnL (wr := []) (rnS (rest := []) ⟨hx, hb, hml, hown, hg⟩ (k_X10_common_28 l V k1 j_2 b_3 (Or.inl c_1)) mt_X10_common q_8_124 ⟨Nat.le_of_ble_eq_true rfl, Nat.le_of_ble_eq_true rfl⟩ hK hP hD hS hA hE [] rfl rfl rfl hl.1 rfl (Nat.le_of_ble_eq_true rfl) dX10_common_14 ⟨Nat.le_of_ble_eq_true rfl, Nat.le_of_ble_eq_true rfl⟩) hP hD hS hA [] [] rfl rfl rfl (by decide) (fun r_4 w H locs hw hP hD hS => ?_)
    obtain ⟨g_5, rfl⟩ := hw
    have hP : va_P V.1 vwCl [] H := hP
    have hD : va_D A [] := hD
    exact fiL hx hb hr hlk hK hP hD hS dX10_common_17 (Nat.le_of_ble_eq_true rfl) (Nat.le_of_ble_eq_true rfl) (⟨g_5, rfl⟩)
  · replace c_1 : k1 = (0 : Int64) := (lg_cmp_eq _ _).mp c_1
    have b_6 : ivL 0 0 k1 := ivL_q c_1 (ivL_c (0 : Int64) (a := 0) (b := 0) (by decide))
    refine lv_lload_n hx hb dX10_common_6 rfl (lv_at hl 0 rfl) ?_
    refine lv_goto (tgt := 17) hx hb dX10_common_7 (by decide) ?_
    exact fiL hx hb hr hlk hK hP hD hS dX10_common_17 (Nat.le_of_ble_eq_true rfl) (Nat.le_of_ble_eq_true rfl) (⟨hf0, rfl⟩)
set_option maxHeartbeats 4000000 in
set_option maxRecDepth 100000 in
theorem k_X10_common_30 (l : Launch) (V : GV) (k0 : Int64) (k1 : Int64) (bk1 : ivL (-32767) 32767 k1) (hf0 : ¬ k0 = 0 ∨ ¬ k1 = 0) : Ct l V yX10_common (.code yX10_common cX10_common 4 (some .long)) 31 [.long k0, .long k1] [] 0 0 (QL V (fun (r : Int64) (w : va_W) => (¬ r = 0) ∧ w = [])) := by
  refine Ct.of (by decide) (Nat.le_of_ble_eq_true rfl) (fun p e s m below meth c A ls hx hb hr hml hown hlk hnm hg hP hK hD hE hA hS hl => ?_)
  have hl : lv_has ls 4 [(0, .long k0), (2, .long k1)] := hl
  refine lv_lload_n hx hb dX10_common_0 rfl (lv_at hl 1 rfl) ?_
  refine lv_lconst (v := 0) hx hb dX10_common_1 (by decide) ?_
  refine W.lcmp hx hb dX10_common_2 ?_
  refine lv_if_ne (tgt := 10) hx hb dX10_common_3 (by decide) (fun c_1 => ?_) (fun c_1 => ?_)
  · replace c_1 : ¬ k1 = (0 : Int64) := fun z => c_1 ((lg_cmp_eq _ _).mpr z)
    refine lv_lload_n hx hb dX10_common_10 rfl (lv_at hl 1 rfl) ?_
    refine lv_lload_n hx hb dX10_common_11 rfl (lv_at hl 0 rfl) ?_
    refine lv_lload_n hx hb dX10_common_12 rfl (lv_at hl 1 rfl) ?_
    refine lv_lrem hx hb dX10_common_13 c_1 ?_
    refine lv_topl (fun j_2 ej_2 => ?_)
    refine jnL (wr := []) (rnS (rest := []) ⟨hx, hb, hml, hown, hg⟩ (k_X10_common_29 l V k1 j_2 bk1 c_1 (com_C ej_2 c_1)) mt_X10_common q_8_124 ⟨Nat.le_of_ble_eq_true rfl, Nat.le_of_ble_eq_true rfl⟩ hK hP hD hS hA hE [] rfl rfl rfl hl.1 rfl (Nat.le_of_ble_eq_true rfl) dX10_common_14 ⟨Nat.le_of_ble_eq_true rfl, Nat.le_of_ble_eq_true rfl⟩) hP hD hS hA [] [] rfl rfl rfl (by decide) (fun r_3 w H locs hw hP hD hS => ?_)
    obtain ⟨g_4, rfl⟩ := hw
    have hP : va_P V.1 vwCl [] H := hP
    have hD : va_D A [] := hD
    exact fiL hx hb hr hlk hK hP hD hS dX10_common_17 (Nat.le_of_ble_eq_true rfl) (Nat.le_of_ble_eq_true rfl) (⟨g_4, rfl⟩)
  · replace c_1 : k1 = (0 : Int64) := (lg_cmp_eq _ _).mp c_1
    have b_5 : ivL 0 0 k1 := ivL_q c_1 (ivL_c (0 : Int64) (a := 0) (b := 0) (by decide))
    refine lv_lload_n hx hb dX10_common_6 rfl (lv_at hl 0 rfl) ?_
    refine lv_goto (tgt := 17) hx hb dX10_common_7 (by decide) ?_
    exact fiL hx hb hr hlk hK hP hD hS dX10_common_17 (Nat.le_of_ble_eq_true rfl) (Nat.le_of_ble_eq_true rfl) (⟨(hf0.elim id (fun q9 => absurd c_1 q9)), rfl⟩)
set_option maxHeartbeats 4000000 in
set_option maxRecDepth 100000 in
theorem k_X10_common_31 (l : Launch) (V : GV) (k0 : Int64) (k1 : Int64) (bk0 : ivL (-65535) 65535 k0) (hf0 : ¬ k0 = 0) (hf1 : (k1 : Int64).toInt.natAbs < (k0 : Int64).toInt.natAbs) : Ct l V yX10_common (.code yX10_common cX10_common 4 (some .long)) 32 [.long k0, .long k1] [] 0 0 (QL V (fun (r : Int64) (w : va_W) => (¬ r = 0) ∧ w = [])) := by
  refine Ct.of (by decide) (Nat.le_of_ble_eq_true rfl) (fun p e s m below meth c A ls hx hb hr hml hown hlk hnm hg hP hK hD hE hA hS hl => ?_)
  have hl : lv_has ls 4 [(0, .long k0), (2, .long k1)] := hl
  refine lv_lload_n hx hb dX10_common_0 rfl (lv_at hl 1 rfl) ?_
  refine lv_lconst (v := 0) hx hb dX10_common_1 (by decide) ?_
  refine W.lcmp hx hb dX10_common_2 ?_
  refine lv_if_ne (tgt := 10) hx hb dX10_common_3 (by decide) (fun c_1 => ?_) (fun c_1 => ?_)
  · replace c_1 : ¬ k1 = (0 : Int64) := fun z => c_1 ((lg_cmp_eq _ _).mpr z)
    refine lv_lload_n hx hb dX10_common_10 rfl (lv_at hl 1 rfl) ?_
    refine lv_lload_n hx hb dX10_common_11 rfl (lv_at hl 0 rfl) ?_
    refine lv_lload_n hx hb dX10_common_12 rfl (lv_at hl 1 rfl) ?_
    refine lv_lrem hx hb dX10_common_13 c_1 ?_
    refine lv_topl (fun j_2 ej_2 => ?_)
    have b_3 : ivL (-32767) 32767 j_2 := com_D (M := 65535) (K := 32767) ej_2 c_1 bk0 hf1 (by decide)
    refine jnL (wr := []) (rnS (rest := []) ⟨hx, hb, hml, hown, hg⟩ (k_X10_common_30 l V k1 j_2 b_3 (Or.inl c_1)) mt_X10_common q_8_124 ⟨Nat.le_of_ble_eq_true rfl, Nat.le_of_ble_eq_true rfl⟩ hK hP hD hS hA hE [] rfl rfl rfl hl.1 rfl (Nat.le_of_ble_eq_true rfl) dX10_common_14 ⟨Nat.le_of_ble_eq_true rfl, Nat.le_of_ble_eq_true rfl⟩) hP hD hS hA [] [] rfl rfl rfl (by decide) (fun r_4 w H locs hw hP hD hS => ?_)
    obtain ⟨g_5, rfl⟩ := hw
    have hP : va_P V.1 vwCl [] H := hP
    have hD : va_D A [] := hD
    exact fiL hx hb hr hlk hK hP hD hS dX10_common_17 (Nat.le_of_ble_eq_true rfl) (Nat.le_of_ble_eq_true rfl) (⟨g_5, rfl⟩)
  · replace c_1 : k1 = (0 : Int64) := (lg_cmp_eq _ _).mp c_1
    have b_6 : ivL 0 0 k1 := ivL_q c_1 (ivL_c (0 : Int64) (a := 0) (b := 0) (by decide))
    refine lv_lload_n hx hb dX10_common_6 rfl (lv_at hl 0 rfl) ?_
    refine lv_goto (tgt := 17) hx hb dX10_common_7 (by decide) ?_
    exact fiL hx hb hr hlk hK hP hD hS dX10_common_17 (Nat.le_of_ble_eq_true rfl) (Nat.le_of_ble_eq_true rfl) (⟨hf0, rfl⟩)
set_option maxHeartbeats 4000000 in
set_option maxRecDepth 100000 in
theorem k_X10_common_32 (l : Launch) (V : GV) (k0 : Int64) (k1 : Int64) (bk1 : ivL (-65535) 65535 k1) (hf0 : ¬ k0 = 0 ∨ ¬ k1 = 0) : Ct l V yX10_common (.code yX10_common cX10_common 4 (some .long)) 33 [.long k0, .long k1] [] 0 0 (QL V (fun (r : Int64) (w : va_W) => (¬ r = 0) ∧ w = [])) := by
  refine Ct.of (by decide) (Nat.le_of_ble_eq_true rfl) (fun p e s m below meth c A ls hx hb hr hml hown hlk hnm hg hP hK hD hE hA hS hl => ?_)
  have hl : lv_has ls 4 [(0, .long k0), (2, .long k1)] := hl
  refine lv_lload_n hx hb dX10_common_0 rfl (lv_at hl 1 rfl) ?_
  refine lv_lconst (v := 0) hx hb dX10_common_1 (by decide) ?_
  refine W.lcmp hx hb dX10_common_2 ?_
  refine lv_if_ne (tgt := 10) hx hb dX10_common_3 (by decide) (fun c_1 => ?_) (fun c_1 => ?_)
  · replace c_1 : ¬ k1 = (0 : Int64) := fun z => c_1 ((lg_cmp_eq _ _).mpr z)
    refine lv_lload_n hx hb dX10_common_10 rfl (lv_at hl 1 rfl) ?_
    refine lv_lload_n hx hb dX10_common_11 rfl (lv_at hl 0 rfl) ?_
    refine lv_lload_n hx hb dX10_common_12 rfl (lv_at hl 1 rfl) ?_
    refine lv_lrem hx hb dX10_common_13 c_1 ?_
    refine lv_topl (fun j_2 ej_2 => ?_)
    refine jnL (wr := []) (rnS (rest := []) ⟨hx, hb, hml, hown, hg⟩ (k_X10_common_31 l V k1 j_2 bk1 c_1 (com_C ej_2 c_1)) mt_X10_common q_8_124 ⟨Nat.le_of_ble_eq_true rfl, Nat.le_of_ble_eq_true rfl⟩ hK hP hD hS hA hE [] rfl rfl rfl hl.1 rfl (Nat.le_of_ble_eq_true rfl) dX10_common_14 ⟨Nat.le_of_ble_eq_true rfl, Nat.le_of_ble_eq_true rfl⟩) hP hD hS hA [] [] rfl rfl rfl (by decide) (fun r_3 w H locs hw hP hD hS => ?_)
    obtain ⟨g_4, rfl⟩ := hw
    have hP : va_P V.1 vwCl [] H := hP
    have hD : va_D A [] := hD
    exact fiL hx hb hr hlk hK hP hD hS dX10_common_17 (Nat.le_of_ble_eq_true rfl) (Nat.le_of_ble_eq_true rfl) (⟨g_4, rfl⟩)
  · replace c_1 : k1 = (0 : Int64) := (lg_cmp_eq _ _).mp c_1
    have b_5 : ivL 0 0 k1 := ivL_q c_1 (ivL_c (0 : Int64) (a := 0) (b := 0) (by decide))
    refine lv_lload_n hx hb dX10_common_6 rfl (lv_at hl 0 rfl) ?_
    refine lv_goto (tgt := 17) hx hb dX10_common_7 (by decide) ?_
    exact fiL hx hb hr hlk hK hP hD hS dX10_common_17 (Nat.le_of_ble_eq_true rfl) (Nat.le_of_ble_eq_true rfl) (⟨(hf0.elim id (fun q9 => absurd c_1 q9)), rfl⟩)
set_option maxHeartbeats 4000000 in
set_option maxRecDepth 100000 in
theorem k_X10_common_33 (l : Launch) (V : GV) (k0 : Int64) (k1 : Int64) (bk0 : ivL (-131071) 131071 k0) (hf0 : ¬ k0 = 0) (hf1 : (k1 : Int64).toInt.natAbs < (k0 : Int64).toInt.natAbs) : Ct l V yX10_common (.code yX10_common cX10_common 4 (some .long)) 34 [.long k0, .long k1] [] 0 0 (QL V (fun (r : Int64) (w : va_W) => (¬ r = 0) ∧ w = [])) := by
  refine Ct.of (by decide) (Nat.le_of_ble_eq_true rfl) (fun p e s m below meth c A ls hx hb hr hml hown hlk hnm hg hP hK hD hE hA hS hl => ?_)
  have hl : lv_has ls 4 [(0, .long k0), (2, .long k1)] := hl
  refine lv_lload_n hx hb dX10_common_0 rfl (lv_at hl 1 rfl) ?_
  refine lv_lconst (v := 0) hx hb dX10_common_1 (by decide) ?_
  refine W.lcmp hx hb dX10_common_2 ?_
  refine lv_if_ne (tgt := 10) hx hb dX10_common_3 (by decide) (fun c_1 => ?_) (fun c_1 => ?_)
  · replace c_1 : ¬ k1 = (0 : Int64) := fun z => c_1 ((lg_cmp_eq _ _).mpr z)
    refine lv_lload_n hx hb dX10_common_10 rfl (lv_at hl 1 rfl) ?_
    refine lv_lload_n hx hb dX10_common_11 rfl (lv_at hl 0 rfl) ?_
    refine lv_lload_n hx hb dX10_common_12 rfl (lv_at hl 1 rfl) ?_
    refine lv_lrem hx hb dX10_common_13 c_1 ?_
    refine lv_topl (fun j_2 ej_2 => ?_)
    have b_3 : ivL (-65535) 65535 j_2 := com_D (M := 131071) (K := 65535) ej_2 c_1 bk0 hf1 (by decide)
    refine jnL (wr := []) (rnS (rest := []) ⟨hx, hb, hml, hown, hg⟩ (k_X10_common_32 l V k1 j_2 b_3 (Or.inl c_1)) mt_X10_common q_8_124 ⟨Nat.le_of_ble_eq_true rfl, Nat.le_of_ble_eq_true rfl⟩ hK hP hD hS hA hE [] rfl rfl rfl hl.1 rfl (Nat.le_of_ble_eq_true rfl) dX10_common_14 ⟨Nat.le_of_ble_eq_true rfl, Nat.le_of_ble_eq_true rfl⟩) hP hD hS hA [] [] rfl rfl rfl (by decide) (fun r_4 w H locs hw hP hD hS => ?_)
    obtain ⟨g_5, rfl⟩ := hw
    have hP : va_P V.1 vwCl [] H := hP
    have hD : va_D A [] := hD
    exact fiL hx hb hr hlk hK hP hD hS dX10_common_17 (Nat.le_of_ble_eq_true rfl) (Nat.le_of_ble_eq_true rfl) (⟨g_5, rfl⟩)
  · replace c_1 : k1 = (0 : Int64) := (lg_cmp_eq _ _).mp c_1
    have b_6 : ivL 0 0 k1 := ivL_q c_1 (ivL_c (0 : Int64) (a := 0) (b := 0) (by decide))
    refine lv_lload_n hx hb dX10_common_6 rfl (lv_at hl 0 rfl) ?_
    refine lv_goto (tgt := 17) hx hb dX10_common_7 (by decide) ?_
    exact fiL hx hb hr hlk hK hP hD hS dX10_common_17 (Nat.le_of_ble_eq_true rfl) (Nat.le_of_ble_eq_true rfl) (⟨hf0, rfl⟩)
set_option maxHeartbeats 4000000 in
set_option maxRecDepth 100000 in
theorem k_X10_common_34 (l : Launch) (V : GV) (k0 : Int64) (k1 : Int64) (bk1 : ivL (-131071) 131071 k1) (hf0 : ¬ k0 = 0 ∨ ¬ k1 = 0) : Ct l V yX10_common (.code yX10_common cX10_common 4 (some .long)) 35 [.long k0, .long k1] [] 0 0 (QL V (fun (r : Int64) (w : va_W) => (¬ r = 0) ∧ w = [])) := by
  refine Ct.of (by decide) (Nat.le_of_ble_eq_true rfl) (fun p e s m below meth c A ls hx hb hr hml hown hlk hnm hg hP hK hD hE hA hS hl => ?_)
  have hl : lv_has ls 4 [(0, .long k0), (2, .long k1)] := hl
  refine lv_lload_n hx hb dX10_common_0 rfl (lv_at hl 1 rfl) ?_
  refine lv_lconst (v := 0) hx hb dX10_common_1 (by decide) ?_
  refine W.lcmp hx hb dX10_common_2 ?_
  refine lv_if_ne (tgt := 10) hx hb dX10_common_3 (by decide) (fun c_1 => ?_) (fun c_1 => ?_)
  · replace c_1 : ¬ k1 = (0 : Int64) := fun z => c_1 ((lg_cmp_eq _ _).mpr z)
    refine lv_lload_n hx hb dX10_common_10 rfl (lv_at hl 1 rfl) ?_
    refine lv_lload_n hx hb dX10_common_11 rfl (lv_at hl 0 rfl) ?_
    refine lv_lload_n hx hb dX10_common_12 rfl (lv_at hl 1 rfl) ?_
    refine lv_lrem hx hb dX10_common_13 c_1 ?_
    refine lv_topl (fun j_2 ej_2 => ?_)
    refine jnL (wr := []) (rnS (rest := []) ⟨hx, hb, hml, hown, hg⟩ (k_X10_common_33 l V k1 j_2 bk1 c_1 (com_C ej_2 c_1)) mt_X10_common q_8_124 ⟨Nat.le_of_ble_eq_true rfl, Nat.le_of_ble_eq_true rfl⟩ hK hP hD hS hA hE [] rfl rfl rfl hl.1 rfl (Nat.le_of_ble_eq_true rfl) dX10_common_14 ⟨Nat.le_of_ble_eq_true rfl, Nat.le_of_ble_eq_true rfl⟩) hP hD hS hA [] [] rfl rfl rfl (by decide) (fun r_3 w H locs hw hP hD hS => ?_)
    obtain ⟨g_4, rfl⟩ := hw
    have hP : va_P V.1 vwCl [] H := hP
    have hD : va_D A [] := hD
    exact fiL hx hb hr hlk hK hP hD hS dX10_common_17 (Nat.le_of_ble_eq_true rfl) (Nat.le_of_ble_eq_true rfl) (⟨g_4, rfl⟩)
  · replace c_1 : k1 = (0 : Int64) := (lg_cmp_eq _ _).mp c_1
    have b_5 : ivL 0 0 k1 := ivL_q c_1 (ivL_c (0 : Int64) (a := 0) (b := 0) (by decide))
    refine lv_lload_n hx hb dX10_common_6 rfl (lv_at hl 0 rfl) ?_
    refine lv_goto (tgt := 17) hx hb dX10_common_7 (by decide) ?_
    exact fiL hx hb hr hlk hK hP hD hS dX10_common_17 (Nat.le_of_ble_eq_true rfl) (Nat.le_of_ble_eq_true rfl) (⟨(hf0.elim id (fun q9 => absurd c_1 q9)), rfl⟩)
set_option maxHeartbeats 4000000 in
set_option maxRecDepth 100000 in
theorem k_X10_common_35 (l : Launch) (V : GV) (k0 : Int64) (k1 : Int64) (bk0 : ivL (-262143) 262143 k0) (hf0 : ¬ k0 = 0) (hf1 : (k1 : Int64).toInt.natAbs < (k0 : Int64).toInt.natAbs) : Ct l V yX10_common (.code yX10_common cX10_common 4 (some .long)) 36 [.long k0, .long k1] [] 0 0 (QL V (fun (r : Int64) (w : va_W) => (¬ r = 0) ∧ w = [])) := by
  refine Ct.of (by decide) (Nat.le_of_ble_eq_true rfl) (fun p e s m below meth c A ls hx hb hr hml hown hlk hnm hg hP hK hD hE hA hS hl => ?_)
  have hl : lv_has ls 4 [(0, .long k0), (2, .long k1)] := hl
  refine lv_lload_n hx hb dX10_common_0 rfl (lv_at hl 1 rfl) ?_
  refine lv_lconst (v := 0) hx hb dX10_common_1 (by decide) ?_
  refine W.lcmp hx hb dX10_common_2 ?_
  refine lv_if_ne (tgt := 10) hx hb dX10_common_3 (by decide) (fun c_1 => ?_) (fun c_1 => ?_)
  · replace c_1 : ¬ k1 = (0 : Int64) := fun z => c_1 ((lg_cmp_eq _ _).mpr z)
    refine lv_lload_n hx hb dX10_common_10 rfl (lv_at hl 1 rfl) ?_
    refine lv_lload_n hx hb dX10_common_11 rfl (lv_at hl 0 rfl) ?_
    refine lv_lload_n hx hb dX10_common_12 rfl (lv_at hl 1 rfl) ?_
    refine lv_lrem hx hb dX10_common_13 c_1 ?_
    refine lv_topl (fun j_2 ej_2 => ?_)
    have b_3 : ivL (-131071) 131071 j_2 := com_D (M := 262143) (K := 131071) ej_2 c_1 bk0 hf1 (by decide)
    refine jnL (wr := []) (rnS (rest := []) ⟨hx, hb, hml, hown, hg⟩ (k_X10_common_34 l V k1 j_2 b_3 (Or.inl c_1)) mt_X10_common q_8_124 ⟨Nat.le_of_ble_eq_true rfl, Nat.le_of_ble_eq_true rfl⟩ hK hP hD hS hA hE [] rfl rfl rfl hl.1 rfl (Nat.le_of_ble_eq_true rfl) dX10_common_14 ⟨Nat.le_of_ble_eq_true rfl, Nat.le_of_ble_eq_true rfl⟩) hP hD hS hA [] [] rfl rfl rfl (by decide) (fun r_4 w H locs hw hP hD hS => ?_)
    obtain ⟨g_5, rfl⟩ := hw
    have hP : va_P V.1 vwCl [] H := hP
    have hD : va_D A [] := hD
    exact fiL hx hb hr hlk hK hP hD hS dX10_common_17 (Nat.le_of_ble_eq_true rfl) (Nat.le_of_ble_eq_true rfl) (⟨g_5, rfl⟩)
  · replace c_1 : k1 = (0 : Int64) := (lg_cmp_eq _ _).mp c_1
    have b_6 : ivL 0 0 k1 := ivL_q c_1 (ivL_c (0 : Int64) (a := 0) (b := 0) (by decide))
    refine lv_lload_n hx hb dX10_common_6 rfl (lv_at hl 0 rfl) ?_
    refine lv_goto (tgt := 17) hx hb dX10_common_7 (by decide) ?_
    exact fiL hx hb hr hlk hK hP hD hS dX10_common_17 (Nat.le_of_ble_eq_true rfl) (Nat.le_of_ble_eq_true rfl) (⟨hf0, rfl⟩)
set_option maxHeartbeats 4000000 in
set_option maxRecDepth 100000 in
theorem k_X10_common_36 (l : Launch) (V : GV) (k0 : Int64) (k1 : Int64) (bk1 : ivL (-262143) 262143 k1) (hf0 : ¬ k0 = 0 ∨ ¬ k1 = 0) : Ct l V yX10_common (.code yX10_common cX10_common 4 (some .long)) 37 [.long k0, .long k1] [] 0 0 (QL V (fun (r : Int64) (w : va_W) => (¬ r = 0) ∧ w = [])) := by
  refine Ct.of (by decide) (Nat.le_of_ble_eq_true rfl) (fun p e s m below meth c A ls hx hb hr hml hown hlk hnm hg hP hK hD hE hA hS hl => ?_)
  have hl : lv_has ls 4 [(0, .long k0), (2, .long k1)] := hl
  refine lv_lload_n hx hb dX10_common_0 rfl (lv_at hl 1 rfl) ?_
  refine lv_lconst (v := 0) hx hb dX10_common_1 (by decide) ?_
  refine W.lcmp hx hb dX10_common_2 ?_
  refine lv_if_ne (tgt := 10) hx hb dX10_common_3 (by decide) (fun c_1 => ?_) (fun c_1 => ?_)
  · replace c_1 : ¬ k1 = (0 : Int64) := fun z => c_1 ((lg_cmp_eq _ _).mpr z)
    refine lv_lload_n hx hb dX10_common_10 rfl (lv_at hl 1 rfl) ?_
    refine lv_lload_n hx hb dX10_common_11 rfl (lv_at hl 0 rfl) ?_
    refine lv_lload_n hx hb dX10_common_12 rfl (lv_at hl 1 rfl) ?_
    refine lv_lrem hx hb dX10_common_13 c_1 ?_
    refine lv_topl (fun j_2 ej_2 => ?_)
    refine jnL (wr := []) (rnS (rest := []) ⟨hx, hb, hml, hown, hg⟩ (k_X10_common_35 l V k1 j_2 bk1 c_1 (com_C ej_2 c_1)) mt_X10_common q_8_124 ⟨Nat.le_of_ble_eq_true rfl, Nat.le_of_ble_eq_true rfl⟩ hK hP hD hS hA hE [] rfl rfl rfl hl.1 rfl (Nat.le_of_ble_eq_true rfl) dX10_common_14 ⟨Nat.le_of_ble_eq_true rfl, Nat.le_of_ble_eq_true rfl⟩) hP hD hS hA [] [] rfl rfl rfl (by decide) (fun r_3 w H locs hw hP hD hS => ?_)
    obtain ⟨g_4, rfl⟩ := hw
    have hP : va_P V.1 vwCl [] H := hP
    have hD : va_D A [] := hD
    exact fiL hx hb hr hlk hK hP hD hS dX10_common_17 (Nat.le_of_ble_eq_true rfl) (Nat.le_of_ble_eq_true rfl) (⟨g_4, rfl⟩)
  · replace c_1 : k1 = (0 : Int64) := (lg_cmp_eq _ _).mp c_1
    have b_5 : ivL 0 0 k1 := ivL_q c_1 (ivL_c (0 : Int64) (a := 0) (b := 0) (by decide))
    refine lv_lload_n hx hb dX10_common_6 rfl (lv_at hl 0 rfl) ?_
    refine lv_goto (tgt := 17) hx hb dX10_common_7 (by decide) ?_
    exact fiL hx hb hr hlk hK hP hD hS dX10_common_17 (Nat.le_of_ble_eq_true rfl) (Nat.le_of_ble_eq_true rfl) (⟨(hf0.elim id (fun q9 => absurd c_1 q9)), rfl⟩)
set_option maxHeartbeats 4000000 in
set_option maxRecDepth 100000 in
theorem k_X10_common_37 (l : Launch) (V : GV) (k0 : Int64) (k1 : Int64) (bk0 : ivL (-524287) 524287 k0) (hf0 : ¬ k0 = 0) (hf1 : (k1 : Int64).toInt.natAbs < (k0 : Int64).toInt.natAbs) : Ct l V yX10_common (.code yX10_common cX10_common 4 (some .long)) 38 [.long k0, .long k1] [] 0 0 (QL V (fun (r : Int64) (w : va_W) => (¬ r = 0) ∧ w = [])) := by
  refine Ct.of (by decide) (Nat.le_of_ble_eq_true rfl) (fun p e s m below meth c A ls hx hb hr hml hown hlk hnm hg hP hK hD hE hA hS hl => ?_)
  have hl : lv_has ls 4 [(0, .long k0), (2, .long k1)] := hl
  refine lv_lload_n hx hb dX10_common_0 rfl (lv_at hl 1 rfl) ?_
  refine lv_lconst (v := 0) hx hb dX10_common_1 (by decide) ?_
  refine W.lcmp hx hb dX10_common_2 ?_
  refine lv_if_ne (tgt := 10) hx hb dX10_common_3 (by decide) (fun c_1 => ?_) (fun c_1 => ?_)
  · replace c_1 : ¬ k1 = (0 : Int64) := fun z => c_1 ((lg_cmp_eq _ _).mpr z)
    refine lv_lload_n hx hb dX10_common_10 rfl (lv_at hl 1 rfl) ?_
    refine lv_lload_n hx hb dX10_common_11 rfl (lv_at hl 0 rfl) ?_
    refine lv_lload_n hx hb dX10_common_12 rfl (lv_at hl 1 rfl) ?_
    refine lv_lrem hx hb dX10_common_13 c_1 ?_
    refine lv_topl (fun j_2 ej_2 => ?_)
    have b_3 : ivL (-262143) 262143 j_2 := com_D (M := 524287) (K := 262143) ej_2 c_1 bk0 hf1 (by decide)
    refine jnL (wr := []) (rnS (rest := []) ⟨hx, hb, hml, hown, hg⟩ (k_X10_common_36 l V k1 j_2 b_3 (Or.inl c_1)) mt_X10_common q_8_124 ⟨Nat.le_of_ble_eq_true rfl, Nat.le_of_ble_eq_true rfl⟩ hK hP hD hS hA hE [] rfl rfl rfl hl.1 rfl (Nat.le_of_ble_eq_true rfl) dX10_common_14 ⟨Nat.le_of_ble_eq_true rfl, Nat.le_of_ble_eq_true rfl⟩) hP hD hS hA [] [] rfl rfl rfl (by decide) (fun r_4 w H locs hw hP hD hS => ?_)
    obtain ⟨g_5, rfl⟩ := hw
    have hP : va_P V.1 vwCl [] H := hP
    have hD : va_D A [] := hD
    exact fiL hx hb hr hlk hK hP hD hS dX10_common_17 (Nat.le_of_ble_eq_true rfl) (Nat.le_of_ble_eq_true rfl) (⟨g_5, rfl⟩)
  · replace c_1 : k1 = (0 : Int64) := (lg_cmp_eq _ _).mp c_1
    have b_6 : ivL 0 0 k1 := ivL_q c_1 (ivL_c (0 : Int64) (a := 0) (b := 0) (by decide))
    refine lv_lload_n hx hb dX10_common_6 rfl (lv_at hl 0 rfl) ?_
    refine lv_goto (tgt := 17) hx hb dX10_common_7 (by decide) ?_
    exact fiL hx hb hr hlk hK hP hD hS dX10_common_17 (Nat.le_of_ble_eq_true rfl) (Nat.le_of_ble_eq_true rfl) (⟨hf0, rfl⟩)
set_option maxHeartbeats 4000000 in
set_option maxRecDepth 100000 in
theorem k_X10_common_38 (l : Launch) (V : GV) (k0 : Int64) (k1 : Int64) (bk1 : ivL (-524287) 524287 k1) (hf0 : ¬ k0 = 0 ∨ ¬ k1 = 0) : Ct l V yX10_common (.code yX10_common cX10_common 4 (some .long)) 39 [.long k0, .long k1] [] 0 0 (QL V (fun (r : Int64) (w : va_W) => (¬ r = 0) ∧ w = [])) := by
  refine Ct.of (by decide) (Nat.le_of_ble_eq_true rfl) (fun p e s m below meth c A ls hx hb hr hml hown hlk hnm hg hP hK hD hE hA hS hl => ?_)
  have hl : lv_has ls 4 [(0, .long k0), (2, .long k1)] := hl
  refine lv_lload_n hx hb dX10_common_0 rfl (lv_at hl 1 rfl) ?_
  refine lv_lconst (v := 0) hx hb dX10_common_1 (by decide) ?_
  refine W.lcmp hx hb dX10_common_2 ?_
  refine lv_if_ne (tgt := 10) hx hb dX10_common_3 (by decide) (fun c_1 => ?_) (fun c_1 => ?_)
  · replace c_1 : ¬ k1 = (0 : Int64) := fun z => c_1 ((lg_cmp_eq _ _).mpr z)
    refine lv_lload_n hx hb dX10_common_10 rfl (lv_at hl 1 rfl) ?_
    refine lv_lload_n hx hb dX10_common_11 rfl (lv_at hl 0 rfl) ?_
    refine lv_lload_n hx hb dX10_common_12 rfl (lv_at hl 1 rfl) ?_
    refine lv_lrem hx hb dX10_common_13 c_1 ?_
    refine lv_topl (fun j_2 ej_2 => ?_)
    refine jnL (wr := []) (rnS (rest := []) ⟨hx, hb, hml, hown, hg⟩ (k_X10_common_37 l V k1 j_2 bk1 c_1 (com_C ej_2 c_1)) mt_X10_common q_8_124 ⟨Nat.le_of_ble_eq_true rfl, Nat.le_of_ble_eq_true rfl⟩ hK hP hD hS hA hE [] rfl rfl rfl hl.1 rfl (Nat.le_of_ble_eq_true rfl) dX10_common_14 ⟨Nat.le_of_ble_eq_true rfl, Nat.le_of_ble_eq_true rfl⟩) hP hD hS hA [] [] rfl rfl rfl (by decide) (fun r_3 w H locs hw hP hD hS => ?_)
    obtain ⟨g_4, rfl⟩ := hw
    have hP : va_P V.1 vwCl [] H := hP
    have hD : va_D A [] := hD
    exact fiL hx hb hr hlk hK hP hD hS dX10_common_17 (Nat.le_of_ble_eq_true rfl) (Nat.le_of_ble_eq_true rfl) (⟨g_4, rfl⟩)
  · replace c_1 : k1 = (0 : Int64) := (lg_cmp_eq _ _).mp c_1
    have b_5 : ivL 0 0 k1 := ivL_q c_1 (ivL_c (0 : Int64) (a := 0) (b := 0) (by decide))
    refine lv_lload_n hx hb dX10_common_6 rfl (lv_at hl 0 rfl) ?_
    refine lv_goto (tgt := 17) hx hb dX10_common_7 (by decide) ?_
    exact fiL hx hb hr hlk hK hP hD hS dX10_common_17 (Nat.le_of_ble_eq_true rfl) (Nat.le_of_ble_eq_true rfl) (⟨(hf0.elim id (fun q9 => absurd c_1 q9)), rfl⟩)
set_option maxHeartbeats 4000000 in
set_option maxRecDepth 100000 in
theorem k_X10_common_39 (l : Launch) (V : GV) (k0 : Int64) (k1 : Int64) (bk0 : ivL (-1048575) 1048575 k0) (hf0 : ¬ k0 = 0) (hf1 : (k1 : Int64).toInt.natAbs < (k0 : Int64).toInt.natAbs) : Ct l V yX10_common (.code yX10_common cX10_common 4 (some .long)) 40 [.long k0, .long k1] [] 0 0 (QL V (fun (r : Int64) (w : va_W) => (¬ r = 0) ∧ w = [])) := by
  refine Ct.of (by decide) (Nat.le_of_ble_eq_true rfl) (fun p e s m below meth c A ls hx hb hr hml hown hlk hnm hg hP hK hD hE hA hS hl => ?_)
  have hl : lv_has ls 4 [(0, .long k0), (2, .long k1)] := hl
  refine lv_lload_n hx hb dX10_common_0 rfl (lv_at hl 1 rfl) ?_
  refine lv_lconst (v := 0) hx hb dX10_common_1 (by decide) ?_
  refine W.lcmp hx hb dX10_common_2 ?_
  refine lv_if_ne (tgt := 10) hx hb dX10_common_3 (by decide) (fun c_1 => ?_) (fun c_1 => ?_)
  · replace c_1 : ¬ k1 = (0 : Int64) := fun z => c_1 ((lg_cmp_eq _ _).mpr z)
    refine lv_lload_n hx hb dX10_common_10 rfl (lv_at hl 1 rfl) ?_
    refine lv_lload_n hx hb dX10_common_11 rfl (lv_at hl 0 rfl) ?_
    refine lv_lload_n hx hb dX10_common_12 rfl (lv_at hl 1 rfl) ?_
    refine lv_lrem hx hb dX10_common_13 c_1 ?_
    refine lv_topl (fun j_2 ej_2 => ?_)
    have b_3 : ivL (-524287) 524287 j_2 := com_D (M := 1048575) (K := 524287) ej_2 c_1 bk0 hf1 (by decide)
    refine jnL (wr := []) (rnS (rest := []) ⟨hx, hb, hml, hown, hg⟩ (k_X10_common_38 l V k1 j_2 b_3 (Or.inl c_1)) mt_X10_common q_8_124 ⟨Nat.le_of_ble_eq_true rfl, Nat.le_of_ble_eq_true rfl⟩ hK hP hD hS hA hE [] rfl rfl rfl hl.1 rfl (Nat.le_of_ble_eq_true rfl) dX10_common_14 ⟨Nat.le_of_ble_eq_true rfl, Nat.le_of_ble_eq_true rfl⟩) hP hD hS hA [] [] rfl rfl rfl (by decide) (fun r_4 w H locs hw hP hD hS => ?_)
    obtain ⟨g_5, rfl⟩ := hw
    have hP : va_P V.1 vwCl [] H := hP
    have hD : va_D A [] := hD
    exact fiL hx hb hr hlk hK hP hD hS dX10_common_17 (Nat.le_of_ble_eq_true rfl) (Nat.le_of_ble_eq_true rfl) (⟨g_5, rfl⟩)
  · replace c_1 : k1 = (0 : Int64) := (lg_cmp_eq _ _).mp c_1
    have b_6 : ivL 0 0 k1 := ivL_q c_1 (ivL_c (0 : Int64) (a := 0) (b := 0) (by decide))
    refine lv_lload_n hx hb dX10_common_6 rfl (lv_at hl 0 rfl) ?_
    refine lv_goto (tgt := 17) hx hb dX10_common_7 (by decide) ?_
    exact fiL hx hb hr hlk hK hP hD hS dX10_common_17 (Nat.le_of_ble_eq_true rfl) (Nat.le_of_ble_eq_true rfl) (⟨hf0, rfl⟩)
set_option maxHeartbeats 4000000 in
set_option maxRecDepth 100000 in
theorem k_X10_common_40 (l : Launch) (V : GV) (k0 : Int64) (k1 : Int64) (bk1 : ivL (-1048575) 1048575 k1) (hf0 : ¬ k0 = 0 ∨ ¬ k1 = 0) : Ct l V yX10_common (.code yX10_common cX10_common 4 (some .long)) 41 [.long k0, .long k1] [] 0 0 (QL V (fun (r : Int64) (w : va_W) => (¬ r = 0) ∧ w = [])) := by
  refine Ct.of (by decide) (Nat.le_of_ble_eq_true rfl) (fun p e s m below meth c A ls hx hb hr hml hown hlk hnm hg hP hK hD hE hA hS hl => ?_)
  have hl : lv_has ls 4 [(0, .long k0), (2, .long k1)] := hl
  refine lv_lload_n hx hb dX10_common_0 rfl (lv_at hl 1 rfl) ?_
  refine lv_lconst (v := 0) hx hb dX10_common_1 (by decide) ?_
  refine W.lcmp hx hb dX10_common_2 ?_
  refine lv_if_ne (tgt := 10) hx hb dX10_common_3 (by decide) (fun c_1 => ?_) (fun c_1 => ?_)
  · replace c_1 : ¬ k1 = (0 : Int64) := fun z => c_1 ((lg_cmp_eq _ _).mpr z)
    refine lv_lload_n hx hb dX10_common_10 rfl (lv_at hl 1 rfl) ?_
    refine lv_lload_n hx hb dX10_common_11 rfl (lv_at hl 0 rfl) ?_
    refine lv_lload_n hx hb dX10_common_12 rfl (lv_at hl 1 rfl) ?_
    refine lv_lrem hx hb dX10_common_13 c_1 ?_
    refine lv_topl (fun j_2 ej_2 => ?_)
    refine jnL (wr := []) (rnS (rest := []) ⟨hx, hb, hml, hown, hg⟩ (k_X10_common_39 l V k1 j_2 bk1 c_1 (com_C ej_2 c_1)) mt_X10_common q_8_124 ⟨Nat.le_of_ble_eq_true rfl, Nat.le_of_ble_eq_true rfl⟩ hK hP hD hS hA hE [] rfl rfl rfl hl.1 rfl (Nat.le_of_ble_eq_true rfl) dX10_common_14 ⟨Nat.le_of_ble_eq_true rfl, Nat.le_of_ble_eq_true rfl⟩) hP hD hS hA [] [] rfl rfl rfl (by decide) (fun r_3 w H locs hw hP hD hS => ?_)
    obtain ⟨g_4, rfl⟩ := hw
    have hP : va_P V.1 vwCl [] H := hP
    have hD : va_D A [] := hD
    exact fiL hx hb hr hlk hK hP hD hS dX10_common_17 (Nat.le_of_ble_eq_true rfl) (Nat.le_of_ble_eq_true rfl) (⟨g_4, rfl⟩)
  · replace c_1 : k1 = (0 : Int64) := (lg_cmp_eq _ _).mp c_1
    have b_5 : ivL 0 0 k1 := ivL_q c_1 (ivL_c (0 : Int64) (a := 0) (b := 0) (by decide))
    refine lv_lload_n hx hb dX10_common_6 rfl (lv_at hl 0 rfl) ?_
    refine lv_goto (tgt := 17) hx hb dX10_common_7 (by decide) ?_
    exact fiL hx hb hr hlk hK hP hD hS dX10_common_17 (Nat.le_of_ble_eq_true rfl) (Nat.le_of_ble_eq_true rfl) (⟨(hf0.elim id (fun q9 => absurd c_1 q9)), rfl⟩)
set_option maxHeartbeats 4000000 in
set_option maxRecDepth 100000 in
theorem k_X10_common_41 (l : Launch) (V : GV) (k0 : Int64) (k1 : Int64) (bk0 : ivL (-2097151) 2097151 k0) (hf0 : ¬ k0 = 0) (hf1 : (k1 : Int64).toInt.natAbs < (k0 : Int64).toInt.natAbs) : Ct l V yX10_common (.code yX10_common cX10_common 4 (some .long)) 42 [.long k0, .long k1] [] 0 0 (QL V (fun (r : Int64) (w : va_W) => (¬ r = 0) ∧ w = [])) := by
  refine Ct.of (by decide) (Nat.le_of_ble_eq_true rfl) (fun p e s m below meth c A ls hx hb hr hml hown hlk hnm hg hP hK hD hE hA hS hl => ?_)
  have hl : lv_has ls 4 [(0, .long k0), (2, .long k1)] := hl
  refine lv_lload_n hx hb dX10_common_0 rfl (lv_at hl 1 rfl) ?_
  refine lv_lconst (v := 0) hx hb dX10_common_1 (by decide) ?_
  refine W.lcmp hx hb dX10_common_2 ?_
  refine lv_if_ne (tgt := 10) hx hb dX10_common_3 (by decide) (fun c_1 => ?_) (fun c_1 => ?_)
  · replace c_1 : ¬ k1 = (0 : Int64) := fun z => c_1 ((lg_cmp_eq _ _).mpr z)
    refine lv_lload_n hx hb dX10_common_10 rfl (lv_at hl 1 rfl) ?_
    refine lv_lload_n hx hb dX10_common_11 rfl (lv_at hl 0 rfl) ?_
    refine lv_lload_n hx hb dX10_common_12 rfl (lv_at hl 1 rfl) ?_
    refine lv_lrem hx hb dX10_common_13 c_1 ?_
    refine lv_topl (fun j_2 ej_2 => ?_)
    have b_3 : ivL (-1048575) 1048575 j_2 := com_D (M := 2097151) (K := 1048575) ej_2 c_1 bk0 hf1 (by decide)
    refine jnL (wr := []) (rnS (rest := []) ⟨hx, hb, hml, hown, hg⟩ (k_X10_common_40 l V k1 j_2 b_3 (Or.inl c_1)) mt_X10_common q_8_124 ⟨Nat.le_of_ble_eq_true rfl, Nat.le_of_ble_eq_true rfl⟩ hK hP hD hS hA hE [] rfl rfl rfl hl.1 rfl (Nat.le_of_ble_eq_true rfl) dX10_common_14 ⟨Nat.le_of_ble_eq_true rfl, Nat.le_of_ble_eq_true rfl⟩) hP hD hS hA [] [] rfl rfl rfl (by decide) (fun r_4 w H locs hw hP hD hS => ?_)
    obtain ⟨g_5, rfl⟩ := hw
    have hP : va_P V.1 vwCl [] H := hP
    have hD : va_D A [] := hD
    exact fiL hx hb hr hlk hK hP hD hS dX10_common_17 (Nat.le_of_ble_eq_true rfl) (Nat.le_of_ble_eq_true rfl) (⟨g_5, rfl⟩)
  · replace c_1 : k1 = (0 : Int64) := (lg_cmp_eq _ _).mp c_1
    have b_6 : ivL 0 0 k1 := ivL_q c_1 (ivL_c (0 : Int64) (a := 0) (b := 0) (by decide))
    refine lv_lload_n hx hb dX10_common_6 rfl (lv_at hl 0 rfl) ?_
    refine lv_goto (tgt := 17) hx hb dX10_common_7 (by decide) ?_
    exact fiL hx hb hr hlk hK hP hD hS dX10_common_17 (Nat.le_of_ble_eq_true rfl) (Nat.le_of_ble_eq_true rfl) (⟨hf0, rfl⟩)
set_option maxHeartbeats 4000000 in
set_option maxRecDepth 100000 in
theorem k_X10_common_42 (l : Launch) (V : GV) (k0 : Int64) (k1 : Int64) (bk1 : ivL (-2097151) 2097151 k1) (hf0 : ¬ k0 = 0 ∨ ¬ k1 = 0) : Ct l V yX10_common (.code yX10_common cX10_common 4 (some .long)) 43 [.long k0, .long k1] [] 0 0 (QL V (fun (r : Int64) (w : va_W) => (¬ r = 0) ∧ w = [])) := by
  refine Ct.of (by decide) (Nat.le_of_ble_eq_true rfl) (fun p e s m below meth c A ls hx hb hr hml hown hlk hnm hg hP hK hD hE hA hS hl => ?_)
  have hl : lv_has ls 4 [(0, .long k0), (2, .long k1)] := hl
  refine lv_lload_n hx hb dX10_common_0 rfl (lv_at hl 1 rfl) ?_
  refine lv_lconst (v := 0) hx hb dX10_common_1 (by decide) ?_
  refine W.lcmp hx hb dX10_common_2 ?_
  refine lv_if_ne (tgt := 10) hx hb dX10_common_3 (by decide) (fun c_1 => ?_) (fun c_1 => ?_)
  · replace c_1 : ¬ k1 = (0 : Int64) := fun z => c_1 ((lg_cmp_eq _ _).mpr z)
    refine lv_lload_n hx hb dX10_common_10 rfl (lv_at hl 1 rfl) ?_
    refine lv_lload_n hx hb dX10_common_11 rfl (lv_at hl 0 rfl) ?_
    refine lv_lload_n hx hb dX10_common_12 rfl (lv_at hl 1 rfl) ?_
    refine lv_lrem hx hb dX10_common_13 c_1 ?_
    refine lv_topl (fun j_2 ej_2 => ?_)
    refine jnL (wr := []) (rnS (rest := []) ⟨hx, hb, hml, hown, hg⟩ (k_X10_common_41 l V k1 j_2 bk1 c_1 (com_C ej_2 c_1)) mt_X10_common q_8_124 ⟨Nat.le_of_ble_eq_true rfl, Nat.le_of_ble_eq_true rfl⟩ hK hP hD hS hA hE [] rfl rfl rfl hl.1 rfl (Nat.le_of_ble_eq_true rfl) dX10_common_14 ⟨Nat.le_of_ble_eq_true rfl, Nat.le_of_ble_eq_true rfl⟩) hP hD hS hA [] [] rfl rfl rfl (by decide) (fun r_3 w H locs hw hP hD hS => ?_)
    obtain ⟨g_4, rfl⟩ := hw
    have hP : va_P V.1 vwCl [] H := hP
    have hD : va_D A [] := hD
    exact fiL hx hb hr hlk hK hP hD hS dX10_common_17 (Nat.le_of_ble_eq_true rfl) (Nat.le_of_ble_eq_true rfl) (⟨g_4, rfl⟩)
  · replace c_1 : k1 = (0 : Int64) := (lg_cmp_eq _ _).mp c_1
    have b_5 : ivL 0 0 k1 := ivL_q c_1 (ivL_c (0 : Int64) (a := 0) (b := 0) (by decide))
    refine lv_lload_n hx hb dX10_common_6 rfl (lv_at hl 0 rfl) ?_
    refine lv_goto (tgt := 17) hx hb dX10_common_7 (by decide) ?_
    exact fiL hx hb hr hlk hK hP hD hS dX10_common_17 (Nat.le_of_ble_eq_true rfl) (Nat.le_of_ble_eq_true rfl) (⟨(hf0.elim id (fun q9 => absurd c_1 q9)), rfl⟩)
set_option maxHeartbeats 4000000 in
set_option maxRecDepth 100000 in
theorem k_X10_common_43 (l : Launch) (V : GV) (k0 : Int64) (k1 : Int64) (bk0 : ivL (-4194303) 4194303 k0) (hf0 : ¬ k0 = 0) (hf1 : (k1 : Int64).toInt.natAbs < (k0 : Int64).toInt.natAbs) : Ct l V yX10_common (.code yX10_common cX10_common 4 (some .long)) 44 [.long k0, .long k1] [] 0 0 (QL V (fun (r : Int64) (w : va_W) => (¬ r = 0) ∧ w = [])) := by
  refine Ct.of (by decide) (Nat.le_of_ble_eq_true rfl) (fun p e s m below meth c A ls hx hb hr hml hown hlk hnm hg hP hK hD hE hA hS hl => ?_)
  have hl : lv_has ls 4 [(0, .long k0), (2, .long k1)] := hl
  refine lv_lload_n hx hb dX10_common_0 rfl (lv_at hl 1 rfl) ?_
  refine lv_lconst (v := 0) hx hb dX10_common_1 (by decide) ?_
  refine W.lcmp hx hb dX10_common_2 ?_
  refine lv_if_ne (tgt := 10) hx hb dX10_common_3 (by decide) (fun c_1 => ?_) (fun c_1 => ?_)
  · replace c_1 : ¬ k1 = (0 : Int64) := fun z => c_1 ((lg_cmp_eq _ _).mpr z)
    refine lv_lload_n hx hb dX10_common_10 rfl (lv_at hl 1 rfl) ?_
    refine lv_lload_n hx hb dX10_common_11 rfl (lv_at hl 0 rfl) ?_
    refine lv_lload_n hx hb dX10_common_12 rfl (lv_at hl 1 rfl) ?_
    refine lv_lrem hx hb dX10_common_13 c_1 ?_
    refine lv_topl (fun j_2 ej_2 => ?_)
    have b_3 : ivL (-2097151) 2097151 j_2 := com_D (M := 4194303) (K := 2097151) ej_2 c_1 bk0 hf1 (by decide)
    refine jnL (wr := []) (rnS (rest := []) ⟨hx, hb, hml, hown, hg⟩ (k_X10_common_42 l V k1 j_2 b_3 (Or.inl c_1)) mt_X10_common q_8_124 ⟨Nat.le_of_ble_eq_true rfl, Nat.le_of_ble_eq_true rfl⟩ hK hP hD hS hA hE [] rfl rfl rfl hl.1 rfl (Nat.le_of_ble_eq_true rfl) dX10_common_14 ⟨Nat.le_of_ble_eq_true rfl, Nat.le_of_ble_eq_true rfl⟩) hP hD hS hA [] [] rfl rfl rfl (by decide) (fun r_4 w H locs hw hP hD hS => ?_)
    obtain ⟨g_5, rfl⟩ := hw
    have hP : va_P V.1 vwCl [] H := hP
    have hD : va_D A [] := hD
    exact fiL hx hb hr hlk hK hP hD hS dX10_common_17 (Nat.le_of_ble_eq_true rfl) (Nat.le_of_ble_eq_true rfl) (⟨g_5, rfl⟩)
  · replace c_1 : k1 = (0 : Int64) := (lg_cmp_eq _ _).mp c_1
    have b_6 : ivL 0 0 k1 := ivL_q c_1 (ivL_c (0 : Int64) (a := 0) (b := 0) (by decide))
    refine lv_lload_n hx hb dX10_common_6 rfl (lv_at hl 0 rfl) ?_
    refine lv_goto (tgt := 17) hx hb dX10_common_7 (by decide) ?_
    exact fiL hx hb hr hlk hK hP hD hS dX10_common_17 (Nat.le_of_ble_eq_true rfl) (Nat.le_of_ble_eq_true rfl) (⟨hf0, rfl⟩)
set_option maxHeartbeats 4000000 in
set_option maxRecDepth 100000 in
theorem k_X10_common_44 (l : Launch) (V : GV) (k0 : Int64) (k1 : Int64) (bk1 : ivL (-4194303) 4194303 k1) (hf0 : ¬ k0 = 0 ∨ ¬ k1 = 0) : Ct l V yX10_common (.code yX10_common cX10_common 4 (some .long)) 45 [.long k0, .long k1] [] 0 0 (QL V (fun (r : Int64) (w : va_W) => (¬ r = 0) ∧ w = [])) := by
  refine Ct.of (by decide) (Nat.le_of_ble_eq_true rfl) (fun p e s m below meth c A ls hx hb hr hml hown hlk hnm hg hP hK hD hE hA hS hl => ?_)
  have hl : lv_has ls 4 [(0, .long k0), (2, .long k1)] := hl
  refine lv_lload_n hx hb dX10_common_0 rfl (lv_at hl 1 rfl) ?_
  refine lv_lconst (v := 0) hx hb dX10_common_1 (by decide) ?_
  refine W.lcmp hx hb dX10_common_2 ?_
  refine lv_if_ne (tgt := 10) hx hb dX10_common_3 (by decide) (fun c_1 => ?_) (fun c_1 => ?_)
  · replace c_1 : ¬ k1 = (0 : Int64) := fun z => c_1 ((lg_cmp_eq _ _).mpr z)
    refine lv_lload_n hx hb dX10_common_10 rfl (lv_at hl 1 rfl) ?_
    refine lv_lload_n hx hb dX10_common_11 rfl (lv_at hl 0 rfl) ?_
    refine lv_lload_n hx hb dX10_common_12 rfl (lv_at hl 1 rfl) ?_
    refine lv_lrem hx hb dX10_common_13 c_1 ?_
    refine lv_topl (fun j_2 ej_2 => ?_)
    refine jnL (wr := []) (rnS (rest := []) ⟨hx, hb, hml, hown, hg⟩ (k_X10_common_43 l V k1 j_2 bk1 c_1 (com_C ej_2 c_1)) mt_X10_common q_8_124 ⟨Nat.le_of_ble_eq_true rfl, Nat.le_of_ble_eq_true rfl⟩ hK hP hD hS hA hE [] rfl rfl rfl hl.1 rfl (Nat.le_of_ble_eq_true rfl) dX10_common_14 ⟨Nat.le_of_ble_eq_true rfl, Nat.le_of_ble_eq_true rfl⟩) hP hD hS hA [] [] rfl rfl rfl (by decide) (fun r_3 w H locs hw hP hD hS => ?_)
    obtain ⟨g_4, rfl⟩ := hw
    have hP : va_P V.1 vwCl [] H := hP
    have hD : va_D A [] := hD
    exact fiL hx hb hr hlk hK hP hD hS dX10_common_17 (Nat.le_of_ble_eq_true rfl) (Nat.le_of_ble_eq_true rfl) (⟨g_4, rfl⟩)
  · replace c_1 : k1 = (0 : Int64) := (lg_cmp_eq _ _).mp c_1
    have b_5 : ivL 0 0 k1 := ivL_q c_1 (ivL_c (0 : Int64) (a := 0) (b := 0) (by decide))
    refine lv_lload_n hx hb dX10_common_6 rfl (lv_at hl 0 rfl) ?_
    refine lv_goto (tgt := 17) hx hb dX10_common_7 (by decide) ?_
    exact fiL hx hb hr hlk hK hP hD hS dX10_common_17 (Nat.le_of_ble_eq_true rfl) (Nat.le_of_ble_eq_true rfl) (⟨(hf0.elim id (fun q9 => absurd c_1 q9)), rfl⟩)
set_option maxHeartbeats 4000000 in
set_option maxRecDepth 100000 in
theorem k_X10_common_45 (l : Launch) (V : GV) (k0 : Int64) (k1 : Int64) (bk0 : ivL (-8388607) 8388607 k0) (hf0 : ¬ k0 = 0) (hf1 : (k1 : Int64).toInt.natAbs < (k0 : Int64).toInt.natAbs) : Ct l V yX10_common (.code yX10_common cX10_common 4 (some .long)) 46 [.long k0, .long k1] [] 0 0 (QL V (fun (r : Int64) (w : va_W) => (¬ r = 0) ∧ w = [])) := by
  refine Ct.of (by decide) (Nat.le_of_ble_eq_true rfl) (fun p e s m below meth c A ls hx hb hr hml hown hlk hnm hg hP hK hD hE hA hS hl => ?_)
  have hl : lv_has ls 4 [(0, .long k0), (2, .long k1)] := hl
  refine lv_lload_n hx hb dX10_common_0 rfl (lv_at hl 1 rfl) ?_
  refine lv_lconst (v := 0) hx hb dX10_common_1 (by decide) ?_
  refine W.lcmp hx hb dX10_common_2 ?_
  refine lv_if_ne (tgt := 10) hx hb dX10_common_3 (by decide) (fun c_1 => ?_) (fun c_1 => ?_)
  · replace c_1 : ¬ k1 = (0 : Int64) := fun z => c_1 ((lg_cmp_eq _ _).mpr z)
    refine lv_lload_n hx hb dX10_common_10 rfl (lv_at hl 1 rfl) ?_
    refine lv_lload_n hx hb dX10_common_11 rfl (lv_at hl 0 rfl) ?_
    refine lv_lload_n hx hb dX10_common_12 rfl (lv_at hl 1 rfl) ?_
    refine lv_lrem hx hb dX10_common_13 c_1 ?_
    refine lv_topl (fun j_2 ej_2 => ?_)
    have b_3 : ivL (-4194303) 4194303 j_2 := com_D (M := 8388607) (K := 4194303) ej_2 c_1 bk0 hf1 (by decide)
    refine jnL (wr := []) (rnS (rest := []) ⟨hx, hb, hml, hown, hg⟩ (k_X10_common_44 l V k1 j_2 b_3 (Or.inl c_1)) mt_X10_common q_8_124 ⟨Nat.le_of_ble_eq_true rfl, Nat.le_of_ble_eq_true rfl⟩ hK hP hD hS hA hE [] rfl rfl rfl hl.1 rfl (Nat.le_of_ble_eq_true rfl) dX10_common_14 ⟨Nat.le_of_ble_eq_true rfl, Nat.le_of_ble_eq_true rfl⟩) hP hD hS hA [] [] rfl rfl rfl (by decide) (fun r_4 w H locs hw hP hD hS => ?_)
    obtain ⟨g_5, rfl⟩ := hw
    have hP : va_P V.1 vwCl [] H := hP
    have hD : va_D A [] := hD
    exact fiL hx hb hr hlk hK hP hD hS dX10_common_17 (Nat.le_of_ble_eq_true rfl) (Nat.le_of_ble_eq_true rfl) (⟨g_5, rfl⟩)
  · replace c_1 : k1 = (0 : Int64) := (lg_cmp_eq _ _).mp c_1
    have b_6 : ivL 0 0 k1 := ivL_q c_1 (ivL_c (0 : Int64) (a := 0) (b := 0) (by decide))
    refine lv_lload_n hx hb dX10_common_6 rfl (lv_at hl 0 rfl) ?_
    refine lv_goto (tgt := 17) hx hb dX10_common_7 (by decide) ?_
    exact fiL hx hb hr hlk hK hP hD hS dX10_common_17 (Nat.le_of_ble_eq_true rfl) (Nat.le_of_ble_eq_true rfl) (⟨hf0, rfl⟩)
set_option maxHeartbeats 4000000 in
set_option maxRecDepth 100000 in
theorem k_X10_common_46 (l : Launch) (V : GV) (k0 : Int64) (k1 : Int64) (bk1 : ivL (-8388607) 8388607 k1) (hf0 : ¬ k0 = 0 ∨ ¬ k1 = 0) : Ct l V yX10_common (.code yX10_common cX10_common 4 (some .long)) 47 [.long k0, .long k1] [] 0 0 (QL V (fun (r : Int64) (w : va_W) => (¬ r = 0) ∧ w = [])) := by
  refine Ct.of (by decide) (Nat.le_of_ble_eq_true rfl) (fun p e s m below meth c A ls hx hb hr hml hown hlk hnm hg hP hK hD hE hA hS hl => ?_)
  have hl : lv_has ls 4 [(0, .long k0), (2, .long k1)] := hl
  refine lv_lload_n hx hb dX10_common_0 rfl (lv_at hl 1 rfl) ?_
  refine lv_lconst (v := 0) hx hb dX10_common_1 (by decide) ?_
  refine W.lcmp hx hb dX10_common_2 ?_
  refine lv_if_ne (tgt := 10) hx hb dX10_common_3 (by decide) (fun c_1 => ?_) (fun c_1 => ?_)
  · replace c_1 : ¬ k1 = (0 : Int64) := fun z => c_1 ((lg_cmp_eq _ _).mpr z)
    refine lv_lload_n hx hb dX10_common_10 rfl (lv_at hl 1 rfl) ?_
    refine lv_lload_n hx hb dX10_common_11 rfl (lv_at hl 0 rfl) ?_
    refine lv_lload_n hx hb dX10_common_12 rfl (lv_at hl 1 rfl) ?_
    refine lv_lrem hx hb dX10_common_13 c_1 ?_
    refine lv_topl (fun j_2 ej_2 => ?_)
    refine jnL (wr := []) (rnS (rest := []) ⟨hx, hb, hml, hown, hg⟩ (k_X10_common_45 l V k1 j_2 bk1 c_1 (com_C ej_2 c_1)) mt_X10_common q_8_124 ⟨Nat.le_of_ble_eq_true rfl, Nat.le_of_ble_eq_true rfl⟩ hK hP hD hS hA hE [] rfl rfl rfl hl.1 rfl (Nat.le_of_ble_eq_true rfl) dX10_common_14 ⟨Nat.le_of_ble_eq_true rfl, Nat.le_of_ble_eq_true rfl⟩) hP hD hS hA [] [] rfl rfl rfl (by decide) (fun r_3 w H locs hw hP hD hS => ?_)
    obtain ⟨g_4, rfl⟩ := hw
    have hP : va_P V.1 vwCl [] H := hP
    have hD : va_D A [] := hD
    exact fiL hx hb hr hlk hK hP hD hS dX10_common_17 (Nat.le_of_ble_eq_true rfl) (Nat.le_of_ble_eq_true rfl) (⟨g_4, rfl⟩)
  · replace c_1 : k1 = (0 : Int64) := (lg_cmp_eq _ _).mp c_1
    have b_5 : ivL 0 0 k1 := ivL_q c_1 (ivL_c (0 : Int64) (a := 0) (b := 0) (by decide))
    refine lv_lload_n hx hb dX10_common_6 rfl (lv_at hl 0 rfl) ?_
    refine lv_goto (tgt := 17) hx hb dX10_common_7 (by decide) ?_
    exact fiL hx hb hr hlk hK hP hD hS dX10_common_17 (Nat.le_of_ble_eq_true rfl) (Nat.le_of_ble_eq_true rfl) (⟨(hf0.elim id (fun q9 => absurd c_1 q9)), rfl⟩)
set_option maxHeartbeats 4000000 in
set_option maxRecDepth 100000 in
theorem k_X10_common_47 (l : Launch) (V : GV) (k0 : Int64) (k1 : Int64) (bk0 : ivL (-16777215) 16777215 k0) (hf0 : ¬ k0 = 0) (hf1 : (k1 : Int64).toInt.natAbs < (k0 : Int64).toInt.natAbs) : Ct l V yX10_common (.code yX10_common cX10_common 4 (some .long)) 48 [.long k0, .long k1] [] 0 0 (QL V (fun (r : Int64) (w : va_W) => (¬ r = 0) ∧ w = [])) := by
  refine Ct.of (by decide) (Nat.le_of_ble_eq_true rfl) (fun p e s m below meth c A ls hx hb hr hml hown hlk hnm hg hP hK hD hE hA hS hl => ?_)
  have hl : lv_has ls 4 [(0, .long k0), (2, .long k1)] := hl
  refine lv_lload_n hx hb dX10_common_0 rfl (lv_at hl 1 rfl) ?_
  refine lv_lconst (v := 0) hx hb dX10_common_1 (by decide) ?_
  refine W.lcmp hx hb dX10_common_2 ?_
  refine lv_if_ne (tgt := 10) hx hb dX10_common_3 (by decide) (fun c_1 => ?_) (fun c_1 => ?_)
  · replace c_1 : ¬ k1 = (0 : Int64) := fun z => c_1 ((lg_cmp_eq _ _).mpr z)
    refine lv_lload_n hx hb dX10_common_10 rfl (lv_at hl 1 rfl) ?_
    refine lv_lload_n hx hb dX10_common_11 rfl (lv_at hl 0 rfl) ?_
    refine lv_lload_n hx hb dX10_common_12 rfl (lv_at hl 1 rfl) ?_
    refine lv_lrem hx hb dX10_common_13 c_1 ?_
    refine lv_topl (fun j_2 ej_2 => ?_)
    have b_3 : ivL (-8388607) 8388607 j_2 := com_D (M := 16777215) (K := 8388607) ej_2 c_1 bk0 hf1 (by decide)
    refine jnL (wr := []) (rnS (rest := []) ⟨hx, hb, hml, hown, hg⟩ (k_X10_common_46 l V k1 j_2 b_3 (Or.inl c_1)) mt_X10_common q_8_124 ⟨Nat.le_of_ble_eq_true rfl, Nat.le_of_ble_eq_true rfl⟩ hK hP hD hS hA hE [] rfl rfl rfl hl.1 rfl (Nat.le_of_ble_eq_true rfl) dX10_common_14 ⟨Nat.le_of_ble_eq_true rfl, Nat.le_of_ble_eq_true rfl⟩) hP hD hS hA [] [] rfl rfl rfl (by decide) (fun r_4 w H locs hw hP hD hS => ?_)
    obtain ⟨g_5, rfl⟩ := hw
    have hP : va_P V.1 vwCl [] H := hP
    have hD : va_D A [] := hD
    exact fiL hx hb hr hlk hK hP hD hS dX10_common_17 (Nat.le_of_ble_eq_true rfl) (Nat.le_of_ble_eq_true rfl) (⟨g_5, rfl⟩)
  · replace c_1 : k1 = (0 : Int64) := (lg_cmp_eq _ _).mp c_1
    have b_6 : ivL 0 0 k1 := ivL_q c_1 (ivL_c (0 : Int64) (a := 0) (b := 0) (by decide))
    refine lv_lload_n hx hb dX10_common_6 rfl (lv_at hl 0 rfl) ?_
    refine lv_goto (tgt := 17) hx hb dX10_common_7 (by decide) ?_
    exact fiL hx hb hr hlk hK hP hD hS dX10_common_17 (Nat.le_of_ble_eq_true rfl) (Nat.le_of_ble_eq_true rfl) (⟨hf0, rfl⟩)
set_option maxHeartbeats 4000000 in
set_option maxRecDepth 100000 in
theorem k_X10_common_48 (l : Launch) (V : GV) (k0 : Int64) (k1 : Int64) (bk1 : ivL (-16777215) 16777215 k1) (hf0 : ¬ k0 = 0 ∨ ¬ k1 = 0) : Ct l V yX10_common (.code yX10_common cX10_common 4 (some .long)) 49 [.long k0, .long k1] [] 0 0 (QL V (fun (r : Int64) (w : va_W) => (¬ r = 0) ∧ w = [])) := by
  refine Ct.of (by decide) (Nat.le_of_ble_eq_true rfl) (fun p e s m below meth c A ls hx hb hr hml hown hlk hnm hg hP hK hD hE hA hS hl => ?_)
  have hl : lv_has ls 4 [(0, .long k0), (2, .long k1)] := hl
  refine lv_lload_n hx hb dX10_common_0 rfl (lv_at hl 1 rfl) ?_
  refine lv_lconst (v := 0) hx hb dX10_common_1 (by decide) ?_
  refine W.lcmp hx hb dX10_common_2 ?_
  refine lv_if_ne (tgt := 10) hx hb dX10_common_3 (by decide) (fun c_1 => ?_) (fun c_1 => ?_)
  · replace c_1 : ¬ k1 = (0 : Int64) := fun z => c_1 ((lg_cmp_eq _ _).mpr z)
    refine lv_lload_n hx hb dX10_common_10 rfl (lv_at hl 1 rfl) ?_
    refine lv_lload_n hx hb dX10_common_11 rfl (lv_at hl 0 rfl) ?_
    refine lv_lload_n hx hb dX10_common_12 rfl (lv_at hl 1 rfl) ?_
    refine lv_lrem hx hb dX10_common_13 c_1 ?_
    refine lv_topl (fun j_2 ej_2 => ?_)
    refine jnL (wr := []) (rnS (rest := []) ⟨hx, hb, hml, hown, hg⟩ (k_X10_common_47 l V k1 j_2 bk1 c_1 (com_C ej_2 c_1)) mt_X10_common q_8_124 ⟨Nat.le_of_ble_eq_true rfl, Nat.le_of_ble_eq_true rfl⟩ hK hP hD hS hA hE [] rfl rfl rfl hl.1 rfl (Nat.le_of_ble_eq_true rfl) dX10_common_14 ⟨Nat.le_of_ble_eq_true rfl, Nat.le_of_ble_eq_true rfl⟩) hP hD hS hA [] [] rfl rfl rfl (by decide) (fun r_3 w H locs hw hP hD hS => ?_)
    obtain ⟨g_4, rfl⟩ := hw
    have hP : va_P V.1 vwCl [] H := hP
    have hD : va_D A [] := hD
    exact fiL hx hb hr hlk hK hP hD hS dX10_common_17 (Nat.le_of_ble_eq_true rfl) (Nat.le_of_ble_eq_true rfl) (⟨g_4, rfl⟩)
  · replace c_1 : k1 = (0 : Int64) := (lg_cmp_eq _ _).mp c_1
    have b_5 : ivL 0 0 k1 := ivL_q c_1 (ivL_c (0 : Int64) (a := 0) (b := 0) (by decide))
    refine lv_lload_n hx hb dX10_common_6 rfl (lv_at hl 0 rfl) ?_
    refine lv_goto (tgt := 17) hx hb dX10_common_7 (by decide) ?_
    exact fiL hx hb hr hlk hK hP hD hS dX10_common_17 (Nat.le_of_ble_eq_true rfl) (Nat.le_of_ble_eq_true rfl) (⟨(hf0.elim id (fun q9 => absurd c_1 q9)), rfl⟩)
theorem dX10_part_0 : decode cX10_part 0 = .ok (.iload 4, 2) := by decide +kernel
theorem dX10_part_2 : decode cX10_part 2 = .ok (.ifCond .ne 7, 3) := by decide +kernel
theorem dX10_part_9 : decode cX10_part 9 = .ok (.lload_n 2, 1) := by decide +kernel
theorem dX10_part_10 : decode cX10_part 10 = .ok (.lload_n 0, 1) := by decide +kernel
theorem dX10_part_11 : decode cX10_part 11 = .ok (.lload_n 2, 1) := by decide +kernel
theorem dX10_part_12 : decode cX10_part 12 = .ok (.invokestatic 447, 3) := by decide +kernel
theorem dX10_part_15 : decode cX10_part 15 = .ok (.ldiv, 1) := by decide +kernel
theorem dX10_part_16 : decode cX10_part 16 = .ok (.l2i, 1) := by decide +kernel
theorem dX10_part_17 : decode cX10_part 17 = .ok (.ireturn, 1) := by decide +kernel
theorem dX10_part_5 : decode cX10_part 5 = .ok (.lload_n 0, 1) := by decide +kernel
theorem dX10_part_6 : decode cX10_part 6 = .ok (.goto 4, 3) := by decide +kernel
set_option maxHeartbeats 4000000 in
set_option maxRecDepth 100000 in
theorem k_X10_part_0 (l : Launch) (V : GV) (k0 : Int64) (k1 : Int64) (a2 : Int32) (bk1 : ivL 1 10000000 k1) : Ct l V yX10_part (.code yX10_part cX10_part 5 (some .int)) 50 [.long k0, .long k1, .int a2] [] 0 0 (QI V (fun (r : Int32) (w : va_W) => w = [])) := by
  refine Ct.of (by decide) (Nat.le_of_ble_eq_true rfl) (fun p e s m below meth c A ls hx hb hr hml hown hlk hnm hg hP hK hD hE hA hS hl => ?_)
  have hl : lv_has ls 5 [(0, .long k0), (2, .long k1), (4, .int a2)] := hl
  refine lv_iload hx hb dX10_part_0 (lv_at hl 2 rfl) ?_
  refine lv_if_ne (tgt := 9) hx hb dX10_part_2 (by decide) (fun c_1 => ?_) (fun c_1 => ?_)
  · refine lv_lload_n hx hb dX10_part_9 rfl (lv_at hl 1 rfl) ?_
    refine lv_lload_n hx hb dX10_part_10 rfl (lv_at hl 0 rfl) ?_
    refine lv_lload_n hx hb dX10_part_11 rfl (lv_at hl 1 rfl) ?_
    refine jnL (wr := []) (rnS (rest := [.long k1]) ⟨hx, hb, hml, hown, hg⟩ (k_X10_common_48 l V k0 k1 (ivL_w bk1 (by decide)) (Or.inr (ivL_nz bk1 (by decide)))) mt_X10_common q_8_124 ⟨Nat.le_of_ble_eq_true rfl, Nat.le_of_ble_eq_true rfl⟩ hK hP hD hS hA hE [] rfl rfl rfl hl.1 rfl (Nat.le_of_ble_eq_true rfl) dX10_part_12 ⟨Nat.le_of_ble_eq_true rfl, Nat.le_of_ble_eq_true rfl⟩) hP hD hS hA [] [] rfl rfl rfl (by decide) (fun r_2 w H locs hw hP hD hS => ?_)
    obtain ⟨g_3, rfl⟩ := hw
    have hP : va_P V.1 vwCl [] H := hP
    have hD : va_D A [] := hD
    refine lv_ldiv hx hb dX10_part_15 g_3 ?_
    refine lv_topl (fun j_4 ej_4 => ?_)
    refine lv_l2i hx hb dX10_part_16 rfl ?_
    refine lv_topi (fun x_5 ex_5 => ?_)
    exact fiI hx hb hr hlk hK hP hD hS dX10_part_17 (Nat.le_of_ble_eq_true rfl) (Nat.le_of_ble_eq_true rfl) (rfl)
  · have b_6 : iv 0 0 a2 := iv_q c_1 (iv_c (0 : Int32) (a := 0) (b := 0) (by decide))
    refine lv_lload_n hx hb dX10_part_5 rfl (lv_at hl 0 rfl) ?_
    refine lv_goto (tgt := 10) hx hb dX10_part_6 (by decide) ?_
    refine lv_lload_n hx hb dX10_part_10 rfl (lv_at hl 0 rfl) ?_
    refine lv_lload_n hx hb dX10_part_11 rfl (lv_at hl 1 rfl) ?_
    refine jnL (wr := []) (rnS (rest := [.long k0]) ⟨hx, hb, hml, hown, hg⟩ (k_X10_common_48 l V k0 k1 (ivL_w bk1 (by decide)) (Or.inr (ivL_nz bk1 (by decide)))) mt_X10_common q_8_124 ⟨Nat.le_of_ble_eq_true rfl, Nat.le_of_ble_eq_true rfl⟩ hK hP hD hS hA hE [] rfl rfl rfl hl.1 rfl (Nat.le_of_ble_eq_true rfl) dX10_part_12 ⟨Nat.le_of_ble_eq_true rfl, Nat.le_of_ble_eq_true rfl⟩) hP hD hS hA [] [] rfl rfl rfl (by decide) (fun r_7 w H locs hw hP hD hS => ?_)
    obtain ⟨g_8, rfl⟩ := hw
    have hP : va_P V.1 vwCl [] H := hP
    have hD : va_D A [] := hD
    refine lv_ldiv hx hb dX10_part_15 g_8 ?_
    refine lv_topl (fun j_9 ej_9 => ?_)
    refine lv_l2i hx hb dX10_part_16 rfl ?_
    refine lv_topi (fun x_10 ex_10 => ?_)
    exact fiI hx hb hr hlk hK hP hD hS dX10_part_17 (Nat.le_of_ble_eq_true rfl) (Nat.le_of_ble_eq_true rfl) (rfl)
theorem dX10_chance_0 : decode cX10_chance 0 = .ok (.aload_n 0, 1) := by decide +kernel
theorem dX10_chance_1 : decode cX10_chance 1 = .ok (.iconst 0, 1) := by decide +kernel
theorem dX10_chance_2 : decode cX10_chance 2 = .ok (.putfield 1, 3) := by decide +kernel
theorem dX10_chance_5 : decode cX10_chance 5 = .ok (.aload_n 0, 1) := by decide +kernel
theorem dX10_chance_6 : decode cX10_chance 6 = .ok (.iload_n 1, 1) := by decide +kernel
theorem dX10_chance_7 : decode cX10_chance 7 = .ok (.i2l, 1) := by decide +kernel
theorem dX10_chance_8 : decode cX10_chance 8 = .ok (.invokevirtual 262, 3) := by decide +kernel
theorem dX10_chance_11 : decode cX10_chance 11 = .ok (.ifCond .eq 14, 3) := by decide +kernel
theorem dX10_chance_25 : decode cX10_chance 25 = .ok (.bipush (-2), 2) := by decide +kernel
theorem dX10_chance_27 : decode cX10_chance 27 = .ok (.ireturn, 1) := by decide +kernel
theorem dX10_chance_14 : decode cX10_chance 14 = .ok (.iload 4, 2) := by decide +kernel
theorem dX10_chance_16 : decode cX10_chance 16 = .ok (.i2l, 1) := by decide +kernel
theorem dX10_chance_17 : decode cX10_chance 17 = .ok (.lconst 0, 1) := by decide +kernel
theorem dX10_chance_18 : decode cX10_chance 18 = .ok (.lconst 1, 1) := by decide +kernel
theorem dX10_chance_19 : decode cX10_chance 19 = .ok (.invokestatic 159, 3) := by decide +kernel
theorem dX10_chance_22 : decode cX10_chance 22 = .ok (.ifCond .ne 6, 3) := by decide +kernel
theorem dX10_chance_28 : decode cX10_chance 28 = .ok (.iload_n 2, 1) := by decide +kernel
theorem dX10_chance_29 : decode cX10_chance 29 = .ok (.invokestatic 370, 3) := by decide +kernel
theorem dX10_chance_32 : decode cX10_chance 32 = .ok (.ifCond .eq 15, 3) := by decide +kernel
theorem dX10_chance_47 : decode cX10_chance 47 = .ok (.bipush (-3), 2) := by decide +kernel
theorem dX10_chance_49 : decode cX10_chance 49 = .ok (.ireturn, 1) := by decide +kernel
theorem dX10_chance_35 : decode cX10_chance 35 = .ok (.iload_n 3, 1) := by decide +kernel
theorem dX10_chance_36 : decode cX10_chance 36 = .ok (.i2l, 1) := by decide +kernel
theorem dX10_chance_37 : decode cX10_chance 37 = .ok (.lconst 0, 1) := by decide +kernel
theorem q_8_113 : Cond.constantLong "BeaconDelayModel" 451 (7 : Int64) ∈ gw := gw_8 (i := 113) (by decide +kernel) rfl
theorem dX10_chance_38 : decode cX10_chance 38 = .ok (.ldc2_w 451, 3) := by decide +kernel
theorem dX10_chance_41 : decode cX10_chance 41 = .ok (.invokestatic 159, 3) := by decide +kernel
theorem dX10_chance_44 : decode cX10_chance 44 = .ok (.ifCond .ne 6, 3) := by decide +kernel
theorem dX10_chance_50 : decode cX10_chance 50 = .ok (.aload_n 0, 1) := by decide +kernel
theorem dX10_chance_51 : decode cX10_chance 51 = .ok (.iload_n 3, 1) := by decide +kernel
theorem q_8_117 : Cond.code yX10_laysLikely prog_12_method_122_code 4 none ∈ gw := gw_8 (i := 117) (rfl) rfl
theorem q_8_116 : Cond.instanceMethod yX10_laysLikely ∈ gw := gw_8 (i := 116) (by decide +kernel) rfl
theorem q_s_125 : Cond.selects "BeaconDelayModel" yX10_laysLikely yX10_laysLikely ∈ gw := gw_s (i := 125) (by decide +kernel) rfl
theorem mt_X10_laysLikely : MtV yX10_laysLikely cX10_laysLikely 4 none 1 := ⟨⟨q_8_117, q_1_9, by decide +kernel, by decide +kernel, by decide +kernel⟩, q_8_116, q_s_125⟩
theorem q_8_114 : Cond.methodLink "BeaconDelayModel" 453 yX10_laysLikely ∈ gw := gw_8 (i := 114) (by decide +kernel) rfl
theorem dX10_chance_52 : decode cX10_chance 52 = .ok (.invokevirtual 453, 3) := by decide +kernel
theorem dX10_chance_55 : decode cX10_chance 55 = .ok (.lconst 0, 1) := by decide +kernel
theorem dX10_chance_56 : decode cX10_chance 56 = .ok (.lstore 5, 2) := by decide +kernel
theorem dX10_chance_58 : decode cX10_chance 58 = .ok (.iconst 0, 1) := by decide +kernel
theorem dX10_chance_59 : decode cX10_chance 59 = .ok (.istore 7, 2) := by decide +kernel
theorem dX10_chance_61 : decode cX10_chance 61 = .ok (.iload 7, 2) := by decide +kernel
theorem dX10_chance_63 : decode cX10_chance 63 = .ok (.aload_n 0, 1) := by decide +kernel
theorem dX10_chance_64 : decode cX10_chance 64 = .ok (.getfield 355, 3) := by decide +kernel
theorem dX10_chance_67 : decode cX10_chance 67 = .ok (.if_icmp .ge 45, 3) := by decide +kernel
theorem dX10_chance_112 : decode cX10_chance 112 = .ok (.lload 5, 2) := by decide +kernel
theorem dX10_chance_114 : decode cX10_chance 114 = .ok (.iload_n 3, 1) := by decide +kernel
theorem q_8_120 : Cond.code yX10_wholeOf prog_12_method_123_code 4 (some FieldType.long) ∈ gw := gw_8 (i := 120) (rfl) rfl
theorem q_8_119 : Cond.static yX10_wholeOf ∈ gw := gw_8 (i := 119) (by decide +kernel) rfl
theorem mt_X10_wholeOf : MtS yX10_wholeOf cX10_wholeOf 4 (some .long) 1 := ⟨⟨q_8_120, q_1_9, by decide +kernel, by decide +kernel, by decide +kernel⟩, q_8_119⟩
theorem q_8_118 : Cond.methodLink "BeaconDelayModel" 456 yX10_wholeOf ∈ gw := gw_8 (i := 118) (by decide +kernel) rfl
theorem dX10_chance_115 : decode cX10_chance 115 = .ok (.invokestatic 456, 3) := by decide +kernel
theorem dX10_chance_118 : decode cX10_chance 118 = .ok (.iload 4, 2) := by decide +kernel
theorem q_8_123 : Cond.code yX10_part prog_12_method_125_code 5 (some FieldType.int) ∈ gw := gw_8 (i := 123) (rfl) rfl
theorem q_8_122 : Cond.static yX10_part ∈ gw := gw_8 (i := 122) (by decide +kernel) rfl
theorem mt_X10_part : MtS yX10_part cX10_part 5 (some .int) 3 := ⟨⟨q_8_123, q_1_9, by decide +kernel, by decide +kernel, by decide +kernel⟩, q_8_122⟩
theorem q_8_121 : Cond.methodLink "BeaconDelayModel" 460 yX10_part ∈ gw := gw_8 (i := 121) (by decide +kernel) rfl
theorem dX10_chance_120 : decode cX10_chance 120 = .ok (.invokestatic 460, 3) := by decide +kernel
theorem dX10_chance_123 : decode cX10_chance 123 = .ok (.ireturn, 1) := by decide +kernel
theorem dX10_chance_70 : decode cX10_chance 70 = .ok (.lload 5, 2) := by decide +kernel
theorem dX10_chance_72 : decode cX10_chance 72 = .ok (.aload_n 0, 1) := by decide +kernel
theorem dX10_chance_73 : decode cX10_chance 73 = .ok (.getfield 45, 3) := by decide +kernel
theorem dX10_chance_76 : decode cX10_chance 76 = .ok (.iload 7, 2) := by decide +kernel
theorem dX10_chance_78 : decode cX10_chance 78 = .ok (.iaload, 1) := by decide +kernel
theorem dX10_chance_79 : decode cX10_chance 79 = .ok (.iload_n 1, 1) := by decide +kernel
theorem dX10_chance_80 : decode cX10_chance 80 = .ok (.invokestatic 231, 3) := by decide +kernel
theorem dX10_chance_83 : decode cX10_chance 83 = .ok (.iload_n 2, 1) := by decide +kernel
theorem dX10_chance_84 : decode cX10_chance 84 = .ok (.if_icmp .lt 18, 3) := by decide +kernel
theorem dX10_chance_102 : decode cX10_chance 102 = .ok (.lconst 0, 1) := by decide +kernel
theorem dX10_chance_103 : decode cX10_chance 103 = .ok (.ladd, 1) := by decide +kernel
theorem dX10_chance_104 : decode cX10_chance 104 = .ok (.lstore 5, 2) := by decide +kernel
theorem dX10_chance_106 : decode cX10_chance 106 = .ok (.iinc 7 1, 3) := by decide +kernel
theorem dX10_chance_109 : decode cX10_chance 109 = .ok (.goto (-48), 3) := by decide +kernel
theorem dX10_chance_87 : decode cX10_chance 87 = .ok (.aload_n 0, 1) := by decide +kernel
theorem dX10_chance_88 : decode cX10_chance 88 = .ok (.getfield 61, 3) := by decide +kernel
theorem dX10_chance_91 : decode cX10_chance 91 = .ok (.aload_n 0, 1) := by decide +kernel
theorem dX10_chance_92 : decode cX10_chance 92 = .ok (.getfield 45, 3) := by decide +kernel
theorem dX10_chance_95 : decode cX10_chance 95 = .ok (.iload 7, 2) := by decide +kernel
theorem dX10_chance_97 : decode cX10_chance 97 = .ok (.iaload, 1) := by decide +kernel
theorem dX10_chance_98 : decode cX10_chance 98 = .ok (.laload, 1) := by decide +kernel
theorem dX10_chance_99 : decode cX10_chance 99 = .ok (.goto 4, 3) := by decide +kernel
set_option maxHeartbeats 4000000 in
set_option maxRecDepth 100000 in
theorem k_X10_chance_0 (l : Launch) (V : GV) (z : Nat → Nat) (a1 : Int32) (a2 : Int32) (a3 : Int32) (a4 : Int32) (pz0_0 : Int32) (pz0_5 : Int32) (pz0_6 : Int32) (pz0_7 : Int32) (pz0_8 : Int32) (pz0_9 : Int32) (pz0_10 : Int32) (pz0_11 : Int32) (pz0_12 : Int32) (pz0_13 : Int32) (pz0_14 : Int32) (pz0_18 : Int32) (pz0_19 : Int32) (pz0_22 : Int32) (pz0_23 : Int32) (pz0_29 : Int32) (fz1 : Nat → Int32) (fz15 : Nat → Int32) (fz16 : Nat → Int32) (fz24 : Nat → Int32) (fz25 : Nat → Int32) (fz28 : Nat → Int32) (fz30 : Nat → Int64) (fz31 : Nat → Int64) (bpz0_5 : iv 0 900 pz0_5) (bpz0_6 : iv 0 900 pz0_6) (bpz0_7 : iv 0 900 pz0_7) (bpz0_8 : iv 0 900 pz0_8) (bpz0_10 : iv 0 999 pz0_10) (bpz0_11 : iv 0 4 pz0_11) (bpz0_12 : iv 0 900 pz0_12) (bpz0_13 : iv 0 4 pz0_13) (bpz0_14 : iv (-1) 900 pz0_14) (bpz0_18 : iv 0 2 pz0_18) (bpz0_22 : iv 0 9999 pz0_22) (bpz0_29 : iv 0 10000 pz0_29) (tfz1 : ivT tA fz1) (tfz16 : ivT tW fz16) (tfz24 : ∀ j, iv 0 9999 (fz24 j)) (tfz25 : ∀ j, iv (-1) 9999 (fz25 j)) (hf0 : RW fz1) : Ct l V yX10_chance (.code yX10_chance cX10_chance 8 (some .int)) 51 [.ref (z 0), .int a1, .int a2, .int a3, .int a4] [(z 0, .inr (10, mo z pz0_0 pz0_5 pz0_6 pz0_7 pz0_8 pz0_9 pz0_10 pz0_11 pz0_12 pz0_13 pz0_14 pz0_18 pz0_19 pz0_22 pz0_23 pz0_29)), (z 1, aI V 3075 fz1), (z 15, aI V 900 fz15), (z 16, aI V 6 fz16), (z 24, aI V 10000 fz24), (z 25, aI V 40000 fz25), (z 28, aZ V 10000 fz28), (z 30, aJ V 10000 fz30), (z 31, aJ V 10000 fz31)] 0 0 (QI V (fun (r : Int32) (w : va_W) => ∃ (v0 : Int32) (v1 : Int32) (g2 : Nat → Int32) (g3 : Nat → Int32) (g4 : Nat → Int32) (g5 : Nat → Int32) (g6 : Nat → Int32) (g7 : Nat → Int64) (g8 : Nat → Int64), iv 0 10000 v1 ∧ (ivT tW g3) ∧ (∀ j, iv 0 9999 (g4 j)) ∧ (∀ j, iv (-1) 9999 (g5 j)) ∧ (RW fz1) ∧ w = [(z 0, .inr (10, mo z v0 pz0_5 pz0_6 pz0_7 pz0_8 pz0_9 pz0_10 pz0_11 pz0_12 pz0_13 pz0_14 pz0_18 pz0_19 pz0_22 pz0_23 v1)), (z 1, aI V 3075 fz1), (z 15, aI V 900 g2), (z 16, aI V 6 g3), (z 24, aI V 10000 g4), (z 25, aI V 40000 g5), (z 28, aZ V 10000 g6), (z 30, aJ V 10000 g7), (z 31, aJ V 10000 g8)])) := by
  refine Ct.of (by decide) (Nat.le_of_ble_eq_true rfl) (fun p e s m below meth c A ls hx hb hr hml hown hlk hnm hg hP hK hD hE hA hS hl => ?_)
  have hl : lv_has ls 8 [(0, .ref (z 0)), (1, .int a1), (2, .int a2), (3, .int a3), (4, .int a4)] := hl
  refine lv_aload_n hx hb dX10_chance_0 rfl (lv_at hl 0 rfl) ?_
  refine lv_iconst (v := 0) hx hb dX10_chance_1 (by decide) ?_
  refine va_put (ci := 10) (v := .int 0) (ty := .int) (C := RX10) (T := TX10) (N := 40) hx hb hg inX10 tyX10 tyX10_ok nmX10 hown hK hP hD hS 0 rfl rfl 0 (by decide) (hg _ q_5_224) (fun _ h9 => h9) rfl (by decide +kernel) rfl rfl (Nat.le_of_ble_eq_true rfl) dX10_chance_2 (fun H locs hP hD hS => ?_)
  have hP : va_P V.1 vwCl [(z 0, .inr (10, mo z 0 pz0_5 pz0_6 pz0_7 pz0_8 pz0_9 pz0_10 pz0_11 pz0_12 pz0_13 pz0_14 pz0_18 pz0_19 pz0_22 pz0_23 pz0_29)), (z 1, aI V 3075 fz1), (z 15, aI V 900 fz15), (z 16, aI V 6 fz16), (z 24, aI V 10000 fz24), (z 25, aI V 40000 fz25), (z 28, aZ V 10000 fz28), (z 30, aJ V 10000 fz30), (z 31, aJ V 10000 fz31)] H := hP
  have hD : va_D A [(z 0, .inr (10, mo z 0 pz0_5 pz0_6 pz0_7 pz0_8 pz0_9 pz0_10 pz0_11 pz0_12 pz0_13 pz0_14 pz0_18 pz0_19 pz0_22 pz0_23 pz0_29)), (z 1, aI V 3075 fz1), (z 15, aI V 900 fz15), (z 16, aI V 6 fz16), (z 24, aI V 10000 fz24), (z 25, aI V 40000 fz25), (z 28, aZ V 10000 fz28), (z 30, aJ V 10000 fz30), (z 31, aJ V 10000 fz31)] := hD
  refine lv_aload_n hx hb dX10_chance_5 rfl (lv_at hl 0 rfl) ?_
  refine lv_iload_n hx hb dX10_chance_6 rfl (lv_at hl 1 rfl) ?_
  refine lv_i2l hx hb dX10_chance_7 rfl ?_
  refine lv_topl (fun j_1 ej_1 => ?_)
  refine jnI (wr := [(z 15, aI V 900 fz15), (z 16, aI V 6 fz16), (z 24, aI V 10000 fz24), (z 25, aI V 40000 fz25), (z 28, aZ V 10000 fz28), (z 30, aJ V 10000 fz30), (z 31, aJ V 10000 fz31)]) (rnV (rest := []) ⟨hx, hb, hml, hown, hg⟩ (k_X10_isHill_0 l V z j_1 0 pz0_5 pz0_6 pz0_7 pz0_8 pz0_9 pz0_10 pz0_11 pz0_12 pz0_13 pz0_14 pz0_18 pz0_19 pz0_22 pz0_23 pz0_29 fz1 bpz0_5 bpz0_6 bpz0_7 bpz0_8 bpz0_10 bpz0_11 bpz0_12 bpz0_13 bpz0_14 bpz0_18 bpz0_22 bpz0_29 tfz1) mt_X10_isHill q_6_235 ⟨Nat.le_of_ble_eq_true rfl, Nat.le_of_ble_eq_true rfl⟩ hK hP hD hS hA hE [0, 1] rfl rfl 0 rfl rfl rfl rfl hl.1 rfl (Nat.le_of_ble_eq_true rfl) dX10_chance_8 ⟨Nat.le_of_ble_eq_true rfl, Nat.le_of_ble_eq_true rfl⟩) hP hD hS hA [0, 1] [2, 3, 4, 5, 6, 7, 8] rfl rfl rfl (by decide) (fun r_2 w H locs hw hP hD hS => ?_)
  obtain ⟨br_2, g_3, rfl⟩ := hw
  have hP : va_P V.1 vwCl [(z 15, aI V 900 fz15), (z 16, aI V 6 fz16), (z 24, aI V 10000 fz24), (z 25, aI V 40000 fz25), (z 28, aZ V 10000 fz28), (z 30, aJ V 10000 fz30), (z 31, aJ V 10000 fz31), (z 0, .inr (10, mo z 0 pz0_5 pz0_6 pz0_7 pz0_8 pz0_9 pz0_10 pz0_11 pz0_12 pz0_13 pz0_14 pz0_18 pz0_19 pz0_22 pz0_23 pz0_29)), (z 1, aI V 3075 fz1)] H := hP
  have hD : va_D A [(z 15, aI V 900 fz15), (z 16, aI V 6 fz16), (z 24, aI V 10000 fz24), (z 25, aI V 40000 fz25), (z 28, aZ V 10000 fz28), (z 30, aJ V 10000 fz30), (z 31, aJ V 10000 fz31), (z 0, .inr (10, mo z 0 pz0_5 pz0_6 pz0_7 pz0_8 pz0_9 pz0_10 pz0_11 pz0_12 pz0_13 pz0_14 pz0_18 pz0_19 pz0_22 pz0_23 pz0_29)), (z 1, aI V 3075 fz1)] := hD
  refine lv_if_eq (tgt := 25) hx hb dX10_chance_11 (by decide) (fun c_4 => ?_) (fun c_4 => ?_)
  · have b_5 : iv 0 0 r_2 := iv_q c_4 (iv_c (0 : Int32) (a := 0) (b := 0) (by decide))
    refine lv_bipush (v := (-2)) hx hb dX10_chance_25 (by decide) ?_
    have hP := subP (ws' := [(z 0, .inr (10, mo z 0 pz0_5 pz0_6 pz0_7 pz0_8 pz0_9 pz0_10 pz0_11 pz0_12 pz0_13 pz0_14 pz0_18 pz0_19 pz0_22 pz0_23 pz0_29)), (z 1, aI V 3075 fz1), (z 15, aI V 900 fz15), (z 16, aI V 6 fz16), (z 24, aI V 10000 fz24), (z 25, aI V 40000 fz25), (z 28, aZ V 10000 fz28), (z 30, aJ V 10000 fz30), (z 31, aJ V 10000 fz31)]) hP [7, 8, 0, 1, 2, 3, 4, 5, 6] rfl
    have hD := hD.sub (ws' := [(z 0, .inr (10, mo z 0 pz0_5 pz0_6 pz0_7 pz0_8 pz0_9 pz0_10 pz0_11 pz0_12 pz0_13 pz0_14 pz0_18 pz0_19 pz0_22 pz0_23 pz0_29)), (z 1, aI V 3075 fz1), (z 15, aI V 900 fz15), (z 16, aI V 6 fz16), (z 24, aI V 10000 fz24), (z 25, aI V 40000 fz25), (z 28, aZ V 10000 fz28), (z 30, aJ V 10000 fz30), (z 31, aJ V 10000 fz31)]) [7, 8, 0, 1, 2, 3, 4, 5, 6] rfl rfl
    exact fiI hx hb hr hlk hK hP hD hS dX10_chance_27 (Nat.le_of_ble_eq_true rfl) (Nat.le_of_ble_eq_true rfl) (⟨0, pz0_29, fz15, fz16, fz24, fz25, fz28, fz30, fz31, bpz0_29, tfz16, tfz24, tfz25, hf0, rfl⟩)
  · have b_6 : iv 1 1 r_2 := iv_n0 c_4 br_2 (iv_c (0 : Int32) (a := 0) (b := 0) (by decide)) (by decide)
    have b_7 : ivL 0 3 j_1 := ivL_cap (g_3 (iv_eqp b_6 (iv_c (1 : Int32) (by decide)))) (ivL_top j_1) (by decide)
    have b_8 : iv 0 3 a1 := iv_cap (ivL_i ej_1 b_7) (iv_top a1) (by decide)
    refine lv_iload hx hb dX10_chance_14 (lv_at hl 4 rfl) ?_
    refine lv_i2l hx hb dX10_chance_16 rfl ?_
    refine lv_topl (fun j_9 ej_9 => ?_)
    refine lv_lconst (v := 0) hx hb dX10_chance_17 (by decide) ?_
    refine lv_lconst (v := 1) hx hb dX10_chance_18 (by decide) ?_
    refine jnI (wr := [(z 15, aI V 900 fz15), (z 16, aI V 6 fz16), (z 24, aI V 10000 fz24), (z 25, aI V 40000 fz25), (z 28, aZ V 10000 fz28), (z 30, aJ V 10000 fz30), (z 31, aJ V 10000 fz31), (z 0, .inr (10, mo z 0 pz0_5 pz0_6 pz0_7 pz0_8 pz0_9 pz0_10 pz0_11 pz0_12 pz0_13 pz0_14 pz0_18 pz0_19 pz0_22 pz0_23 pz0_29)), (z 1, aI V 3075 fz1)]) (rnS (rest := []) ⟨hx, hb, hml, hown, hg⟩ (k_X10_within_0 l V j_9 0 1) mt_X10_within q_6_114 ⟨Nat.le_of_ble_eq_true rfl, Nat.le_of_ble_eq_true rfl⟩ hK hP hD hS hA hE [] rfl rfl rfl hl.1 rfl (Nat.le_of_ble_eq_true rfl) dX10_chance_19 ⟨Nat.le_of_ble_eq_true rfl, Nat.le_of_ble_eq_true rfl⟩) hP hD hS hA [] [0, 1, 2, 3, 4, 5, 6, 7, 8] rfl rfl rfl (by decide) (fun r_10 w H locs hw hP hD hS => ?_)
    obtain ⟨br_10, g_11, g_12, g_13, rfl⟩ := hw
    have hP : va_P V.1 vwCl [(z 15, aI V 900 fz15), (z 16, aI V 6 fz16), (z 24, aI V 10000 fz24), (z 25, aI V 40000 fz25), (z 28, aZ V 10000 fz28), (z 30, aJ V 10000 fz30), (z 31, aJ V 10000 fz31), (z 0, .inr (10, mo z 0 pz0_5 pz0_6 pz0_7 pz0_8 pz0_9 pz0_10 pz0_11 pz0_12 pz0_13 pz0_14 pz0_18 pz0_19 pz0_22 pz0_23 pz0_29)), (z 1, aI V 3075 fz1)] H := hP
    have hD : va_D A [(z 15, aI V 900 fz15), (z 16, aI V 6 fz16), (z 24, aI V 10000 fz24), (z 25, aI V 40000 fz25), (z 28, aZ V 10000 fz28), (z 30, aJ V 10000 fz30), (z 31, aJ V 10000 fz31), (z 0, .inr (10, mo z 0 pz0_5 pz0_6 pz0_7 pz0_8 pz0_9 pz0_10 pz0_11 pz0_12 pz0_13 pz0_14 pz0_18 pz0_19 pz0_22 pz0_23 pz0_29)), (z 1, aI V 3075 fz1)] := hD
    refine lv_if_ne (tgt := 28) hx hb dX10_chance_22 (by decide) (fun c_14 => ?_) (fun c_14 => ?_)
    · have b_15 : iv 1 1 r_10 := iv_n0 c_14 br_10 (iv_c (0 : Int32) (a := 0) (b := 0) (by decide)) (by decide)
      have c_16 : (0 : Int64) ≤ j_9 := (g_12 (iv_eqp b_15 (iv_c (1 : Int32) (by decide))))
      have b_17 : ivL 0 9223372036854775807 j_9 := ivL_e2 c_16 (ivL_c (0 : Int64) (a := 0) (b := 0) (by decide)) (ivL_top j_9) (by decide)
      have b_18 : iv 0 2147483647 a4 := iv_cap (ivL_i ej_9 b_17) (iv_top a4) (by decide)
      have c_19 : j_9 ≤ 1 := (g_13 (iv_eqp b_15 (iv_c (1 : Int32) (by decide))))
      have b_20 : ivL 0 1 j_9 := ivL_e1 c_19 b_17 (ivL_c (1 : Int64) (a := 1) (b := 1) (by decide)) (by decide)
      have b_21 : iv 0 1 a4 := iv_cap (ivL_i ej_9 b_20) b_18 (by decide)
      refine lv_iload_n hx hb dX10_chance_28 rfl (lv_at hl 2 rfl) ?_
      refine jnI (wr := [(z 15, aI V 900 fz15), (z 16, aI V 6 fz16), (z 24, aI V 10000 fz24), (z 25, aI V 40000 fz25), (z 28, aZ V 10000 fz28), (z 30, aJ V 10000 fz30), (z 31, aJ V 10000 fz31), (z 0, .inr (10, mo z 0 pz0_5 pz0_6 pz0_7 pz0_8 pz0_9 pz0_10 pz0_11 pz0_12 pz0_13 pz0_14 pz0_18 pz0_19 pz0_22 pz0_23 pz0_29)), (z 1, aI V 3075 fz1)]) (rnS (rest := []) ⟨hx, hb, hml, hown, hg⟩ (k_X10_isHigh_0 l V a2) mt_X10_isHigh q_7_186 ⟨Nat.le_of_ble_eq_true rfl, Nat.le_of_ble_eq_true rfl⟩ hK hP hD hS hA hE [] rfl rfl rfl hl.1 rfl (Nat.le_of_ble_eq_true rfl) dX10_chance_29 ⟨Nat.le_of_ble_eq_true rfl, Nat.le_of_ble_eq_true rfl⟩) hP hD hS hA [] [0, 1, 2, 3, 4, 5, 6, 7, 8] rfl rfl rfl (by decide) (fun r_22 w H locs hw hP hD hS => ?_)
      obtain ⟨br_22, g_23, rfl⟩ := hw
      have hP : va_P V.1 vwCl [(z 15, aI V 900 fz15), (z 16, aI V 6 fz16), (z 24, aI V 10000 fz24), (z 25, aI V 40000 fz25), (z 28, aZ V 10000 fz28), (z 30, aJ V 10000 fz30), (z 31, aJ V 10000 fz31), (z 0, .inr (10, mo z 0 pz0_5 pz0_6 pz0_7 pz0_8 pz0_9 pz0_10 pz0_11 pz0_12 pz0_13 pz0_14 pz0_18 pz0_19 pz0_22 pz0_23 pz0_29)), (z 1, aI V 3075 fz1)] H := hP
      have hD : va_D A [(z 15, aI V 900 fz15), (z 16, aI V 6 fz16), (z 24, aI V 10000 fz24), (z 25, aI V 40000 fz25), (z 28, aZ V 10000 fz28), (z 30, aJ V 10000 fz30), (z 31, aJ V 10000 fz31), (z 0, .inr (10, mo z 0 pz0_5 pz0_6 pz0_7 pz0_8 pz0_9 pz0_10 pz0_11 pz0_12 pz0_13 pz0_14 pz0_18 pz0_19 pz0_22 pz0_23 pz0_29)), (z 1, aI V 3075 fz1)] := hD
      refine lv_if_eq (tgt := 47) hx hb dX10_chance_32 (by decide) (fun c_24 => ?_) (fun c_24 => ?_)
      · have b_25 : iv 0 0 r_22 := iv_q c_24 (iv_c (0 : Int32) (a := 0) (b := 0) (by decide))
        refine lv_bipush (v := (-3)) hx hb dX10_chance_47 (by decide) ?_
        have hP := subP (ws' := [(z 0, .inr (10, mo z 0 pz0_5 pz0_6 pz0_7 pz0_8 pz0_9 pz0_10 pz0_11 pz0_12 pz0_13 pz0_14 pz0_18 pz0_19 pz0_22 pz0_23 pz0_29)), (z 1, aI V 3075 fz1), (z 15, aI V 900 fz15), (z 16, aI V 6 fz16), (z 24, aI V 10000 fz24), (z 25, aI V 40000 fz25), (z 28, aZ V 10000 fz28), (z 30, aJ V 10000 fz30), (z 31, aJ V 10000 fz31)]) hP [7, 8, 0, 1, 2, 3, 4, 5, 6] rfl
        have hD := hD.sub (ws' := [(z 0, .inr (10, mo z 0 pz0_5 pz0_6 pz0_7 pz0_8 pz0_9 pz0_10 pz0_11 pz0_12 pz0_13 pz0_14 pz0_18 pz0_19 pz0_22 pz0_23 pz0_29)), (z 1, aI V 3075 fz1), (z 15, aI V 900 fz15), (z 16, aI V 6 fz16), (z 24, aI V 10000 fz24), (z 25, aI V 40000 fz25), (z 28, aZ V 10000 fz28), (z 30, aJ V 10000 fz30), (z 31, aJ V 10000 fz31)]) [7, 8, 0, 1, 2, 3, 4, 5, 6] rfl rfl
        exact fiI hx hb hr hlk hK hP hD hS dX10_chance_49 (Nat.le_of_ble_eq_true rfl) (Nat.le_of_ble_eq_true rfl) (⟨0, pz0_29, fz15, fz16, fz24, fz25, fz28, fz30, fz31, bpz0_29, tfz16, tfz24, tfz25, hf0, rfl⟩)
      · have b_26 : iv 1 1 r_22 := iv_n0 c_24 br_22 (iv_c (0 : Int32) (a := 0) (b := 0) (by decide)) (by decide)
        have b_27 : iv 0 4 a2 := iv_cap (g_23 (iv_eqp b_26 (iv_c (1 : Int32) (by decide)))) (iv_top a2) (by decide)
        refine lv_iload_n hx hb dX10_chance_35 rfl (lv_at hl 3 rfl) ?_
        refine lv_i2l hx hb dX10_chance_36 rfl ?_
        refine lv_topl (fun j_28 ej_28 => ?_)
        refine lv_lconst (v := 0) hx hb dX10_chance_37 (by decide) ?_
        refine lv_ldc2 (v := 7) hx hb hown (hg _ q_8_113) dX10_chance_38 ?_
        refine jnI (wr := [(z 15, aI V 900 fz15), (z 16, aI V 6 fz16), (z 24, aI V 10000 fz24), (z 25, aI V 40000 fz25), (z 28, aZ V 10000 fz28), (z 30, aJ V 10000 fz30), (z 31, aJ V 10000 fz31), (z 0, .inr (10, mo z 0 pz0_5 pz0_6 pz0_7 pz0_8 pz0_9 pz0_10 pz0_11 pz0_12 pz0_13 pz0_14 pz0_18 pz0_19 pz0_22 pz0_23 pz0_29)), (z 1, aI V 3075 fz1)]) (rnS (rest := []) ⟨hx, hb, hml, hown, hg⟩ (k_X10_within_0 l V j_28 0 7) mt_X10_within q_6_114 ⟨Nat.le_of_ble_eq_true rfl, Nat.le_of_ble_eq_true rfl⟩ hK hP hD hS hA hE [] rfl rfl rfl hl.1 rfl (Nat.le_of_ble_eq_true rfl) dX10_chance_41 ⟨Nat.le_of_ble_eq_true rfl, Nat.le_of_ble_eq_true rfl⟩) hP hD hS hA [] [0, 1, 2, 3, 4, 5, 6, 7, 8] rfl rfl rfl (by decide) (fun r_29 w H locs hw hP hD hS => ?_)
        obtain ⟨br_29, g_30, g_31, g_32, rfl⟩ := hw
        have hP : va_P V.1 vwCl [(z 15, aI V 900 fz15), (z 16, aI V 6 fz16), (z 24, aI V 10000 fz24), (z 25, aI V 40000 fz25), (z 28, aZ V 10000 fz28), (z 30, aJ V 10000 fz30), (z 31, aJ V 10000 fz31), (z 0, .inr (10, mo z 0 pz0_5 pz0_6 pz0_7 pz0_8 pz0_9 pz0_10 pz0_11 pz0_12 pz0_13 pz0_14 pz0_18 pz0_19 pz0_22 pz0_23 pz0_29)), (z 1, aI V 3075 fz1)] H := hP
        have hD : va_D A [(z 15, aI V 900 fz15), (z 16, aI V 6 fz16), (z 24, aI V 10000 fz24), (z 25, aI V 40000 fz25), (z 28, aZ V 10000 fz28), (z 30, aJ V 10000 fz30), (z 31, aJ V 10000 fz31), (z 0, .inr (10, mo z 0 pz0_5 pz0_6 pz0_7 pz0_8 pz0_9 pz0_10 pz0_11 pz0_12 pz0_13 pz0_14 pz0_18 pz0_19 pz0_22 pz0_23 pz0_29)), (z 1, aI V 3075 fz1)] := hD
        refine lv_if_ne (tgt := 50) hx hb dX10_chance_44 (by decide) (fun c_33 => ?_) (fun c_33 => ?_)
        · have b_34 : iv 1 1 r_29 := iv_n0 c_33 br_29 (iv_c (0 : Int32) (a := 0) (b := 0) (by decide)) (by decide)
          have c_35 : (0 : Int64) ≤ j_28 := (g_31 (iv_eqp b_34 (iv_c (1 : Int32) (by decide))))
          have b_36 : ivL 0 9223372036854775807 j_28 := ivL_e2 c_35 (ivL_c (0 : Int64) (a := 0) (b := 0) (by decide)) (ivL_top j_28) (by decide)
          have b_37 : iv 0 2147483647 a3 := iv_cap (ivL_i ej_28 b_36) (iv_top a3) (by decide)
          have c_38 : j_28 ≤ 7 := (g_32 (iv_eqp b_34 (iv_c (1 : Int32) (by decide))))
          have b_39 : ivL 0 7 j_28 := ivL_e1 c_38 b_36 (ivL_c (7 : Int64) (a := 7) (b := 7) (by decide)) (by decide)
          have b_40 : iv 0 7 a3 := iv_cap (ivL_i ej_28 b_39) b_37 (by decide)
          refine lv_aload_n hx hb dX10_chance_50 rfl (lv_at hl 0 rfl) ?_
          refine lv_iload_n hx hb dX10_chance_51 rfl (lv_at hl 3 rfl) ?_
          refine jnV (wr := []) (rnV (rest := []) ⟨hx, hb, hml, hown, hg⟩ (k_X10_laysLikely_0 l V z a3 fz15 fz16 fz24 fz25 fz28 fz30 fz31 0 pz0_5 pz0_6 pz0_7 pz0_8 pz0_9 pz0_10 pz0_11 pz0_12 pz0_13 pz0_14 pz0_18 pz0_19 pz0_22 pz0_23 pz0_29 fz1 tfz16 tfz24 tfz25 bpz0_5 bpz0_6 bpz0_7 bpz0_8 bpz0_10 bpz0_11 bpz0_12 bpz0_13 bpz0_14 bpz0_18 bpz0_22 bpz0_29 tfz1 hf0) mt_X10_laysLikely q_8_114 ⟨Nat.le_of_ble_eq_true rfl, Nat.le_of_ble_eq_true rfl⟩ hK hP hD hS hA hE [0, 1, 2, 3, 4, 5, 6, 7, 8] rfl rfl 7 rfl rfl rfl rfl hl.1 rfl (Nat.le_of_ble_eq_true rfl) dX10_chance_52 ⟨Nat.le_of_ble_eq_true rfl, Nat.le_of_ble_eq_true rfl⟩) hP hD hS hA [0, 1, 2, 3, 4, 5, 6, 7, 8] [] rfl rfl rfl (by decide) (fun  w H locs hw hP hD hS => ?_)
          obtain ⟨f_41, f_42, f_43, f_44, f_45, f_46, f_47, v_48, tf_42, tf_43, tf_44, bv_48, g_49, rfl⟩ := hw
          have hP : va_P V.1 vwCl [(z 15, aI V 900 f_41), (z 16, aI V 6 f_42), (z 24, aI V 10000 f_43), (z 25, aI V 40000 f_44), (z 28, aZ V 10000 f_45), (z 30, aJ V 10000 f_46), (z 31, aJ V 10000 f_47), (z 0, .inr (10, mo z 0 pz0_5 pz0_6 pz0_7 pz0_8 pz0_9 pz0_10 pz0_11 pz0_12 pz0_13 pz0_14 pz0_18 pz0_19 pz0_22 pz0_23 v_48)), (z 1, aI V 3075 fz1)] H := hP
          have hD : va_D A [(z 15, aI V 900 f_41), (z 16, aI V 6 f_42), (z 24, aI V 10000 f_43), (z 25, aI V 40000 f_44), (z 28, aZ V 10000 f_45), (z 30, aJ V 10000 f_46), (z 31, aJ V 10000 f_47), (z 0, .inr (10, mo z 0 pz0_5 pz0_6 pz0_7 pz0_8 pz0_9 pz0_10 pz0_11 pz0_12 pz0_13 pz0_14 pz0_18 pz0_19 pz0_22 pz0_23 v_48)), (z 1, aI V 3075 fz1)] := hD
          refine lv_lconst (v := 0) hx hb dX10_chance_55 (by decide) ?_
          refine lv_lstore (lv' := [(5, .long 0), (0, .ref (z 0)), (1, .int a1), (2, .int a2), (3, .int a3), (4, .int a4)]) hx hb dX10_chance_56 hl (by decide) rfl (fun ls hl => ?_)
          refine lv_iconst (v := 0) hx hb dX10_chance_58 (by decide) ?_
          refine lv_istore (lv' := [(7, .int 0), (5, .long 0), (0, .ref (z 0)), (1, .int a1), (2, .int a2), (3, .int a3), (4, .int a4)]) hx hb dX10_chance_59 hl (by decide) rfl (fun ls hl => ?_)
          refine loopF (X := fun (n_52 : Nat) (H : Heap) (locs : List Loc) (ls : Array Slot) => ∃ (u_50 : Int32) (w_51 : Int64), (iv 0 2147483647 u_50) ∧ (RW fz1) ∧ n_52 = (2147483647 - (u_50 : Int32).toInt).toNat ∧ va_P V.1 vwCl [(z 15, aI V 900 f_41), (z 16, aI V 6 f_42), (z 24, aI V 10000 f_43), (z 25, aI V 40000 f_44), (z 28, aZ V 10000 f_45), (z 30, aJ V 10000 f_46), (z 31, aJ V 10000 f_47), (z 0, .inr (10, mo z 0 pz0_5 pz0_6 pz0_7 pz0_8 pz0_9 pz0_10 pz0_11 pz0_12 pz0_13 pz0_14 pz0_18 pz0_19 pz0_22 pz0_23 v_48)), (z 1, aI V 3075 fz1)] H ∧ va_D A [(z 15, aI V 900 f_41), (z 16, aI V 6 f_42), (z 24, aI V 10000 f_43), (z 25, aI V 40000 f_44), (z 28, aZ V 10000 f_45), (z 30, aJ V 10000 f_46), (z 31, aJ V 10000 f_47), (z 0, .inr (10, mo z 0 pz0_5 pz0_6 pz0_7 pz0_8 pz0_9 pz0_10 pz0_11 pz0_12 pz0_13 pz0_14 pz0_18 pz0_19 pz0_22 pz0_23 v_48)), (z 1, aI V 3075 fz1)] ∧ va_S A s.heap H locs ∧ lv_has ls 8 [(7, .int u_50), (5, .long w_51), (0, .ref (z 0)), (1, .int a1), (2, .int a2), (3, .int a3), (4, .int a4)]) (g := fun ls => F0 m 61 ls []) (fun n_52 H locs ls hX ihn_52 => ?_) _ ⟨0, 0, (iv_c (0 : Int32) (by decide)), g_49, rfl, hP, hD, hS, lv_sub hl [0, 1, 2, 3, 4, 5, 6] rfl⟩
          obtain ⟨u_50, w_51, bu_50, inn_52_0, en_52, hP, hD, hS, hl⟩ := hX
          refine lv_iload hx hb dX10_chance_61 (lv_at hl 0 rfl) ?_
          refine lv_aload_n hx hb dX10_chance_63 rfl (lv_at hl 2 rfl) ?_
          refine va_get (ci := 10) (v := .int v_48) (C := RX10) (T := TX10) (N := 40) hx hb hg inX10 hown hK hP 7 rfl rfl 29 (by decide) (hg _ q_6_13) (fun _ h9 => h9) rfl dX10_chance_64 ?_
          refine lv_icmp_ge (tgt := 112) hx hb dX10_chance_67 (by decide) (fun c_53 => ?_) (fun c_53 => ?_)
          · refine lv_lload hx hb dX10_chance_112 (lv_at hl 1 rfl) ?_
            refine lv_iload_n hx hb dX10_chance_114 rfl (lv_at hl 5 rfl) ?_
            refine jnL (wr := [(z 15, aI V 900 f_41), (z 16, aI V 6 f_42), (z 24, aI V 10000 f_43), (z 25, aI V 40000 f_44), (z 28, aZ V 10000 f_45), (z 30, aJ V 10000 f_46), (z 31, aJ V 10000 f_47), (z 0, .inr (10, mo z 0 pz0_5 pz0_6 pz0_7 pz0_8 pz0_9 pz0_10 pz0_11 pz0_12 pz0_13 pz0_14 pz0_18 pz0_19 pz0_22 pz0_23 v_48)), (z 1, aI V 3075 fz1)]) (rnS (rest := [.long w_51]) ⟨hx, hb, hml, hown, hg⟩ (k_X10_wholeOf_0 l V a3 b_40) mt_X10_wholeOf q_8_118 ⟨Nat.le_of_ble_eq_true rfl, Nat.le_of_ble_eq_true rfl⟩ hK hP hD hS hA hE [] rfl rfl rfl hl.1 rfl (Nat.le_of_ble_eq_true rfl) dX10_chance_115 ⟨Nat.le_of_ble_eq_true rfl, Nat.le_of_ble_eq_true rfl⟩) hP hD hS hA [] [0, 1, 2, 3, 4, 5, 6, 7, 8] rfl rfl rfl (by decide) (fun r_54 w H locs hw hP hD hS => ?_)
            obtain ⟨g_55, rfl⟩ := hw
            have hP : va_P V.1 vwCl [(z 15, aI V 900 f_41), (z 16, aI V 6 f_42), (z 24, aI V 10000 f_43), (z 25, aI V 40000 f_44), (z 28, aZ V 10000 f_45), (z 30, aJ V 10000 f_46), (z 31, aJ V 10000 f_47), (z 0, .inr (10, mo z 0 pz0_5 pz0_6 pz0_7 pz0_8 pz0_9 pz0_10 pz0_11 pz0_12 pz0_13 pz0_14 pz0_18 pz0_19 pz0_22 pz0_23 v_48)), (z 1, aI V 3075 fz1)] H := hP
            have hD : va_D A [(z 15, aI V 900 f_41), (z 16, aI V 6 f_42), (z 24, aI V 10000 f_43), (z 25, aI V 40000 f_44), (z 28, aZ V 10000 f_45), (z 30, aJ V 10000 f_46), (z 31, aJ V 10000 f_47), (z 0, .inr (10, mo z 0 pz0_5 pz0_6 pz0_7 pz0_8 pz0_9 pz0_10 pz0_11 pz0_12 pz0_13 pz0_14 pz0_18 pz0_19 pz0_22 pz0_23 v_48)), (z 1, aI V 3075 fz1)] := hD
            refine lv_iload hx hb dX10_chance_118 (lv_at hl 6 rfl) ?_
            refine jnI (wr := [(z 15, aI V 900 f_41), (z 16, aI V 6 f_42), (z 24, aI V 10000 f_43), (z 25, aI V 40000 f_44), (z 28, aZ V 10000 f_45), (z 30, aJ V 10000 f_46), (z 31, aJ V 10000 f_47), (z 0, .inr (10, mo z 0 pz0_5 pz0_6 pz0_7 pz0_8 pz0_9 pz0_10 pz0_11 pz0_12 pz0_13 pz0_14 pz0_18 pz0_19 pz0_22 pz0_23 v_48)), (z 1, aI V 3075 fz1)]) (rnS (rest := []) ⟨hx, hb, hml, hown, hg⟩ (k_X10_part_0 l V w_51 r_54 a4 g_55) mt_X10_part q_8_121 ⟨Nat.le_of_ble_eq_true rfl, Nat.le_of_ble_eq_true rfl⟩ hK hP hD hS hA hE [] rfl rfl rfl hl.1 rfl (Nat.le_of_ble_eq_true rfl) dX10_chance_120 ⟨Nat.le_of_ble_eq_true rfl, Nat.le_of_ble_eq_true rfl⟩) hP hD hS hA [] [0, 1, 2, 3, 4, 5, 6, 7, 8] rfl rfl rfl (by decide) (fun r_56 w H locs hw hP hD hS => ?_)
            subst hw
            have hP : va_P V.1 vwCl [(z 15, aI V 900 f_41), (z 16, aI V 6 f_42), (z 24, aI V 10000 f_43), (z 25, aI V 40000 f_44), (z 28, aZ V 10000 f_45), (z 30, aJ V 10000 f_46), (z 31, aJ V 10000 f_47), (z 0, .inr (10, mo z 0 pz0_5 pz0_6 pz0_7 pz0_8 pz0_9 pz0_10 pz0_11 pz0_12 pz0_13 pz0_14 pz0_18 pz0_19 pz0_22 pz0_23 v_48)), (z 1, aI V 3075 fz1)] H := hP
            have hD : va_D A [(z 15, aI V 900 f_41), (z 16, aI V 6 f_42), (z 24, aI V 10000 f_43), (z 25, aI V 40000 f_44), (z 28, aZ V 10000 f_45), (z 30, aJ V 10000 f_46), (z 31, aJ V 10000 f_47), (z 0, .inr (10, mo z 0 pz0_5 pz0_6 pz0_7 pz0_8 pz0_9 pz0_10 pz0_11 pz0_12 pz0_13 pz0_14 pz0_18 pz0_19 pz0_22 pz0_23 v_48)), (z 1, aI V 3075 fz1)] := hD
            have hP := subP (ws' := [(z 0, .inr (10, mo z 0 pz0_5 pz0_6 pz0_7 pz0_8 pz0_9 pz0_10 pz0_11 pz0_12 pz0_13 pz0_14 pz0_18 pz0_19 pz0_22 pz0_23 v_48)), (z 1, aI V 3075 fz1), (z 15, aI V 900 f_41), (z 16, aI V 6 f_42), (z 24, aI V 10000 f_43), (z 25, aI V 40000 f_44), (z 28, aZ V 10000 f_45), (z 30, aJ V 10000 f_46), (z 31, aJ V 10000 f_47)]) hP [7, 8, 0, 1, 2, 3, 4, 5, 6] rfl
            have hD := hD.sub (ws' := [(z 0, .inr (10, mo z 0 pz0_5 pz0_6 pz0_7 pz0_8 pz0_9 pz0_10 pz0_11 pz0_12 pz0_13 pz0_14 pz0_18 pz0_19 pz0_22 pz0_23 v_48)), (z 1, aI V 3075 fz1), (z 15, aI V 900 f_41), (z 16, aI V 6 f_42), (z 24, aI V 10000 f_43), (z 25, aI V 40000 f_44), (z 28, aZ V 10000 f_45), (z 30, aJ V 10000 f_46), (z 31, aJ V 10000 f_47)]) [7, 8, 0, 1, 2, 3, 4, 5, 6] rfl rfl
            exact fiI hx hb hr hlk hK hP hD hS dX10_chance_123 (Nat.le_of_ble_eq_true rfl) (Nat.le_of_ble_eq_true rfl) (⟨0, v_48, f_41, f_42, f_43, f_44, f_45, f_46, f_47, bv_48, tf_42, tf_43, tf_44, inn_52_0, rfl⟩)
          · have b_57 : iv 0 9999 u_50 := iv_l1 (Int32.not_le.mp c_53) bu_50 bv_48 (by decide)
            have b_58 : iv 1 10000 v_48 := iv_l2 (Int32.not_le.mp c_53) bu_50 bv_48 (by decide)
            refine lv_lload hx hb dX10_chance_70 (lv_at hl 1 rfl) ?_
            refine lv_aload_n hx hb dX10_chance_72 rfl (lv_at hl 2 rfl) ?_
            refine va_get (ci := 10) (v := .ref (z 24)) (C := RX10) (T := TX10) (N := 40) hx hb hg inX10 hown hK hP 7 rfl rfl 24 (by decide) (hg _ q_6_8) (fun _ h9 => h9) rfl dX10_chance_73 ?_
            refine lv_iload hx hb dX10_chance_76 (lv_at hl 0 rfl) ?_
            refine va_iald hx hb hK hP 2 0 rfl rfl (iv_in b_57 (by decide)) dX10_chance_78 ?_
            refine lv_topi (fun x_59 ex_59 => ?_)
            have bx_59 : iv 0 9999 x_59 := by rw [ex_59]; exact tf_43 _
            refine lv_iload_n hx hb dX10_chance_79 rfl (lv_at hl 3 rfl) ?_
            refine jnI (wr := [(z 15, aI V 900 f_41), (z 16, aI V 6 f_42), (z 24, aI V 10000 f_43), (z 25, aI V 40000 f_44), (z 28, aZ V 10000 f_45), (z 30, aJ V 10000 f_46), (z 31, aJ V 10000 f_47), (z 0, .inr (10, mo z 0 pz0_5 pz0_6 pz0_7 pz0_8 pz0_9 pz0_10 pz0_11 pz0_12 pz0_13 pz0_14 pz0_18 pz0_19 pz0_22 pz0_23 v_48)), (z 1, aI V 3075 fz1)]) (rnS (rest := [.long w_51]) ⟨hx, hb, hml, hown, hg⟩ (k_X10_stackIn_0 l V x_59 a1 bx_59 b_8) mt_X10_stackIn q_7_26 ⟨Nat.le_of_ble_eq_true rfl, Nat.le_of_ble_eq_true rfl⟩ hK hP hD hS hA hE [] rfl rfl rfl hl.1 rfl (Nat.le_of_ble_eq_true rfl) dX10_chance_80 ⟨Nat.le_of_ble_eq_true rfl, Nat.le_of_ble_eq_true rfl⟩) hP hD hS hA [] [0, 1, 2, 3, 4, 5, 6, 7, 8] rfl rfl rfl (by decide) (fun r_60 w H locs hw hP hD hS => ?_)
            obtain ⟨br_60, er_60, rfl⟩ := hw
            have hP : va_P V.1 vwCl [(z 15, aI V 900 f_41), (z 16, aI V 6 f_42), (z 24, aI V 10000 f_43), (z 25, aI V 40000 f_44), (z 28, aZ V 10000 f_45), (z 30, aJ V 10000 f_46), (z 31, aJ V 10000 f_47), (z 0, .inr (10, mo z 0 pz0_5 pz0_6 pz0_7 pz0_8 pz0_9 pz0_10 pz0_11 pz0_12 pz0_13 pz0_14 pz0_18 pz0_19 pz0_22 pz0_23 v_48)), (z 1, aI V 3075 fz1)] H := hP
            have hD : va_D A [(z 15, aI V 900 f_41), (z 16, aI V 6 f_42), (z 24, aI V 10000 f_43), (z 25, aI V 40000 f_44), (z 28, aZ V 10000 f_45), (z 30, aJ V 10000 f_46), (z 31, aJ V 10000 f_47), (z 0, .inr (10, mo z 0 pz0_5 pz0_6 pz0_7 pz0_8 pz0_9 pz0_10 pz0_11 pz0_12 pz0_13 pz0_14 pz0_18 pz0_19 pz0_22 pz0_23 v_48)), (z 1, aI V 3075 fz1)] := hD
            refine lv_iload_n hx hb dX10_chance_83 rfl (lv_at hl 4 rfl) ?_
            refine lv_icmp_lt (tgt := 102) hx hb dX10_chance_84 (by decide) (fun c_61 => ?_) (fun c_61 => ?_)
            · have b_62 : iv 0 3 r_60 := iv_l1 c_61 br_60 b_27 (by decide)
              have b_63 : iv 1 4 a2 := iv_l2 c_61 br_60 b_27 (by decide)
              refine lv_lconst (v := 0) hx hb dX10_chance_102 (by decide) ?_
              refine lv_ladd hx hb dX10_chance_103 ?_
              refine lv_topl (fun j_64 ej_64 => ?_)
              refine lv_lstore (lv' := [(5, .long j_64), (7, .int u_50), (0, .ref (z 0)), (1, .int a1), (2, .int a2), (3, .int a3), (4, .int a4)]) hx hb dX10_chance_104 hl (by decide) rfl (fun ls hl => ?_)
              obtain ⟨x_65, ex_65⟩ : ∃ z9 : Int32, z9 = u_50 + 1 := ⟨_, rfl⟩
              have bx_65 : iv 1 10000 x_65 := by rw [ex_65]; exact iv_add b_57 (iv_c (1 : Int32) (a := 1) (b := 1) (by decide)) (by decide)
              refine lv_iinc (v := x_65) (lv' := [(7, .int x_65), (5, .long j_64), (0, .ref (z 0)), (1, .int a1), (2, .int a2), (3, .int a3), (4, .int a4)]) hx hb dX10_chance_106 hl (k := 1) rfl (by rw [ex_65]; rfl) (by decide) rfl (fun ls hl => ?_)
              refine lv_goto (tgt := 61) hx hb dX10_chance_109 (by decide) ?_
              exact ihn_52 _ _ _ _ (by rw [en_52, ex_65]; exact mu_up b_57 (by decide)) ⟨x_65, j_64, (iv_w bx_65 (by decide)), inn_52_0, rfl, hP, hD, hS, lv_sub hl [0, 1, 2, 3, 4, 5, 6] rfl⟩
            · refine lv_aload_n hx hb dX10_chance_87 rfl (lv_at hl 2 rfl) ?_
              refine va_get (ci := 10) (v := .ref (z 30)) (C := RX10) (T := TX10) (N := 40) hx hb hg inX10 hown hK hP 7 rfl rfl 30 (by decide) (hg _ q_6_14) (fun _ h9 => h9) rfl dX10_chance_88 ?_
              refine lv_aload_n hx hb dX10_chance_91 rfl (lv_at hl 2 rfl) ?_
              refine va_get (ci := 10) (v := .ref (z 24)) (C := RX10) (T := TX10) (N := 40) hx hb hg inX10 hown hK hP 7 rfl rfl 24 (by decide) (hg _ q_6_8) (fun _ h9 => h9) rfl dX10_chance_92 ?_
              refine lv_iload hx hb dX10_chance_95 (lv_at hl 0 rfl) ?_
              refine va_iald hx hb hK hP 2 0 rfl rfl (iv_in b_57 (by decide)) dX10_chance_97 ?_
              refine tpi (y := x_59) ex_59.symm ?_
              refine va_lald hx hb hK hP 5 2 rfl rfl (iv_in bx_59 (by decide)) dX10_chance_98 ?_
              refine lv_topl (fun j_66 ej_66 => ?_)
              refine lv_goto (tgt := 103) hx hb dX10_chance_99 (by decide) ?_
              refine lv_ladd hx hb dX10_chance_103 ?_
              refine lv_topl (fun j_67 ej_67 => ?_)
              refine lv_lstore (lv' := [(5, .long j_67), (7, .int u_50), (0, .ref (z 0)), (1, .int a1), (2, .int a2), (3, .int a3), (4, .int a4)]) hx hb dX10_chance_104 hl (by decide) rfl (fun ls hl => ?_)
              obtain ⟨x_68, ex_68⟩ : ∃ z9 : Int32, z9 = u_50 + 1 := ⟨_, rfl⟩
              have bx_68 : iv 1 10000 x_68 := by rw [ex_68]; exact iv_add b_57 (iv_c (1 : Int32) (a := 1) (b := 1) (by decide)) (by decide)
              refine lv_iinc (v := x_68) (lv' := [(7, .int x_68), (5, .long j_67), (0, .ref (z 0)), (1, .int a1), (2, .int a2), (3, .int a3), (4, .int a4)]) hx hb dX10_chance_106 hl (k := 1) rfl (by rw [ex_68]; rfl) (by decide) rfl (fun ls hl => ?_)
              refine lv_goto (tgt := 61) hx hb dX10_chance_109 (by decide) ?_
              exact ihn_52 _ _ _ _ (by rw [en_52, ex_68]; exact mu_up b_57 (by decide)) ⟨x_68, j_67, (iv_w bx_68 (by decide)), inn_52_0, rfl, hP, hD, hS, lv_sub hl [0, 1, 2, 3, 4, 5, 6] rfl⟩
        · have b_69 : iv 0 0 r_29 := iv_q c_33 (iv_c (0 : Int32) (a := 0) (b := 0) (by decide))
          refine lv_bipush (v := (-3)) hx hb dX10_chance_47 (by decide) ?_
          have hP := subP (ws' := [(z 0, .inr (10, mo z 0 pz0_5 pz0_6 pz0_7 pz0_8 pz0_9 pz0_10 pz0_11 pz0_12 pz0_13 pz0_14 pz0_18 pz0_19 pz0_22 pz0_23 pz0_29)), (z 1, aI V 3075 fz1), (z 15, aI V 900 fz15), (z 16, aI V 6 fz16), (z 24, aI V 10000 fz24), (z 25, aI V 40000 fz25), (z 28, aZ V 10000 fz28), (z 30, aJ V 10000 fz30), (z 31, aJ V 10000 fz31)]) hP [7, 8, 0, 1, 2, 3, 4, 5, 6] rfl
          have hD := hD.sub (ws' := [(z 0, .inr (10, mo z 0 pz0_5 pz0_6 pz0_7 pz0_8 pz0_9 pz0_10 pz0_11 pz0_12 pz0_13 pz0_14 pz0_18 pz0_19 pz0_22 pz0_23 pz0_29)), (z 1, aI V 3075 fz1), (z 15, aI V 900 fz15), (z 16, aI V 6 fz16), (z 24, aI V 10000 fz24), (z 25, aI V 40000 fz25), (z 28, aZ V 10000 fz28), (z 30, aJ V 10000 fz30), (z 31, aJ V 10000 fz31)]) [7, 8, 0, 1, 2, 3, 4, 5, 6] rfl rfl
          exact fiI hx hb hr hlk hK hP hD hS dX10_chance_49 (Nat.le_of_ble_eq_true rfl) (Nat.le_of_ble_eq_true rfl) (⟨0, pz0_29, fz15, fz16, fz24, fz25, fz28, fz30, fz31, bpz0_29, tfz16, tfz24, tfz25, hf0, rfl⟩)
    · have b_70 : iv 0 0 r_10 := iv_q c_14 (iv_c (0 : Int32) (a := 0) (b := 0) (by decide))
      refine lv_bipush (v := (-2)) hx hb dX10_chance_25 (by decide) ?_
      have hP := subP (ws' := [(z 0, .inr (10, mo z 0 pz0_5 pz0_6 pz0_7 pz0_8 pz0_9 pz0_10 pz0_11 pz0_12 pz0_13 pz0_14 pz0_18 pz0_19 pz0_22 pz0_23 pz0_29)), (z 1, aI V 3075 fz1), (z 15, aI V 900 fz15), (z 16, aI V 6 fz16), (z 24, aI V 10000 fz24), (z 25, aI V 40000 fz25), (z 28, aZ V 10000 fz28), (z 30, aJ V 10000 fz30), (z 31, aJ V 10000 fz31)]) hP [7, 8, 0, 1, 2, 3, 4, 5, 6] rfl
      have hD := hD.sub (ws' := [(z 0, .inr (10, mo z 0 pz0_5 pz0_6 pz0_7 pz0_8 pz0_9 pz0_10 pz0_11 pz0_12 pz0_13 pz0_14 pz0_18 pz0_19 pz0_22 pz0_23 pz0_29)), (z 1, aI V 3075 fz1), (z 15, aI V 900 fz15), (z 16, aI V 6 fz16), (z 24, aI V 10000 fz24), (z 25, aI V 40000 fz25), (z 28, aZ V 10000 fz28), (z 30, aJ V 10000 fz30), (z 31, aJ V 10000 fz31)]) [7, 8, 0, 1, 2, 3, 4, 5, 6] rfl rfl
      exact fiI hx hb hr hlk hK hP hD hS dX10_chance_27 (Nat.le_of_ble_eq_true rfl) (Nat.le_of_ble_eq_true rfl) (⟨0, pz0_29, fz15, fz16, fz24, fz25, fz28, fz30, fz31, bpz0_29, tfz16, tfz24, tfz25, hf0, rfl⟩)
theorem dX10_mean_0 : decode cX10_mean 0 = .ok (.aload_n 0, 1) := by decide +kernel
theorem dX10_mean_1 : decode cX10_mean 1 = .ok (.iconst 0, 1) := by decide +kernel
theorem dX10_mean_2 : decode cX10_mean 2 = .ok (.putfield 1, 3) := by decide +kernel
theorem dX10_mean_5 : decode cX10_mean 5 = .ok (.iload_n 2, 1) := by decide +kernel
theorem dX10_mean_6 : decode cX10_mean 6 = .ok (.i2l, 1) := by decide +kernel
theorem dX10_mean_7 : decode cX10_mean 7 = .ok (.lconst 0, 1) := by decide +kernel
theorem dX10_mean_8 : decode cX10_mean 8 = .ok (.lconst 1, 1) := by decide +kernel
theorem dX10_mean_9 : decode cX10_mean 9 = .ok (.invokestatic 159, 3) := by decide +kernel
theorem dX10_mean_12 : decode cX10_mean 12 = .ok (.ifCond .ne 6, 3) := by decide +kernel
theorem dX10_mean_18 : decode cX10_mean 18 = .ok (.iload_n 1, 1) := by decide +kernel
theorem dX10_mean_19 : decode cX10_mean 19 = .ok (.i2l, 1) := by decide +kernel
theorem dX10_mean_20 : decode cX10_mean 20 = .ok (.lconst 0, 1) := by decide +kernel
theorem dX10_mean_21 : decode cX10_mean 21 = .ok (.ldc2_w 451, 3) := by decide +kernel
theorem dX10_mean_24 : decode cX10_mean 24 = .ok (.invokestatic 159, 3) := by decide +kernel
theorem dX10_mean_27 : decode cX10_mean 27 = .ok (.ifCond .ne 6, 3) := by decide +kernel
theorem dX10_mean_33 : decode cX10_mean 33 = .ok (.aload_n 0, 1) := by decide +kernel
theorem dX10_mean_34 : decode cX10_mean 34 = .ok (.iload_n 1, 1) := by decide +kernel
theorem dX10_mean_35 : decode cX10_mean 35 = .ok (.invokevirtual 453, 3) := by decide +kernel
theorem dX10_mean_38 : decode cX10_mean 38 = .ok (.lconst 0, 1) := by decide +kernel
theorem dX10_mean_39 : decode cX10_mean 39 = .ok (.lstore_n 3, 1) := by decide +kernel
theorem dX10_mean_40 : decode cX10_mean 40 = .ok (.iconst 0, 1) := by decide +kernel
theorem dX10_mean_41 : decode cX10_mean 41 = .ok (.istore 5, 2) := by decide +kernel
theorem dX10_mean_43 : decode cX10_mean 43 = .ok (.iload 5, 2) := by decide +kernel
theorem dX10_mean_45 : decode cX10_mean 45 = .ok (.aload_n 0, 1) := by decide +kernel
theorem dX10_mean_46 : decode cX10_mean 46 = .ok (.getfield 355, 3) := by decide +kernel
theorem dX10_mean_49 : decode cX10_mean 49 = .ok (.if_icmp .ge 37, 3) := by decide +kernel
theorem dX10_mean_86 : decode cX10_mean 86 = .ok (.lload_n 3, 1) := by decide +kernel
theorem dX10_mean_87 : decode cX10_mean 87 = .ok (.iload_n 1, 1) := by decide +kernel
theorem dX10_mean_88 : decode cX10_mean 88 = .ok (.invokestatic 456, 3) := by decide +kernel
theorem dX10_mean_91 : decode cX10_mean 91 = .ok (.iload_n 2, 1) := by decide +kernel
theorem dX10_mean_92 : decode cX10_mean 92 = .ok (.invokestatic 460, 3) := by decide +kernel
theorem dX10_mean_95 : decode cX10_mean 95 = .ok (.ireturn, 1) := by decide +kernel
theorem dX10_mean_52 : decode cX10_mean 52 = .ok (.lload_n 3, 1) := by decide +kernel
theorem dX10_mean_53 : decode cX10_mean 53 = .ok (.aload_n 0, 1) := by decide +kernel
theorem dX10_mean_54 : decode cX10_mean 54 = .ok (.getfield 61, 3) := by decide +kernel
theorem dX10_mean_57 : decode cX10_mean 57 = .ok (.aload_n 0, 1) := by decide +kernel
theorem dX10_mean_58 : decode cX10_mean 58 = .ok (.getfield 45, 3) := by decide +kernel
theorem dX10_mean_61 : decode cX10_mean 61 = .ok (.iload 5, 2) := by decide +kernel
theorem dX10_mean_63 : decode cX10_mean 63 = .ok (.iaload, 1) := by decide +kernel
theorem dX10_mean_64 : decode cX10_mean 64 = .ok (.laload, 1) := by decide +kernel
theorem dX10_mean_65 : decode cX10_mean 65 = .ok (.aload_n 0, 1) := by decide +kernel
theorem dX10_mean_66 : decode cX10_mean 66 = .ok (.aload_n 0, 1) := by decide +kernel
theorem dX10_mean_67 : decode cX10_mean 67 = .ok (.getfield 45, 3) := by decide +kernel
theorem dX10_mean_70 : decode cX10_mean 70 = .ok (.iload 5, 2) := by decide +kernel
theorem dX10_mean_72 : decode cX10_mean 72 = .ok (.iaload, 1) := by decide +kernel
theorem dX10_mean_73 : decode cX10_mean 73 = .ok (.invokevirtual 326, 3) := by decide +kernel
theorem dX10_mean_76 : decode cX10_mean 76 = .ok (.i2l, 1) := by decide +kernel
theorem dX10_mean_77 : decode cX10_mean 77 = .ok (.lmul, 1) := by decide +kernel
theorem dX10_mean_78 : decode cX10_mean 78 = .ok (.ladd, 1) := by decide +kernel
theorem dX10_mean_79 : decode cX10_mean 79 = .ok (.lstore_n 3, 1) := by decide +kernel
theorem dX10_mean_80 : decode cX10_mean 80 = .ok (.iinc 5 1, 3) := by decide +kernel
theorem dX10_mean_83 : decode cX10_mean 83 = .ok (.goto (-40), 3) := by decide +kernel
theorem dX10_mean_30 : decode cX10_mean 30 = .ok (.bipush (-3), 2) := by decide +kernel
theorem dX10_mean_32 : decode cX10_mean 32 = .ok (.ireturn, 1) := by decide +kernel
theorem dX10_mean_15 : decode cX10_mean 15 = .ok (.bipush (-2), 2) := by decide +kernel
theorem dX10_mean_17 : decode cX10_mean 17 = .ok (.ireturn, 1) := by decide +kernel
set_option maxHeartbeats 4000000 in
set_option maxRecDepth 100000 in
theorem k_X10_mean_0 (l : Launch) (V : GV) (z : Nat → Nat) (a1 : Int32) (a2 : Int32) (pz0_0 : Int32) (pz0_5 : Int32) (pz0_6 : Int32) (pz0_7 : Int32) (pz0_8 : Int32) (pz0_9 : Int32) (pz0_10 : Int32) (pz0_11 : Int32) (pz0_12 : Int32) (pz0_13 : Int32) (pz0_14 : Int32) (pz0_18 : Int32) (pz0_19 : Int32) (pz0_22 : Int32) (pz0_23 : Int32) (pz0_29 : Int32) (fz1 : Nat → Int32) (fz15 : Nat → Int32) (fz16 : Nat → Int32) (fz24 : Nat → Int32) (fz25 : Nat → Int32) (fz28 : Nat → Int32) (fz30 : Nat → Int64) (fz31 : Nat → Int64) (bpz0_5 : iv 0 900 pz0_5) (bpz0_6 : iv 0 900 pz0_6) (bpz0_7 : iv 0 900 pz0_7) (bpz0_8 : iv 0 900 pz0_8) (bpz0_10 : iv 0 999 pz0_10) (bpz0_11 : iv 0 4 pz0_11) (bpz0_12 : iv 0 900 pz0_12) (bpz0_13 : iv 0 4 pz0_13) (bpz0_14 : iv (-1) 900 pz0_14) (bpz0_18 : iv 0 2 pz0_18) (bpz0_22 : iv 0 9999 pz0_22) (bpz0_29 : iv 0 10000 pz0_29) (tfz1 : ivT tA fz1) (tfz16 : ivT tW fz16) (tfz24 : ∀ j, iv 0 9999 (fz24 j)) (tfz25 : ∀ j, iv (-1) 9999 (fz25 j)) (hf0 : RW fz1) : Ct l V yX10_mean (.code yX10_mean cX10_mean 6 (some .int)) 51 [.ref (z 0), .int a1, .int a2] [(z 0, .inr (10, mo z pz0_0 pz0_5 pz0_6 pz0_7 pz0_8 pz0_9 pz0_10 pz0_11 pz0_12 pz0_13 pz0_14 pz0_18 pz0_19 pz0_22 pz0_23 pz0_29)), (z 1, aI V 3075 fz1), (z 15, aI V 900 fz15), (z 16, aI V 6 fz16), (z 24, aI V 10000 fz24), (z 25, aI V 40000 fz25), (z 28, aZ V 10000 fz28), (z 30, aJ V 10000 fz30), (z 31, aJ V 10000 fz31)] 0 0 (QI V (fun (r : Int32) (w : va_W) => ∃ (v0 : Int32) (v1 : Int32) (g2 : Nat → Int32) (g3 : Nat → Int32) (g4 : Nat → Int32) (g5 : Nat → Int32) (g6 : Nat → Int32) (g7 : Nat → Int64) (g8 : Nat → Int64), iv 0 10000 v1 ∧ (ivT tW g3) ∧ (∀ j, iv 0 9999 (g4 j)) ∧ (∀ j, iv (-1) 9999 (g5 j)) ∧ (RW fz1) ∧ w = [(z 0, .inr (10, mo z v0 pz0_5 pz0_6 pz0_7 pz0_8 pz0_9 pz0_10 pz0_11 pz0_12 pz0_13 pz0_14 pz0_18 pz0_19 pz0_22 pz0_23 v1)), (z 1, aI V 3075 fz1), (z 15, aI V 900 g2), (z 16, aI V 6 g3), (z 24, aI V 10000 g4), (z 25, aI V 40000 g5), (z 28, aZ V 10000 g6), (z 30, aJ V 10000 g7), (z 31, aJ V 10000 g8)])) := by
  refine Ct.of (by decide) (Nat.le_of_ble_eq_true rfl) (fun p e s m below meth c A ls hx hb hr hml hown hlk hnm hg hP hK hD hE hA hS hl => ?_)
  have hl : lv_has ls 6 [(0, .ref (z 0)), (1, .int a1), (2, .int a2)] := hl
  refine lv_aload_n hx hb dX10_mean_0 rfl (lv_at hl 0 rfl) ?_
  refine lv_iconst (v := 0) hx hb dX10_mean_1 (by decide) ?_
  refine va_put (ci := 10) (v := .int 0) (ty := .int) (C := RX10) (T := TX10) (N := 40) hx hb hg inX10 tyX10 tyX10_ok nmX10 hown hK hP hD hS 0 rfl rfl 0 (by decide) (hg _ q_5_224) (fun _ h9 => h9) rfl (by decide +kernel) rfl rfl (Nat.le_of_ble_eq_true rfl) dX10_mean_2 (fun H locs hP hD hS => ?_)
  have hP : va_P V.1 vwCl [(z 0, .inr (10, mo z 0 pz0_5 pz0_6 pz0_7 pz0_8 pz0_9 pz0_10 pz0_11 pz0_12 pz0_13 pz0_14 pz0_18 pz0_19 pz0_22 pz0_23 pz0_29)), (z 1, aI V 3075 fz1), (z 15, aI V 900 fz15), (z 16, aI V 6 fz16), (z 24, aI V 10000 fz24), (z 25, aI V 40000 fz25), (z 28, aZ V 10000 fz28), (z 30, aJ V 10000 fz30), (z 31, aJ V 10000 fz31)] H := hP
  have hD : va_D A [(z 0, .inr (10, mo z 0 pz0_5 pz0_6 pz0_7 pz0_8 pz0_9 pz0_10 pz0_11 pz0_12 pz0_13 pz0_14 pz0_18 pz0_19 pz0_22 pz0_23 pz0_29)), (z 1, aI V 3075 fz1), (z 15, aI V 900 fz15), (z 16, aI V 6 fz16), (z 24, aI V 10000 fz24), (z 25, aI V 40000 fz25), (z 28, aZ V 10000 fz28), (z 30, aJ V 10000 fz30), (z 31, aJ V 10000 fz31)] := hD
  refine lv_iload_n hx hb dX10_mean_5 rfl (lv_at hl 2 rfl) ?_
  refine lv_i2l hx hb dX10_mean_6 rfl ?_
  refine lv_topl (fun j_1 ej_1 => ?_)
  refine lv_lconst (v := 0) hx hb dX10_mean_7 (by decide) ?_
  refine lv_lconst (v := 1) hx hb dX10_mean_8 (by decide) ?_
  refine jnI (wr := [(z 0, .inr (10, mo z 0 pz0_5 pz0_6 pz0_7 pz0_8 pz0_9 pz0_10 pz0_11 pz0_12 pz0_13 pz0_14 pz0_18 pz0_19 pz0_22 pz0_23 pz0_29)), (z 1, aI V 3075 fz1), (z 15, aI V 900 fz15), (z 16, aI V 6 fz16), (z 24, aI V 10000 fz24), (z 25, aI V 40000 fz25), (z 28, aZ V 10000 fz28), (z 30, aJ V 10000 fz30), (z 31, aJ V 10000 fz31)]) (rnS (rest := []) ⟨hx, hb, hml, hown, hg⟩ (k_X10_within_0 l V j_1 0 1) mt_X10_within q_6_114 ⟨Nat.le_of_ble_eq_true rfl, Nat.le_of_ble_eq_true rfl⟩ hK hP hD hS hA hE [] rfl rfl rfl hl.1 rfl (Nat.le_of_ble_eq_true rfl) dX10_mean_9 ⟨Nat.le_of_ble_eq_true rfl, Nat.le_of_ble_eq_true rfl⟩) hP hD hS hA [] [0, 1, 2, 3, 4, 5, 6, 7, 8] rfl rfl rfl (by decide) (fun r_2 w H locs hw hP hD hS => ?_)
  obtain ⟨br_2, g_3, g_4, g_5, rfl⟩ := hw
  have hP : va_P V.1 vwCl [(z 0, .inr (10, mo z 0 pz0_5 pz0_6 pz0_7 pz0_8 pz0_9 pz0_10 pz0_11 pz0_12 pz0_13 pz0_14 pz0_18 pz0_19 pz0_22 pz0_23 pz0_29)), (z 1, aI V 3075 fz1), (z 15, aI V 900 fz15), (z 16, aI V 6 fz16), (z 24, aI V 10000 fz24), (z 25, aI V 40000 fz25), (z 28, aZ V 10000 fz28), (z 30, aJ V 10000 fz30), (z 31, aJ V 10000 fz31)] H := hP
  have hD : va_D A [(z 0, .inr (10, mo z 0 pz0_5 pz0_6 pz0_7 pz0_8 pz0_9 pz0_10 pz0_11 pz0_12 pz0_13 pz0_14 pz0_18 pz0_19 pz0_22 pz0_23 pz0_29)), (z 1, aI V 3075 fz1), (z 15, aI V 900 fz15), (z 16, aI V 6 fz16), (z 24, aI V 10000 fz24), (z 25, aI V 40000 fz25), (z 28, aZ V 10000 fz28), (z 30, aJ V 10000 fz30), (z 31, aJ V 10000 fz31)] := hD
  refine lv_if_ne (tgt := 18) hx hb dX10_mean_12 (by decide) (fun c_6 => ?_) (fun c_6 => ?_)
  · have b_7 : iv 1 1 r_2 := iv_n0 c_6 br_2 (iv_c (0 : Int32) (a := 0) (b := 0) (by decide)) (by decide)
    have c_8 : (0 : Int64) ≤ j_1 := (g_4 (iv_eqp b_7 (iv_c (1 : Int32) (by decide))))
    have b_9 : ivL 0 9223372036854775807 j_1 := ivL_e2 c_8 (ivL_c (0 : Int64) (a := 0) (b := 0) (by decide)) (ivL_top j_1) (by decide)
    have b_10 : iv 0 2147483647 a2 := iv_cap (ivL_i ej_1 b_9) (iv_top a2) (by decide)
    have c_11 : j_1 ≤ 1 := (g_5 (iv_eqp b_7 (iv_c (1 : Int32) (by decide))))
    have b_12 : ivL 0 1 j_1 := ivL_e1 c_11 b_9 (ivL_c (1 : Int64) (a := 1) (b := 1) (by decide)) (by decide)
    have b_13 : iv 0 1 a2 := iv_cap (ivL_i ej_1 b_12) b_10 (by decide)
    refine lv_iload_n hx hb dX10_mean_18 rfl (lv_at hl 1 rfl) ?_
    refine lv_i2l hx hb dX10_mean_19 rfl ?_
    refine lv_topl (fun j_14 ej_14 => ?_)
    refine lv_lconst (v := 0) hx hb dX10_mean_20 (by decide) ?_
    refine lv_ldc2 (v := 7) hx hb hown (hg _ q_8_113) dX10_mean_21 ?_
    refine jnI (wr := [(z 0, .inr (10, mo z 0 pz0_5 pz0_6 pz0_7 pz0_8 pz0_9 pz0_10 pz0_11 pz0_12 pz0_13 pz0_14 pz0_18 pz0_19 pz0_22 pz0_23 pz0_29)), (z 1, aI V 3075 fz1), (z 15, aI V 900 fz15), (z 16, aI V 6 fz16), (z 24, aI V 10000 fz24), (z 25, aI V 40000 fz25), (z 28, aZ V 10000 fz28), (z 30, aJ V 10000 fz30), (z 31, aJ V 10000 fz31)]) (rnS (rest := []) ⟨hx, hb, hml, hown, hg⟩ (k_X10_within_0 l V j_14 0 7) mt_X10_within q_6_114 ⟨Nat.le_of_ble_eq_true rfl, Nat.le_of_ble_eq_true rfl⟩ hK hP hD hS hA hE [] rfl rfl rfl hl.1 rfl (Nat.le_of_ble_eq_true rfl) dX10_mean_24 ⟨Nat.le_of_ble_eq_true rfl, Nat.le_of_ble_eq_true rfl⟩) hP hD hS hA [] [0, 1, 2, 3, 4, 5, 6, 7, 8] rfl rfl rfl (by decide) (fun r_15 w H locs hw hP hD hS => ?_)
    obtain ⟨br_15, g_16, g_17, g_18, rfl⟩ := hw
    have hP : va_P V.1 vwCl [(z 0, .inr (10, mo z 0 pz0_5 pz0_6 pz0_7 pz0_8 pz0_9 pz0_10 pz0_11 pz0_12 pz0_13 pz0_14 pz0_18 pz0_19 pz0_22 pz0_23 pz0_29)), (z 1, aI V 3075 fz1), (z 15, aI V 900 fz15), (z 16, aI V 6 fz16), (z 24, aI V 10000 fz24), (z 25, aI V 40000 fz25), (z 28, aZ V 10000 fz28), (z 30, aJ V 10000 fz30), (z 31, aJ V 10000 fz31)] H := hP
    have hD : va_D A [(z 0, .inr (10, mo z 0 pz0_5 pz0_6 pz0_7 pz0_8 pz0_9 pz0_10 pz0_11 pz0_12 pz0_13 pz0_14 pz0_18 pz0_19 pz0_22 pz0_23 pz0_29)), (z 1, aI V 3075 fz1), (z 15, aI V 900 fz15), (z 16, aI V 6 fz16), (z 24, aI V 10000 fz24), (z 25, aI V 40000 fz25), (z 28, aZ V 10000 fz28), (z 30, aJ V 10000 fz30), (z 31, aJ V 10000 fz31)] := hD
    refine lv_if_ne (tgt := 33) hx hb dX10_mean_27 (by decide) (fun c_19 => ?_) (fun c_19 => ?_)
    · have b_20 : iv 1 1 r_15 := iv_n0 c_19 br_15 (iv_c (0 : Int32) (a := 0) (b := 0) (by decide)) (by decide)
      have c_21 : (0 : Int64) ≤ j_14 := (g_17 (iv_eqp b_20 (iv_c (1 : Int32) (by decide))))
      have b_22 : ivL 0 9223372036854775807 j_14 := ivL_e2 c_21 (ivL_c (0 : Int64) (a := 0) (b := 0) (by decide)) (ivL_top j_14) (by decide)
      have b_23 : iv 0 2147483647 a1 := iv_cap (ivL_i ej_14 b_22) (iv_top a1) (by decide)
      have c_24 : j_14 ≤ 7 := (g_18 (iv_eqp b_20 (iv_c (1 : Int32) (by decide))))
      have b_25 : ivL 0 7 j_14 := ivL_e1 c_24 b_22 (ivL_c (7 : Int64) (a := 7) (b := 7) (by decide)) (by decide)
      have b_26 : iv 0 7 a1 := iv_cap (ivL_i ej_14 b_25) b_23 (by decide)
      refine lv_aload_n hx hb dX10_mean_33 rfl (lv_at hl 0 rfl) ?_
      refine lv_iload_n hx hb dX10_mean_34 rfl (lv_at hl 1 rfl) ?_
      refine jnV (wr := []) (rnV (rest := []) ⟨hx, hb, hml, hown, hg⟩ (k_X10_laysLikely_0 l V z a1 fz15 fz16 fz24 fz25 fz28 fz30 fz31 0 pz0_5 pz0_6 pz0_7 pz0_8 pz0_9 pz0_10 pz0_11 pz0_12 pz0_13 pz0_14 pz0_18 pz0_19 pz0_22 pz0_23 pz0_29 fz1 tfz16 tfz24 tfz25 bpz0_5 bpz0_6 bpz0_7 bpz0_8 bpz0_10 bpz0_11 bpz0_12 bpz0_13 bpz0_14 bpz0_18 bpz0_22 bpz0_29 tfz1 hf0) mt_X10_laysLikely q_8_114 ⟨Nat.le_of_ble_eq_true rfl, Nat.le_of_ble_eq_true rfl⟩ hK hP hD hS hA hE [2, 3, 4, 5, 6, 7, 8, 0, 1] rfl rfl 0 rfl rfl rfl rfl hl.1 rfl (Nat.le_of_ble_eq_true rfl) dX10_mean_35 ⟨Nat.le_of_ble_eq_true rfl, Nat.le_of_ble_eq_true rfl⟩) hP hD hS hA [2, 3, 4, 5, 6, 7, 8, 0, 1] [] rfl rfl rfl (by decide) (fun  w H locs hw hP hD hS => ?_)
      obtain ⟨f_27, f_28, f_29, f_30, f_31, f_32, f_33, v_34, tf_28, tf_29, tf_30, bv_34, g_35, rfl⟩ := hw
      have hP : va_P V.1 vwCl [(z 15, aI V 900 f_27), (z 16, aI V 6 f_28), (z 24, aI V 10000 f_29), (z 25, aI V 40000 f_30), (z 28, aZ V 10000 f_31), (z 30, aJ V 10000 f_32), (z 31, aJ V 10000 f_33), (z 0, .inr (10, mo z 0 pz0_5 pz0_6 pz0_7 pz0_8 pz0_9 pz0_10 pz0_11 pz0_12 pz0_13 pz0_14 pz0_18 pz0_19 pz0_22 pz0_23 v_34)), (z 1, aI V 3075 fz1)] H := hP
      have hD : va_D A [(z 15, aI V 900 f_27), (z 16, aI V 6 f_28), (z 24, aI V 10000 f_29), (z 25, aI V 40000 f_30), (z 28, aZ V 10000 f_31), (z 30, aJ V 10000 f_32), (z 31, aJ V 10000 f_33), (z 0, .inr (10, mo z 0 pz0_5 pz0_6 pz0_7 pz0_8 pz0_9 pz0_10 pz0_11 pz0_12 pz0_13 pz0_14 pz0_18 pz0_19 pz0_22 pz0_23 v_34)), (z 1, aI V 3075 fz1)] := hD
      refine lv_lconst (v := 0) hx hb dX10_mean_38 (by decide) ?_
      refine lv_lstore_n (lv' := [(3, .long 0), (0, .ref (z 0)), (1, .int a1), (2, .int a2)]) hx hb dX10_mean_39 rfl hl (by decide) rfl (fun ls hl => ?_)
      refine lv_iconst (v := 0) hx hb dX10_mean_40 (by decide) ?_
      refine lv_istore (lv' := [(5, .int 0), (3, .long 0), (0, .ref (z 0)), (1, .int a1), (2, .int a2)]) hx hb dX10_mean_41 hl (by decide) rfl (fun ls hl => ?_)
      refine loopF (X := fun (n_38 : Nat) (H : Heap) (locs : List Loc) (ls : Array Slot) => ∃ (u_36 : Int32) (w_37 : Int64), (iv 0 2147483647 u_36) ∧ (RW fz1) ∧ n_38 = (2147483647 - (u_36 : Int32).toInt).toNat ∧ va_P V.1 vwCl [(z 15, aI V 900 f_27), (z 16, aI V 6 f_28), (z 24, aI V 10000 f_29), (z 25, aI V 40000 f_30), (z 28, aZ V 10000 f_31), (z 30, aJ V 10000 f_32), (z 31, aJ V 10000 f_33), (z 0, .inr (10, mo z 0 pz0_5 pz0_6 pz0_7 pz0_8 pz0_9 pz0_10 pz0_11 pz0_12 pz0_13 pz0_14 pz0_18 pz0_19 pz0_22 pz0_23 v_34)), (z 1, aI V 3075 fz1)] H ∧ va_D A [(z 15, aI V 900 f_27), (z 16, aI V 6 f_28), (z 24, aI V 10000 f_29), (z 25, aI V 40000 f_30), (z 28, aZ V 10000 f_31), (z 30, aJ V 10000 f_32), (z 31, aJ V 10000 f_33), (z 0, .inr (10, mo z 0 pz0_5 pz0_6 pz0_7 pz0_8 pz0_9 pz0_10 pz0_11 pz0_12 pz0_13 pz0_14 pz0_18 pz0_19 pz0_22 pz0_23 v_34)), (z 1, aI V 3075 fz1)] ∧ va_S A s.heap H locs ∧ lv_has ls 6 [(5, .int u_36), (3, .long w_37), (0, .ref (z 0)), (1, .int a1), (2, .int a2)]) (g := fun ls => F0 m 43 ls []) (fun n_38 H locs ls hX ihn_38 => ?_) _ ⟨0, 0, (iv_c (0 : Int32) (by decide)), g_35, rfl, hP, hD, hS, lv_sub hl [0, 1, 2, 3, 4] rfl⟩
      obtain ⟨u_36, w_37, bu_36, inn_38_0, en_38, hP, hD, hS, hl⟩ := hX
      refine lv_iload hx hb dX10_mean_43 (lv_at hl 0 rfl) ?_
      refine lv_aload_n hx hb dX10_mean_45 rfl (lv_at hl 2 rfl) ?_
      refine va_get (ci := 10) (v := .int v_34) (C := RX10) (T := TX10) (N := 40) hx hb hg inX10 hown hK hP 7 rfl rfl 29 (by decide) (hg _ q_6_13) (fun _ h9 => h9) rfl dX10_mean_46 ?_
      refine lv_icmp_ge (tgt := 86) hx hb dX10_mean_49 (by decide) (fun c_39 => ?_) (fun c_39 => ?_)
      · refine lv_lload_n hx hb dX10_mean_86 rfl (lv_at hl 1 rfl) ?_
        refine lv_iload_n hx hb dX10_mean_87 rfl (lv_at hl 3 rfl) ?_
        refine jnL (wr := [(z 15, aI V 900 f_27), (z 16, aI V 6 f_28), (z 24, aI V 10000 f_29), (z 25, aI V 40000 f_30), (z 28, aZ V 10000 f_31), (z 30, aJ V 10000 f_32), (z 31, aJ V 10000 f_33), (z 0, .inr (10, mo z 0 pz0_5 pz0_6 pz0_7 pz0_8 pz0_9 pz0_10 pz0_11 pz0_12 pz0_13 pz0_14 pz0_18 pz0_19 pz0_22 pz0_23 v_34)), (z 1, aI V 3075 fz1)]) (rnS (rest := [.long w_37]) ⟨hx, hb, hml, hown, hg⟩ (k_X10_wholeOf_0 l V a1 b_26) mt_X10_wholeOf q_8_118 ⟨Nat.le_of_ble_eq_true rfl, Nat.le_of_ble_eq_true rfl⟩ hK hP hD hS hA hE [] rfl rfl rfl hl.1 rfl (Nat.le_of_ble_eq_true rfl) dX10_mean_88 ⟨Nat.le_of_ble_eq_true rfl, Nat.le_of_ble_eq_true rfl⟩) hP hD hS hA [] [0, 1, 2, 3, 4, 5, 6, 7, 8] rfl rfl rfl (by decide) (fun r_40 w H locs hw hP hD hS => ?_)
        obtain ⟨g_41, rfl⟩ := hw
        have hP : va_P V.1 vwCl [(z 15, aI V 900 f_27), (z 16, aI V 6 f_28), (z 24, aI V 10000 f_29), (z 25, aI V 40000 f_30), (z 28, aZ V 10000 f_31), (z 30, aJ V 10000 f_32), (z 31, aJ V 10000 f_33), (z 0, .inr (10, mo z 0 pz0_5 pz0_6 pz0_7 pz0_8 pz0_9 pz0_10 pz0_11 pz0_12 pz0_13 pz0_14 pz0_18 pz0_19 pz0_22 pz0_23 v_34)), (z 1, aI V 3075 fz1)] H := hP
        have hD : va_D A [(z 15, aI V 900 f_27), (z 16, aI V 6 f_28), (z 24, aI V 10000 f_29), (z 25, aI V 40000 f_30), (z 28, aZ V 10000 f_31), (z 30, aJ V 10000 f_32), (z 31, aJ V 10000 f_33), (z 0, .inr (10, mo z 0 pz0_5 pz0_6 pz0_7 pz0_8 pz0_9 pz0_10 pz0_11 pz0_12 pz0_13 pz0_14 pz0_18 pz0_19 pz0_22 pz0_23 v_34)), (z 1, aI V 3075 fz1)] := hD
        refine lv_iload_n hx hb dX10_mean_91 rfl (lv_at hl 4 rfl) ?_
        refine jnI (wr := [(z 15, aI V 900 f_27), (z 16, aI V 6 f_28), (z 24, aI V 10000 f_29), (z 25, aI V 40000 f_30), (z 28, aZ V 10000 f_31), (z 30, aJ V 10000 f_32), (z 31, aJ V 10000 f_33), (z 0, .inr (10, mo z 0 pz0_5 pz0_6 pz0_7 pz0_8 pz0_9 pz0_10 pz0_11 pz0_12 pz0_13 pz0_14 pz0_18 pz0_19 pz0_22 pz0_23 v_34)), (z 1, aI V 3075 fz1)]) (rnS (rest := []) ⟨hx, hb, hml, hown, hg⟩ (k_X10_part_0 l V w_37 r_40 a2 g_41) mt_X10_part q_8_121 ⟨Nat.le_of_ble_eq_true rfl, Nat.le_of_ble_eq_true rfl⟩ hK hP hD hS hA hE [] rfl rfl rfl hl.1 rfl (Nat.le_of_ble_eq_true rfl) dX10_mean_92 ⟨Nat.le_of_ble_eq_true rfl, Nat.le_of_ble_eq_true rfl⟩) hP hD hS hA [] [0, 1, 2, 3, 4, 5, 6, 7, 8] rfl rfl rfl (by decide) (fun r_42 w H locs hw hP hD hS => ?_)
        subst hw
        have hP : va_P V.1 vwCl [(z 15, aI V 900 f_27), (z 16, aI V 6 f_28), (z 24, aI V 10000 f_29), (z 25, aI V 40000 f_30), (z 28, aZ V 10000 f_31), (z 30, aJ V 10000 f_32), (z 31, aJ V 10000 f_33), (z 0, .inr (10, mo z 0 pz0_5 pz0_6 pz0_7 pz0_8 pz0_9 pz0_10 pz0_11 pz0_12 pz0_13 pz0_14 pz0_18 pz0_19 pz0_22 pz0_23 v_34)), (z 1, aI V 3075 fz1)] H := hP
        have hD : va_D A [(z 15, aI V 900 f_27), (z 16, aI V 6 f_28), (z 24, aI V 10000 f_29), (z 25, aI V 40000 f_30), (z 28, aZ V 10000 f_31), (z 30, aJ V 10000 f_32), (z 31, aJ V 10000 f_33), (z 0, .inr (10, mo z 0 pz0_5 pz0_6 pz0_7 pz0_8 pz0_9 pz0_10 pz0_11 pz0_12 pz0_13 pz0_14 pz0_18 pz0_19 pz0_22 pz0_23 v_34)), (z 1, aI V 3075 fz1)] := hD
        have hP := subP (ws' := [(z 0, .inr (10, mo z 0 pz0_5 pz0_6 pz0_7 pz0_8 pz0_9 pz0_10 pz0_11 pz0_12 pz0_13 pz0_14 pz0_18 pz0_19 pz0_22 pz0_23 v_34)), (z 1, aI V 3075 fz1), (z 15, aI V 900 f_27), (z 16, aI V 6 f_28), (z 24, aI V 10000 f_29), (z 25, aI V 40000 f_30), (z 28, aZ V 10000 f_31), (z 30, aJ V 10000 f_32), (z 31, aJ V 10000 f_33)]) hP [7, 8, 0, 1, 2, 3, 4, 5, 6] rfl
        have hD := hD.sub (ws' := [(z 0, .inr (10, mo z 0 pz0_5 pz0_6 pz0_7 pz0_8 pz0_9 pz0_10 pz0_11 pz0_12 pz0_13 pz0_14 pz0_18 pz0_19 pz0_22 pz0_23 v_34)), (z 1, aI V 3075 fz1), (z 15, aI V 900 f_27), (z 16, aI V 6 f_28), (z 24, aI V 10000 f_29), (z 25, aI V 40000 f_30), (z 28, aZ V 10000 f_31), (z 30, aJ V 10000 f_32), (z 31, aJ V 10000 f_33)]) [7, 8, 0, 1, 2, 3, 4, 5, 6] rfl rfl
        exact fiI hx hb hr hlk hK hP hD hS dX10_mean_95 (Nat.le_of_ble_eq_true rfl) (Nat.le_of_ble_eq_true rfl) (⟨0, v_34, f_27, f_28, f_29, f_30, f_31, f_32, f_33, bv_34, tf_28, tf_29, tf_30, inn_38_0, rfl⟩)
      · have b_43 : iv 0 9999 u_36 := iv_l1 (Int32.not_le.mp c_39) bu_36 bv_34 (by decide)
        have b_44 : iv 1 10000 v_34 := iv_l2 (Int32.not_le.mp c_39) bu_36 bv_34 (by decide)
        refine lv_lload_n hx hb dX10_mean_52 rfl (lv_at hl 1 rfl) ?_
        refine lv_aload_n hx hb dX10_mean_53 rfl (lv_at hl 2 rfl) ?_
        refine va_get (ci := 10) (v := .ref (z 30)) (C := RX10) (T := TX10) (N := 40) hx hb hg inX10 hown hK hP 7 rfl rfl 30 (by decide) (hg _ q_6_14) (fun _ h9 => h9) rfl dX10_mean_54 ?_
        refine lv_aload_n hx hb dX10_mean_57 rfl (lv_at hl 2 rfl) ?_
        refine va_get (ci := 10) (v := .ref (z 24)) (C := RX10) (T := TX10) (N := 40) hx hb hg inX10 hown hK hP 7 rfl rfl 24 (by decide) (hg _ q_6_8) (fun _ h9 => h9) rfl dX10_mean_58 ?_
        refine lv_iload hx hb dX10_mean_61 (lv_at hl 0 rfl) ?_
        refine va_iald hx hb hK hP 2 0 rfl rfl (iv_in b_43 (by decide)) dX10_mean_63 ?_
        refine lv_topi (fun x_45 ex_45 => ?_)
        have bx_45 : iv 0 9999 x_45 := by rw [ex_45]; exact tf_29 _
        refine va_lald hx hb hK hP 5 2 rfl rfl (iv_in bx_45 (by decide)) dX10_mean_64 ?_
        refine lv_topl (fun j_46 ej_46 => ?_)
        refine lv_aload_n hx hb dX10_mean_65 rfl (lv_at hl 2 rfl) ?_
        refine lv_aload_n hx hb dX10_mean_66 rfl (lv_at hl 2 rfl) ?_
        refine va_get (ci := 10) (v := .ref (z 24)) (C := RX10) (T := TX10) (N := 40) hx hb hg inX10 hown hK hP 7 rfl rfl 24 (by decide) (hg _ q_6_8) (fun _ h9 => h9) rfl dX10_mean_67 ?_
        refine lv_iload hx hb dX10_mean_70 (lv_at hl 0 rfl) ?_
        refine va_iald hx hb hK hP 2 0 rfl rfl (iv_in b_43 (by decide)) dX10_mean_72 ?_
        refine tpi (y := x_45) ex_45.symm ?_
        refine jnI (wr := [(z 15, aI V 900 f_27), (z 16, aI V 6 f_28), (z 24, aI V 10000 f_29), (z 25, aI V 40000 f_30), (z 28, aZ V 10000 f_31), (z 30, aJ V 10000 f_32), (z 31, aJ V 10000 f_33)]) (rnV (rest := [.long j_46, .long w_37]) ⟨hx, hb, hml, hown, hg⟩ (k_X10_sumIn_0 l V z x_45 0 pz0_5 pz0_6 pz0_7 pz0_8 pz0_9 pz0_10 pz0_11 pz0_12 pz0_13 pz0_14 pz0_18 pz0_19 pz0_22 pz0_23 v_34 fz1 bx_45 bpz0_5 bpz0_6 bpz0_7 bpz0_8 bpz0_10 bpz0_11 bpz0_12 bpz0_13 bpz0_14 bpz0_18 bpz0_22 (iv_w b_44 (by decide)) tfz1) mt_X10_sumIn q_7_131 ⟨Nat.le_of_ble_eq_true rfl, Nat.le_of_ble_eq_true rfl⟩ hK hP hD hS hA hE [7, 8] rfl rfl 7 rfl rfl rfl rfl hl.1 rfl (Nat.le_of_ble_eq_true rfl) dX10_mean_73 ⟨Nat.le_of_ble_eq_true rfl, Nat.le_of_ble_eq_true rfl⟩) hP hD hS hA [7, 8] [0, 1, 2, 3, 4, 5, 6] rfl rfl rfl (by decide) (fun r_47 w H locs hw hP hD hS => ?_)
        subst hw
        have hP : va_P V.1 vwCl [(z 15, aI V 900 f_27), (z 16, aI V 6 f_28), (z 24, aI V 10000 f_29), (z 25, aI V 40000 f_30), (z 28, aZ V 10000 f_31), (z 30, aJ V 10000 f_32), (z 31, aJ V 10000 f_33), (z 0, .inr (10, mo z 0 pz0_5 pz0_6 pz0_7 pz0_8 pz0_9 pz0_10 pz0_11 pz0_12 pz0_13 pz0_14 pz0_18 pz0_19 pz0_22 pz0_23 v_34)), (z 1, aI V 3075 fz1)] H := hP
        have hD : va_D A [(z 15, aI V 900 f_27), (z 16, aI V 6 f_28), (z 24, aI V 10000 f_29), (z 25, aI V 40000 f_30), (z 28, aZ V 10000 f_31), (z 30, aJ V 10000 f_32), (z 31, aJ V 10000 f_33), (z 0, .inr (10, mo z 0 pz0_5 pz0_6 pz0_7 pz0_8 pz0_9 pz0_10 pz0_11 pz0_12 pz0_13 pz0_14 pz0_18 pz0_19 pz0_22 pz0_23 v_34)), (z 1, aI V 3075 fz1)] := hD
        refine lv_i2l hx hb dX10_mean_76 rfl ?_
        refine lv_topl (fun j_48 ej_48 => ?_)
        refine lv_lmul hx hb dX10_mean_77 ?_
        refine lv_topl (fun j_49 ej_49 => ?_)
        refine lv_ladd hx hb dX10_mean_78 ?_
        refine lv_topl (fun j_50 ej_50 => ?_)
        refine lv_lstore_n (lv' := [(3, .long j_50), (5, .int u_36), (0, .ref (z 0)), (1, .int a1), (2, .int a2)]) hx hb dX10_mean_79 rfl hl (by decide) rfl (fun ls hl => ?_)
        obtain ⟨x_51, ex_51⟩ : ∃ z9 : Int32, z9 = u_36 + 1 := ⟨_, rfl⟩
        have bx_51 : iv 1 10000 x_51 := by rw [ex_51]; exact iv_add b_43 (iv_c (1 : Int32) (a := 1) (b := 1) (by decide)) (by decide)
        refine lv_iinc (v := x_51) (lv' := [(5, .int x_51), (3, .long j_50), (0, .ref (z 0)), (1, .int a1), (2, .int a2)]) hx hb dX10_mean_80 hl (k := 1) rfl (by rw [ex_51]; rfl) (by decide) rfl (fun ls hl => ?_)
        refine lv_goto (tgt := 43) hx hb dX10_mean_83 (by decide) ?_
        exact ihn_38 _ _ _ _ (by rw [en_38, ex_51]; exact mu_up b_43 (by decide)) ⟨x_51, j_50, (iv_w bx_51 (by decide)), inn_38_0, rfl, hP, hD, hS, lv_sub hl [0, 1, 2, 3, 4] rfl⟩
    · have b_52 : iv 0 0 r_15 := iv_q c_19 (iv_c (0 : Int32) (a := 0) (b := 0) (by decide))
      refine lv_bipush (v := (-3)) hx hb dX10_mean_30 (by decide) ?_
      exact fiI hx hb hr hlk hK hP hD hS dX10_mean_32 (Nat.le_of_ble_eq_true rfl) (Nat.le_of_ble_eq_true rfl) (⟨0, pz0_29, fz15, fz16, fz24, fz25, fz28, fz30, fz31, bpz0_29, tfz16, tfz24, tfz25, hf0, rfl⟩)
  · have b_53 : iv 0 0 r_2 := iv_q c_6 (iv_c (0 : Int32) (a := 0) (b := 0) (by decide))
    refine lv_bipush (v := (-2)) hx hb dX10_mean_15 (by decide) ?_
    exact fiI hx hb hr hlk hK hP hD hS dX10_mean_17 (Nat.le_of_ble_eq_true rfl) (Nat.le_of_ble_eq_true rfl) (⟨0, pz0_29, fz15, fz16, fz24, fz25, fz28, fz30, fz31, bpz0_29, tfz16, tfz24, tfz25, hf0, rfl⟩)
theorem dX10_numbers_0 : decode cX10_numbers 0 = .ok (.aload_n 0, 1) := by decide +kernel
theorem dX10_numbers_1 : decode cX10_numbers 1 = .ok (.iconst 0, 1) := by decide +kernel
theorem dX10_numbers_2 : decode cX10_numbers 2 = .ok (.putfield 1, 3) := by decide +kernel
theorem dX10_numbers_5 : decode cX10_numbers 5 = .ok (.iload_n 1, 1) := by decide +kernel
theorem dX10_numbers_6 : decode cX10_numbers 6 = .ok (.i2l, 1) := by decide +kernel
theorem dX10_numbers_7 : decode cX10_numbers 7 = .ok (.lconst 0, 1) := by decide +kernel
theorem dX10_numbers_8 : decode cX10_numbers 8 = .ok (.ldc2_w 315, 3) := by decide +kernel
theorem dX10_numbers_11 : decode cX10_numbers 11 = .ok (.invokestatic 159, 3) := by decide +kernel
theorem dX10_numbers_14 : decode cX10_numbers 14 = .ok (.ifCond .eq 15, 3) := by decide +kernel
theorem dX10_numbers_29 : decode cX10_numbers 29 = .ok (.bipush (-2), 2) := by decide +kernel
theorem dX10_numbers_31 : decode cX10_numbers 31 = .ok (.ireturn, 1) := by decide +kernel
theorem dX10_numbers_17 : decode cX10_numbers 17 = .ok (.iload_n 2, 1) := by decide +kernel
theorem dX10_numbers_18 : decode cX10_numbers 18 = .ok (.i2l, 1) := by decide +kernel
theorem dX10_numbers_19 : decode cX10_numbers 19 = .ok (.lconst 0, 1) := by decide +kernel
theorem dX10_numbers_20 : decode cX10_numbers 20 = .ok (.ldc2_w 315, 3) := by decide +kernel
theorem dX10_numbers_23 : decode cX10_numbers 23 = .ok (.invokestatic 159, 3) := by decide +kernel
theorem dX10_numbers_26 : decode cX10_numbers 26 = .ok (.ifCond .ne 6, 3) := by decide +kernel
theorem dX10_numbers_32 : decode cX10_numbers 32 = .ok (.iload_n 3, 1) := by decide +kernel
theorem dX10_numbers_33 : decode cX10_numbers 33 = .ok (.i2l, 1) := by decide +kernel
theorem dX10_numbers_34 : decode cX10_numbers 34 = .ok (.lconst 0, 1) := by decide +kernel
theorem dX10_numbers_35 : decode cX10_numbers 35 = .ok (.ldc2_w 336, 3) := by decide +kernel
theorem dX10_numbers_38 : decode cX10_numbers 38 = .ok (.invokestatic 159, 3) := by decide +kernel
theorem dX10_numbers_41 : decode cX10_numbers 41 = .ok (.ifCond .ne 6, 3) := by decide +kernel
theorem dX10_numbers_47 : decode cX10_numbers 47 = .ok (.aload_n 0, 1) := by decide +kernel
theorem dX10_numbers_48 : decode cX10_numbers 48 = .ok (.getfield 84, 3) := by decide +kernel
theorem dX10_numbers_51 : decode cX10_numbers 51 = .ok (.iload_n 1, 1) := by decide +kernel
theorem dX10_numbers_52 : decode cX10_numbers 52 = .ok (.iload_n 2, 1) := by decide +kernel
theorem dX10_numbers_53 : decode cX10_numbers 53 = .ok (.iastore, 1) := by decide +kernel
theorem dX10_numbers_54 : decode cX10_numbers 54 = .ok (.aload_n 0, 1) := by decide +kernel
theorem dX10_numbers_55 : decode cX10_numbers 55 = .ok (.getfield 87, 3) := by decide +kernel
theorem dX10_numbers_58 : decode cX10_numbers 58 = .ok (.iload_n 1, 1) := by decide +kernel
theorem dX10_numbers_59 : decode cX10_numbers 59 = .ok (.iload_n 3, 1) := by decide +kernel
theorem dX10_numbers_60 : decode cX10_numbers 60 = .ok (.iastore, 1) := by decide +kernel
theorem dX10_numbers_61 : decode cX10_numbers 61 = .ok (.iconst 0, 1) := by decide +kernel
theorem dX10_numbers_62 : decode cX10_numbers 62 = .ok (.istore 4, 2) := by decide +kernel
theorem dX10_numbers_64 : decode cX10_numbers 64 = .ok (.iload 4, 2) := by decide +kernel
theorem dX10_numbers_66 : decode cX10_numbers 66 = .ok (.iload_n 3, 1) := by decide +kernel
theorem dX10_numbers_67 : decode cX10_numbers 67 = .ok (.if_icmp .ge 22, 3) := by decide +kernel
theorem dX10_numbers_89 : decode cX10_numbers 89 = .ok (.iconst 0, 1) := by decide +kernel
theorem dX10_numbers_90 : decode cX10_numbers 90 = .ok (.ireturn, 1) := by decide +kernel
theorem dX10_numbers_70 : decode cX10_numbers 70 = .ok (.aload_n 0, 1) := by decide +kernel
theorem dX10_numbers_71 : decode cX10_numbers 71 = .ok (.getfield 90, 3) := by decide +kernel
theorem dX10_numbers_74 : decode cX10_numbers 74 = .ok (.bipush 40, 2) := by decide +kernel
theorem dX10_numbers_76 : decode cX10_numbers 76 = .ok (.iload_n 1, 1) := by decide +kernel
theorem dX10_numbers_77 : decode cX10_numbers 77 = .ok (.imul, 1) := by decide +kernel
theorem dX10_numbers_78 : decode cX10_numbers 78 = .ok (.iload 4, 2) := by decide +kernel
theorem dX10_numbers_80 : decode cX10_numbers 80 = .ok (.iadd, 1) := by decide +kernel
theorem dX10_numbers_81 : decode cX10_numbers 81 = .ok (.lconst 0, 1) := by decide +kernel
theorem dX10_numbers_82 : decode cX10_numbers 82 = .ok (.lastore, 1) := by decide +kernel
theorem dX10_numbers_83 : decode cX10_numbers 83 = .ok (.iinc 4 1, 3) := by decide +kernel
theorem dX10_numbers_86 : decode cX10_numbers 86 = .ok (.goto (-22), 3) := by decide +kernel
theorem dX10_numbers_44 : decode cX10_numbers 44 = .ok (.bipush (-3), 2) := by decide +kernel
theorem dX10_numbers_46 : decode cX10_numbers 46 = .ok (.ireturn, 1) := by decide +kernel
set_option maxHeartbeats 4000000 in
set_option maxRecDepth 100000 in
theorem k_X10_numbers_0 (l : Launch) (V : GV) (z : Nat → Nat) (a1 : Int32) (a2 : Int32) (a3 : Int32) (pz0_0 : Int32) (pz0_5 : Int32) (pz0_6 : Int32) (pz0_7 : Int32) (pz0_8 : Int32) (pz0_9 : Int32) (pz0_10 : Int32) (pz0_11 : Int32) (pz0_12 : Int32) (pz0_13 : Int32) (pz0_14 : Int32) (pz0_18 : Int32) (pz0_19 : Int32) (pz0_22 : Int32) (pz0_23 : Int32) (pz0_29 : Int32) (fz37 : Nat → Int32) (fz38 : Nat → Int32) (fz39 : Nat → Int64) (bpz0_5 : iv 0 900 pz0_5) (bpz0_6 : iv 0 900 pz0_6) (bpz0_7 : iv 0 900 pz0_7) (bpz0_8 : iv 0 900 pz0_8) (bpz0_10 : iv 0 999 pz0_10) (bpz0_11 : iv 0 4 pz0_11) (bpz0_12 : iv 0 900 pz0_12) (bpz0_13 : iv 0 4 pz0_13) (bpz0_14 : iv (-1) 900 pz0_14) (bpz0_18 : iv 0 2 pz0_18) (bpz0_22 : iv 0 9999 pz0_22) (bpz0_29 : iv 0 10000 pz0_29) (tfz37 : ∀ j, iv (-1) 3 (fz37 j)) (tfz38 : ∀ j, iv 0 40 (fz38 j)) : Ct l V yX10_numbers (.code yX10_numbers cX10_numbers 5 (some .int)) 2 [.ref (z 0), .int a1, .int a2, .int a3] [(z 0, .inr (10, mo z pz0_0 pz0_5 pz0_6 pz0_7 pz0_8 pz0_9 pz0_10 pz0_11 pz0_12 pz0_13 pz0_14 pz0_18 pz0_19 pz0_22 pz0_23 pz0_29)), (z 37, aI V 4 fz37), (z 38, aI V 4 fz38), (z 39, aJ V 160 fz39)] 0 0 (QI V (fun (r : Int32) (w : va_W) => ∃ (v0 : Int32) (g1 : Nat → Int32) (g2 : Nat → Int32) (g3 : Nat → Int64), (∀ j, iv (-1) 3 (g1 j)) ∧ (∀ j, iv 0 40 (g2 j)) ∧ iv (-3) 0 r ∧ r = nuF a1 a2 a3 ∧ w = [(z 0, .inr (10, mo z v0 pz0_5 pz0_6 pz0_7 pz0_8 pz0_9 pz0_10 pz0_11 pz0_12 pz0_13 pz0_14 pz0_18 pz0_19 pz0_22 pz0_23 pz0_29)), (z 37, aI V 4 g1), (z 38, aI V 4 g2), (z 39, aJ V 160 g3)])) := by
  refine Ct.of (by decide) (Nat.le_of_ble_eq_true rfl) (fun p e s m below meth c A ls hx hb hr hml hown hlk hnm hg hP hK hD hE hA hS hl => ?_)
  have hl : lv_has ls 5 [(0, .ref (z 0)), (1, .int a1), (2, .int a2), (3, .int a3)] := hl
  refine lv_aload_n hx hb dX10_numbers_0 rfl (lv_at hl 0 rfl) ?_
  refine lv_iconst (v := 0) hx hb dX10_numbers_1 (by decide) ?_
  refine va_put (ci := 10) (v := .int 0) (ty := .int) (C := RX10) (T := TX10) (N := 40) hx hb hg inX10 tyX10 tyX10_ok nmX10 hown hK hP hD hS 0 rfl rfl 0 (by decide) (hg _ q_5_224) (fun _ h9 => h9) rfl (by decide +kernel) rfl rfl (Nat.le_of_ble_eq_true rfl) dX10_numbers_2 (fun H locs hP hD hS => ?_)
  have hP : va_P V.1 vwCl [(z 0, .inr (10, mo z 0 pz0_5 pz0_6 pz0_7 pz0_8 pz0_9 pz0_10 pz0_11 pz0_12 pz0_13 pz0_14 pz0_18 pz0_19 pz0_22 pz0_23 pz0_29)), (z 37, aI V 4 fz37), (z 38, aI V 4 fz38), (z 39, aJ V 160 fz39)] H := hP
  have hD : va_D A [(z 0, .inr (10, mo z 0 pz0_5 pz0_6 pz0_7 pz0_8 pz0_9 pz0_10 pz0_11 pz0_12 pz0_13 pz0_14 pz0_18 pz0_19 pz0_22 pz0_23 pz0_29)), (z 37, aI V 4 fz37), (z 38, aI V 4 fz38), (z 39, aJ V 160 fz39)] := hD
  refine lv_iload_n hx hb dX10_numbers_5 rfl (lv_at hl 1 rfl) ?_
  refine lv_i2l hx hb dX10_numbers_6 rfl ?_
  refine lv_topl (fun j_1 ej_1 => ?_)
  refine lv_lconst (v := 0) hx hb dX10_numbers_7 (by decide) ?_
  refine lv_ldc2 (v := 3) hx hb hown (hg _ q_7_107) dX10_numbers_8 ?_
  refine jnI (wr := [(z 0, .inr (10, mo z 0 pz0_5 pz0_6 pz0_7 pz0_8 pz0_9 pz0_10 pz0_11 pz0_12 pz0_13 pz0_14 pz0_18 pz0_19 pz0_22 pz0_23 pz0_29)), (z 37, aI V 4 fz37), (z 38, aI V 4 fz38), (z 39, aJ V 160 fz39)]) (rnS (rest := []) ⟨hx, hb, hml, hown, hg⟩ (k_X10_within_0 l V j_1 0 3) mt_X10_within q_6_114 ⟨Nat.le_of_ble_eq_true rfl, Nat.le_of_ble_eq_true rfl⟩ hK hP hD hS hA hE [] rfl rfl rfl hl.1 rfl (Nat.le_of_ble_eq_true rfl) dX10_numbers_11 ⟨Nat.le_of_ble_eq_true rfl, Nat.le_of_ble_eq_true rfl⟩) hP hD hS hA [] [0, 1, 2, 3] rfl rfl rfl (by decide) (fun r_2 w H locs hw hP hD hS => ?_)
  obtain ⟨br_2, g_3, g_4, g_5, rfl⟩ := hw
  have hP : va_P V.1 vwCl [(z 0, .inr (10, mo z 0 pz0_5 pz0_6 pz0_7 pz0_8 pz0_9 pz0_10 pz0_11 pz0_12 pz0_13 pz0_14 pz0_18 pz0_19 pz0_22 pz0_23 pz0_29)), (z 37, aI V 4 fz37), (z 38, aI V 4 fz38), (z 39, aJ V 160 fz39)] H := hP
  have hD : va_D A [(z 0, .inr (10, mo z 0 pz0_5 pz0_6 pz0_7 pz0_8 pz0_9 pz0_10 pz0_11 pz0_12 pz0_13 pz0_14 pz0_18 pz0_19 pz0_22 pz0_23 pz0_29)), (z 37, aI V 4 fz37), (z 38, aI V 4 fz38), (z 39, aJ V 160 fz39)] := hD
  refine lv_if_eq (tgt := 29) hx hb dX10_numbers_14 (by decide) (fun c_6 => ?_) (fun c_6 => ?_)
  · have b_7 : iv 0 0 r_2 := iv_q c_6 (iv_c (0 : Int32) (a := 0) (b := 0) (by decide))
    refine lv_bipush (v := (-2)) hx hb dX10_numbers_29 (by decide) ?_
    exact fiI hx hb hr hlk hK hP hD hS dX10_numbers_31 (Nat.le_of_ble_eq_true rfl) (Nat.le_of_ble_eq_true rfl) (⟨0, fz37, fz38, fz39, tfz37, tfz38, (iv_c ((-2) : Int32) (by decide)), (nu_2 (by have z_0 := congrArg Int32.toInt c_6; have k_0 : (0 : Int32).toInt = 0 := (by decide); have kk_0 : (0 : Int32).toInt = 0 := (by decide); have kk_1 : (1 : Int32).toInt = 1 := (by decide); have kk_2 : (2 : Int32).toInt = 2 := (by decide); have kk_3 : (3 : Int32).toInt = 3 := (by decide); have w_r_2 := wi_0 (a := 0) (b := 3) ej_1 (g_3 (iv_eqp b_7 (iv_c (0 : Int32) (by decide)))) (by decide) (by decide); omega)), rfl⟩)
  · have b_8 : iv 1 1 r_2 := iv_n0 c_6 br_2 (iv_c (0 : Int32) (a := 0) (b := 0) (by decide)) (by decide)
    have c_9 : (0 : Int64) ≤ j_1 := (g_4 (iv_eqp b_8 (iv_c (1 : Int32) (by decide))))
    have b_10 : ivL 0 9223372036854775807 j_1 := ivL_e2 c_9 (ivL_c (0 : Int64) (a := 0) (b := 0) (by decide)) (ivL_top j_1) (by decide)
    have b_11 : iv 0 2147483647 a1 := iv_cap (ivL_i ej_1 b_10) (iv_top a1) (by decide)
    have c_12 : j_1 ≤ 3 := (g_5 (iv_eqp b_8 (iv_c (1 : Int32) (by decide))))
    have b_13 : ivL 0 3 j_1 := ivL_e1 c_12 b_10 (ivL_c (3 : Int64) (a := 3) (b := 3) (by decide)) (by decide)
    have b_14 : iv 0 3 a1 := iv_cap (ivL_i ej_1 b_13) b_11 (by decide)
    refine lv_iload_n hx hb dX10_numbers_17 rfl (lv_at hl 2 rfl) ?_
    refine lv_i2l hx hb dX10_numbers_18 rfl ?_
    refine lv_topl (fun j_15 ej_15 => ?_)
    refine lv_lconst (v := 0) hx hb dX10_numbers_19 (by decide) ?_
    refine lv_ldc2 (v := 3) hx hb hown (hg _ q_7_107) dX10_numbers_20 ?_
    refine jnI (wr := [(z 0, .inr (10, mo z 0 pz0_5 pz0_6 pz0_7 pz0_8 pz0_9 pz0_10 pz0_11 pz0_12 pz0_13 pz0_14 pz0_18 pz0_19 pz0_22 pz0_23 pz0_29)), (z 37, aI V 4 fz37), (z 38, aI V 4 fz38), (z 39, aJ V 160 fz39)]) (rnS (rest := []) ⟨hx, hb, hml, hown, hg⟩ (k_X10_within_0 l V j_15 0 3) mt_X10_within q_6_114 ⟨Nat.le_of_ble_eq_true rfl, Nat.le_of_ble_eq_true rfl⟩ hK hP hD hS hA hE [] rfl rfl rfl hl.1 rfl (Nat.le_of_ble_eq_true rfl) dX10_numbers_23 ⟨Nat.le_of_ble_eq_true rfl, Nat.le_of_ble_eq_true rfl⟩) hP hD hS hA [] [0, 1, 2, 3] rfl rfl rfl (by decide) (fun r_16 w H locs hw hP hD hS => ?_)
    obtain ⟨br_16, g_17, g_18, g_19, rfl⟩ := hw
    have hP : va_P V.1 vwCl [(z 0, .inr (10, mo z 0 pz0_5 pz0_6 pz0_7 pz0_8 pz0_9 pz0_10 pz0_11 pz0_12 pz0_13 pz0_14 pz0_18 pz0_19 pz0_22 pz0_23 pz0_29)), (z 37, aI V 4 fz37), (z 38, aI V 4 fz38), (z 39, aJ V 160 fz39)] H := hP
    have hD : va_D A [(z 0, .inr (10, mo z 0 pz0_5 pz0_6 pz0_7 pz0_8 pz0_9 pz0_10 pz0_11 pz0_12 pz0_13 pz0_14 pz0_18 pz0_19 pz0_22 pz0_23 pz0_29)), (z 37, aI V 4 fz37), (z 38, aI V 4 fz38), (z 39, aJ V 160 fz39)] := hD
    refine lv_if_ne (tgt := 32) hx hb dX10_numbers_26 (by decide) (fun c_20 => ?_) (fun c_20 => ?_)
    · have b_21 : iv 1 1 r_16 := iv_n0 c_20 br_16 (iv_c (0 : Int32) (a := 0) (b := 0) (by decide)) (by decide)
      have c_22 : (0 : Int64) ≤ j_15 := (g_18 (iv_eqp b_21 (iv_c (1 : Int32) (by decide))))
      have b_23 : ivL 0 9223372036854775807 j_15 := ivL_e2 c_22 (ivL_c (0 : Int64) (a := 0) (b := 0) (by decide)) (ivL_top j_15) (by decide)
      have b_24 : iv 0 2147483647 a2 := iv_cap (ivL_i ej_15 b_23) (iv_top a2) (by decide)
      have c_25 : j_15 ≤ 3 := (g_19 (iv_eqp b_21 (iv_c (1 : Int32) (by decide))))
      have b_26 : ivL 0 3 j_15 := ivL_e1 c_25 b_23 (ivL_c (3 : Int64) (a := 3) (b := 3) (by decide)) (by decide)
      have b_27 : iv 0 3 a2 := iv_cap (ivL_i ej_15 b_26) b_24 (by decide)
      refine lv_iload_n hx hb dX10_numbers_32 rfl (lv_at hl 3 rfl) ?_
      refine lv_i2l hx hb dX10_numbers_33 rfl ?_
      refine lv_topl (fun j_28 ej_28 => ?_)
      refine lv_lconst (v := 0) hx hb dX10_numbers_34 (by decide) ?_
      refine lv_ldc2 (v := 40) hx hb hown (hg _ q_7_143) dX10_numbers_35 ?_
      refine jnI (wr := [(z 0, .inr (10, mo z 0 pz0_5 pz0_6 pz0_7 pz0_8 pz0_9 pz0_10 pz0_11 pz0_12 pz0_13 pz0_14 pz0_18 pz0_19 pz0_22 pz0_23 pz0_29)), (z 37, aI V 4 fz37), (z 38, aI V 4 fz38), (z 39, aJ V 160 fz39)]) (rnS (rest := []) ⟨hx, hb, hml, hown, hg⟩ (k_X10_within_0 l V j_28 0 40) mt_X10_within q_6_114 ⟨Nat.le_of_ble_eq_true rfl, Nat.le_of_ble_eq_true rfl⟩ hK hP hD hS hA hE [] rfl rfl rfl hl.1 rfl (Nat.le_of_ble_eq_true rfl) dX10_numbers_38 ⟨Nat.le_of_ble_eq_true rfl, Nat.le_of_ble_eq_true rfl⟩) hP hD hS hA [] [0, 1, 2, 3] rfl rfl rfl (by decide) (fun r_29 w H locs hw hP hD hS => ?_)
      obtain ⟨br_29, g_30, g_31, g_32, rfl⟩ := hw
      have hP : va_P V.1 vwCl [(z 0, .inr (10, mo z 0 pz0_5 pz0_6 pz0_7 pz0_8 pz0_9 pz0_10 pz0_11 pz0_12 pz0_13 pz0_14 pz0_18 pz0_19 pz0_22 pz0_23 pz0_29)), (z 37, aI V 4 fz37), (z 38, aI V 4 fz38), (z 39, aJ V 160 fz39)] H := hP
      have hD : va_D A [(z 0, .inr (10, mo z 0 pz0_5 pz0_6 pz0_7 pz0_8 pz0_9 pz0_10 pz0_11 pz0_12 pz0_13 pz0_14 pz0_18 pz0_19 pz0_22 pz0_23 pz0_29)), (z 37, aI V 4 fz37), (z 38, aI V 4 fz38), (z 39, aJ V 160 fz39)] := hD
      refine lv_if_ne (tgt := 47) hx hb dX10_numbers_41 (by decide) (fun c_33 => ?_) (fun c_33 => ?_)
      · have b_34 : iv 1 1 r_29 := iv_n0 c_33 br_29 (iv_c (0 : Int32) (a := 0) (b := 0) (by decide)) (by decide)
        have c_35 : (0 : Int64) ≤ j_28 := (g_31 (iv_eqp b_34 (iv_c (1 : Int32) (by decide))))
        have b_36 : ivL 0 9223372036854775807 j_28 := ivL_e2 c_35 (ivL_c (0 : Int64) (a := 0) (b := 0) (by decide)) (ivL_top j_28) (by decide)
        have b_37 : iv 0 2147483647 a3 := iv_cap (ivL_i ej_28 b_36) (iv_top a3) (by decide)
        have c_38 : j_28 ≤ 40 := (g_32 (iv_eqp b_34 (iv_c (1 : Int32) (by decide))))
        have b_39 : ivL 0 40 j_28 := ivL_e1 c_38 b_36 (ivL_c (40 : Int64) (a := 40) (b := 40) (by decide)) (by decide)
        have b_40 : iv 0 40 a3 := iv_cap (ivL_i ej_28 b_39) b_37 (by decide)
        refine lv_aload_n hx hb dX10_numbers_47 rfl (lv_at hl 0 rfl) ?_
        refine va_get (ci := 10) (v := .ref (z 37)) (C := RX10) (T := TX10) (N := 40) hx hb hg inX10 hown hK hP 0 rfl rfl 37 (by decide) (hg _ q_6_21) (fun _ h9 => h9) rfl dX10_numbers_48 ?_
        refine lv_iload_n hx hb dX10_numbers_51 rfl (lv_at hl 1 rfl) ?_
        refine lv_iload_n hx hb dX10_numbers_52 rfl (lv_at hl 2 rfl) ?_
        refine va_iast hx hb hK hP hD hS 1 0 rfl rfl (iv_in b_14 (by decide)) dX10_numbers_53 (fun H locs hP hD hS => ?_)
        obtain ⟨f_41, ef_41, tf_41, hP, hD⟩ : ∃ f_41 : Nat → Int32, f_41 = (upd fz37 (a1 : Int32).toNatClampNeg a2) ∧ (∀ j, iv (-1) 3 (f_41 j)) ∧ va_P V.1 vwCl [(z 0, .inr (10, mo z 0 pz0_5 pz0_6 pz0_7 pz0_8 pz0_9 pz0_10 pz0_11 pz0_12 pz0_13 pz0_14 pz0_18 pz0_19 pz0_22 pz0_23 pz0_29)), (z 37, aI V 4 f_41), (z 38, aI V 4 fz38), (z 39, aJ V 160 fz39)] H ∧ va_D A [(z 0, .inr (10, mo z 0 pz0_5 pz0_6 pz0_7 pz0_8 pz0_9 pz0_10 pz0_11 pz0_12 pz0_13 pz0_14 pz0_18 pz0_19 pz0_22 pz0_23 pz0_29)), (z 37, aI V 4 f_41), (z 38, aI V 4 fz38), (z 39, aJ V 160 fz39)] := ⟨_, rfl, ivU tfz37 _ (iv_w b_27 (by decide)), hP, hD⟩
        refine lv_aload_n hx hb dX10_numbers_54 rfl (lv_at hl 0 rfl) ?_
        refine va_get (ci := 10) (v := .ref (z 38)) (C := RX10) (T := TX10) (N := 40) hx hb hg inX10 hown hK hP 0 rfl rfl 38 (by decide) (hg _ q_6_22) (fun _ h9 => h9) rfl dX10_numbers_55 ?_
        refine lv_iload_n hx hb dX10_numbers_58 rfl (lv_at hl 1 rfl) ?_
        refine lv_iload_n hx hb dX10_numbers_59 rfl (lv_at hl 3 rfl) ?_
        refine va_iast hx hb hK hP hD hS 2 0 rfl rfl (iv_in b_14 (by decide)) dX10_numbers_60 (fun H locs hP hD hS => ?_)
        obtain ⟨f_42, ef_42, tf_42, hP, hD⟩ : ∃ f_42 : Nat → Int32, f_42 = (upd fz38 (a1 : Int32).toNatClampNeg a3) ∧ (∀ j, iv 0 40 (f_42 j)) ∧ va_P V.1 vwCl [(z 0, .inr (10, mo z 0 pz0_5 pz0_6 pz0_7 pz0_8 pz0_9 pz0_10 pz0_11 pz0_12 pz0_13 pz0_14 pz0_18 pz0_19 pz0_22 pz0_23 pz0_29)), (z 37, aI V 4 f_41), (z 38, aI V 4 f_42), (z 39, aJ V 160 fz39)] H ∧ va_D A [(z 0, .inr (10, mo z 0 pz0_5 pz0_6 pz0_7 pz0_8 pz0_9 pz0_10 pz0_11 pz0_12 pz0_13 pz0_14 pz0_18 pz0_19 pz0_22 pz0_23 pz0_29)), (z 37, aI V 4 f_41), (z 38, aI V 4 f_42), (z 39, aJ V 160 fz39)] := ⟨_, rfl, ivU tfz38 _ b_40, hP, hD⟩
        refine lv_iconst (v := 0) hx hb dX10_numbers_61 (by decide) ?_
        refine lv_istore (lv' := [(4, .int 0), (0, .ref (z 0)), (1, .int a1), (2, .int a2), (3, .int a3)]) hx hb dX10_numbers_62 hl (by decide) rfl (fun ls hl => ?_)
        refine loopF (X := fun (n_45 : Nat) (H : Heap) (locs : List Loc) (ls : Array Slot) => ∃ (u_43 : Int32) (f_44 : Nat → Int64), (iv 0 2147483647 u_43) ∧ n_45 = (2147483647 - (u_43 : Int32).toInt).toNat ∧ va_P V.1 vwCl [(z 0, .inr (10, mo z 0 pz0_5 pz0_6 pz0_7 pz0_8 pz0_9 pz0_10 pz0_11 pz0_12 pz0_13 pz0_14 pz0_18 pz0_19 pz0_22 pz0_23 pz0_29)), (z 37, aI V 4 f_41), (z 38, aI V 4 f_42), (z 39, aJ V 160 f_44)] H ∧ va_D A [(z 0, .inr (10, mo z 0 pz0_5 pz0_6 pz0_7 pz0_8 pz0_9 pz0_10 pz0_11 pz0_12 pz0_13 pz0_14 pz0_18 pz0_19 pz0_22 pz0_23 pz0_29)), (z 37, aI V 4 f_41), (z 38, aI V 4 f_42), (z 39, aJ V 160 f_44)] ∧ va_S A s.heap H locs ∧ lv_has ls 5 [(4, .int u_43), (0, .ref (z 0)), (1, .int a1), (2, .int a2), (3, .int a3)]) (g := fun ls => F0 m 64 ls []) (fun n_45 H locs ls hX ihn_45 => ?_) _ ⟨0, fz39, (iv_c (0 : Int32) (by decide)), rfl, hP, hD, hS, lv_sub hl [0, 1, 2, 3, 4] rfl⟩
        obtain ⟨u_43, f_44, bu_43, en_45, hP, hD, hS, hl⟩ := hX
        refine lv_iload hx hb dX10_numbers_64 (lv_at hl 0 rfl) ?_
        refine lv_iload_n hx hb dX10_numbers_66 rfl (lv_at hl 4 rfl) ?_
        refine lv_icmp_ge (tgt := 89) hx hb dX10_numbers_67 (by decide) (fun c_46 => ?_) (fun c_46 => ?_)
        · refine lv_iconst (v := 0) hx hb dX10_numbers_89 (by decide) ?_
          exact fiI hx hb hr hlk hK hP hD hS dX10_numbers_90 (Nat.le_of_ble_eq_true rfl) (Nat.le_of_ble_eq_true rfl) (⟨0, f_41, f_42, f_44, tf_41, tf_42, (iv_c (0 : Int32) (by decide)), (nu_0 (by have z_0 : ¬ ((r_2 : Int32).toInt = (0 : Int32).toInt) := fun q9 => c_6 (Int32.toInt_inj.mp q9); have z_1 : ¬ ((r_16 : Int32).toInt = (0 : Int32).toInt) := fun q9 => c_20 (Int32.toInt_inj.mp q9); have z_2 : ¬ ((r_29 : Int32).toInt = (0 : Int32).toInt) := fun q9 => c_33 (Int32.toInt_inj.mp q9); have z_3 := Int32.le_iff_toInt_le.mp c_46; have k_0 : (0 : Int32).toInt = 0 := (by decide); have kk_0 : (0 : Int32).toInt = 0 := (by decide); have kk_1 : (1 : Int32).toInt = 1 := (by decide); have kk_2 : (2 : Int32).toInt = 2 := (by decide); have kk_3 : (3 : Int32).toInt = 3 := (by decide); have iv_1 := b_14; unfold iv at iv_1; have iv_2 := b_27; unfold iv at iv_2; have iv_3 := b_40; unfold iv at iv_3; omega) (by have z_0 : ¬ ((r_2 : Int32).toInt = (0 : Int32).toInt) := fun q9 => c_6 (Int32.toInt_inj.mp q9); have z_1 : ¬ ((r_16 : Int32).toInt = (0 : Int32).toInt) := fun q9 => c_20 (Int32.toInt_inj.mp q9); have z_2 : ¬ ((r_29 : Int32).toInt = (0 : Int32).toInt) := fun q9 => c_33 (Int32.toInt_inj.mp q9); have z_3 := Int32.le_iff_toInt_le.mp c_46; have k_0 : (0 : Int32).toInt = 0 := (by decide); have kk_0 : (0 : Int32).toInt = 0 := (by decide); have kk_1 : (1 : Int32).toInt = 1 := (by decide); have kk_2 : (2 : Int32).toInt = 2 := (by decide); have kk_3 : (3 : Int32).toInt = 3 := (by decide); have iv_1 := b_14; unfold iv at iv_1; have iv_2 := b_27; unfold iv at iv_2; have iv_3 := b_40; unfold iv at iv_3; omega)), rfl⟩)
        · have b_47 : iv 0 39 u_43 := iv_l1 (Int32.not_le.mp c_46) bu_43 b_40 (by decide)
          have b_48 : iv 1 40 a3 := iv_l2 (Int32.not_le.mp c_46) bu_43 b_40 (by decide)
          refine lv_aload_n hx hb dX10_numbers_70 rfl (lv_at hl 1 rfl) ?_
          refine va_get (ci := 10) (v := .ref (z 39)) (C := RX10) (T := TX10) (N := 40) hx hb hg inX10 hown hK hP 0 rfl rfl 39 (by decide) (hg _ q_6_23) (fun _ h9 => h9) rfl dX10_numbers_71 ?_
          refine lv_bipush (v := 40) hx hb dX10_numbers_74 (by decide) ?_
          refine lv_iload_n hx hb dX10_numbers_76 rfl (lv_at hl 2 rfl) ?_
          refine lv_imul hx hb dX10_numbers_77 ?_
          refine lv_topi (fun x_49 ex_49 => ?_)
          have bx_49 : iv 0 120 x_49 := by rw [ex_49]; exact iv_cmul (iv_c (40 : Int32) (a := 40) (b := 40) (by decide)) b_14 (by decide)
          refine lv_iload hx hb dX10_numbers_78 (lv_at hl 0 rfl) ?_
          refine lv_iadd hx hb dX10_numbers_80 ?_
          refine lv_topi (fun x_50 ex_50 => ?_)
          have bx_50 : iv 0 159 x_50 := by rw [ex_50]; exact iv_add bx_49 b_47 (by decide)
          refine lv_lconst (v := 0) hx hb dX10_numbers_81 (by decide) ?_
          refine va_last hx hb hK hP hD hS 3 2 rfl rfl (iv_in bx_50 (by decide)) dX10_numbers_82 (fun H locs hP hD hS => ?_)
          obtain ⟨f_51, ef_51, hP, hD⟩ : ∃ f_51 : Nat → Int64, f_51 = (vp_updL f_44 (x_50 : Int32).toNatClampNeg 0) ∧ va_P V.1 vwCl [(z 0, .inr (10, mo z 0 pz0_5 pz0_6 pz0_7 pz0_8 pz0_9 pz0_10 pz0_11 pz0_12 pz0_13 pz0_14 pz0_18 pz0_19 pz0_22 pz0_23 pz0_29)), (z 37, aI V 4 f_41), (z 38, aI V 4 f_42), (z 39, aJ V 160 f_51)] H ∧ va_D A [(z 0, .inr (10, mo z 0 pz0_5 pz0_6 pz0_7 pz0_8 pz0_9 pz0_10 pz0_11 pz0_12 pz0_13 pz0_14 pz0_18 pz0_19 pz0_22 pz0_23 pz0_29)), (z 37, aI V 4 f_41), (z 38, aI V 4 f_42), (z 39, aJ V 160 f_51)] := ⟨_, rfl, hP, hD⟩
          obtain ⟨x_52, ex_52⟩ : ∃ z9 : Int32, z9 = u_43 + 1 := ⟨_, rfl⟩
          have bx_52 : iv 1 40 x_52 := by rw [ex_52]; exact iv_add b_47 (iv_c (1 : Int32) (a := 1) (b := 1) (by decide)) (by decide)
          refine lv_iinc (v := x_52) (lv' := [(4, .int x_52), (0, .ref (z 0)), (1, .int a1), (2, .int a2), (3, .int a3)]) hx hb dX10_numbers_83 hl (k := 0) rfl (by rw [ex_52]; rfl) (by decide) rfl (fun ls hl => ?_)
          refine lv_goto (tgt := 64) hx hb dX10_numbers_86 (by decide) ?_
          exact ihn_45 _ _ _ _ (by rw [en_45, ex_52]; exact mu_up b_47 (by decide)) ⟨x_52, f_51, (iv_w bx_52 (by decide)), rfl, hP, hD, hS, lv_sub hl [0, 1, 2, 3, 4] rfl⟩
      · have b_53 : iv 0 0 r_29 := iv_q c_33 (iv_c (0 : Int32) (a := 0) (b := 0) (by decide))
        refine lv_bipush (v := (-3)) hx hb dX10_numbers_44 (by decide) ?_
        exact fiI hx hb hr hlk hK hP hD hS dX10_numbers_46 (Nat.le_of_ble_eq_true rfl) (Nat.le_of_ble_eq_true rfl) (⟨0, fz37, fz38, fz39, tfz37, tfz38, (iv_c ((-3) : Int32) (by decide)), (nu_3 (by have z_0 : ¬ ((r_2 : Int32).toInt = (0 : Int32).toInt) := fun q9 => c_6 (Int32.toInt_inj.mp q9); have z_1 : ¬ ((r_16 : Int32).toInt = (0 : Int32).toInt) := fun q9 => c_20 (Int32.toInt_inj.mp q9); have z_2 := congrArg Int32.toInt c_33; have k_0 : (0 : Int32).toInt = 0 := (by decide); have kk_0 : (0 : Int32).toInt = 0 := (by decide); have kk_1 : (1 : Int32).toInt = 1 := (by decide); have kk_2 : (2 : Int32).toInt = 2 := (by decide); have kk_3 : (3 : Int32).toInt = 3 := (by decide); have iv_1 := b_14; unfold iv at iv_1; have iv_2 := b_27; unfold iv at iv_2; have w_r_29 := wi_0 (a := 0) (b := 40) ej_28 (g_30 (iv_eqp b_53 (iv_c (0 : Int32) (by decide)))) (by decide) (by decide); omega) (by have z_0 : ¬ ((r_2 : Int32).toInt = (0 : Int32).toInt) := fun q9 => c_6 (Int32.toInt_inj.mp q9); have z_1 : ¬ ((r_16 : Int32).toInt = (0 : Int32).toInt) := fun q9 => c_20 (Int32.toInt_inj.mp q9); have z_2 := congrArg Int32.toInt c_33; have k_0 : (0 : Int32).toInt = 0 := (by decide); have kk_0 : (0 : Int32).toInt = 0 := (by decide); have kk_1 : (1 : Int32).toInt = 1 := (by decide); have kk_2 : (2 : Int32).toInt = 2 := (by decide); have kk_3 : (3 : Int32).toInt = 3 := (by decide); have iv_1 := b_14; unfold iv at iv_1; have iv_2 := b_27; unfold iv at iv_2; have w_r_29 := wi_0 (a := 0) (b := 40) ej_28 (g_30 (iv_eqp b_53 (iv_c (0 : Int32) (by decide)))) (by decide) (by decide); omega)), rfl⟩)
    · have b_54 : iv 0 0 r_16 := iv_q c_20 (iv_c (0 : Int32) (a := 0) (b := 0) (by decide))
      refine lv_bipush (v := (-2)) hx hb dX10_numbers_29 (by decide) ?_
      exact fiI hx hb hr hlk hK hP hD hS dX10_numbers_31 (Nat.le_of_ble_eq_true rfl) (Nat.le_of_ble_eq_true rfl) (⟨0, fz37, fz38, fz39, tfz37, tfz38, (iv_c ((-2) : Int32) (by decide)), (nu_2 (by have z_0 : ¬ ((r_2 : Int32).toInt = (0 : Int32).toInt) := fun q9 => c_6 (Int32.toInt_inj.mp q9); have z_1 := congrArg Int32.toInt c_20; have k_0 : (0 : Int32).toInt = 0 := (by decide); have kk_0 : (0 : Int32).toInt = 0 := (by decide); have kk_1 : (1 : Int32).toInt = 1 := (by decide); have kk_2 : (2 : Int32).toInt = 2 := (by decide); have kk_3 : (3 : Int32).toInt = 3 := (by decide); have iv_1 := b_14; unfold iv at iv_1; have w_r_16 := wi_0 (a := 0) (b := 3) ej_15 (g_17 (iv_eqp b_54 (iv_c (0 : Int32) (by decide)))) (by decide) (by decide); omega)), rfl⟩)
theorem dX10_cut_0 : decode cX10_cut 0 = .ok (.iload_n 2, 1) := by decide +kernel
theorem dX10_cut_1 : decode cX10_cut 1 = .ok (.ifCond .ne 10, 3) := by decide +kernel
theorem dX10_cut_11 : decode cX10_cut 11 = .ok (.iload_n 2, 1) := by decide +kernel
theorem dX10_cut_12 : decode cX10_cut 12 = .ok (.iconst 1, 1) := by decide +kernel
theorem dX10_cut_13 : decode cX10_cut 13 = .ok (.if_icmp .ne 10, 3) := by decide +kernel
theorem dX10_cut_23 : decode cX10_cut 23 = .ok (.iload_n 2, 1) := by decide +kernel
theorem dX10_cut_24 : decode cX10_cut 24 = .ok (.iconst 2, 1) := by decide +kernel
theorem dX10_cut_25 : decode cX10_cut 25 = .ok (.if_icmp .ne 9, 3) := by decide +kernel
theorem dX10_cut_34 : decode cX10_cut 34 = .ok (.lload_n 0, 1) := by decide +kernel
theorem dX10_cut_35 : decode cX10_cut 35 = .ok (.lreturn, 1) := by decide +kernel
theorem dX10_cut_28 : decode cX10_cut 28 = .ok (.lload_n 0, 1) := by decide +kernel
theorem dX10_cut_29 : decode cX10_cut 29 = .ok (.l2i, 1) := by decide +kernel
theorem dX10_cut_30 : decode cX10_cut 30 = .ok (.i2l, 1) := by decide +kernel
theorem dX10_cut_31 : decode cX10_cut 31 = .ok (.goto 4, 3) := by decide +kernel
theorem dX10_cut_16 : decode cX10_cut 16 = .ok (.lload_n 0, 1) := by decide +kernel
theorem dX10_cut_17 : decode cX10_cut 17 = .ok (.l2i, 1) := by decide +kernel
theorem dX10_cut_18 : decode cX10_cut 18 = .ok (.i2s, 1) := by decide +kernel
theorem dX10_cut_19 : decode cX10_cut 19 = .ok (.i2l, 1) := by decide +kernel
theorem dX10_cut_20 : decode cX10_cut 20 = .ok (.goto 15, 3) := by decide +kernel
theorem dX10_cut_4 : decode cX10_cut 4 = .ok (.lload_n 0, 1) := by decide +kernel
theorem dX10_cut_5 : decode cX10_cut 5 = .ok (.l2i, 1) := by decide +kernel
theorem dX10_cut_6 : decode cX10_cut 6 = .ok (.i2b, 1) := by decide +kernel
theorem dX10_cut_7 : decode cX10_cut 7 = .ok (.i2l, 1) := by decide +kernel
theorem dX10_cut_8 : decode cX10_cut 8 = .ok (.goto 27, 3) := by decide +kernel
set_option maxHeartbeats 4000000 in
set_option maxRecDepth 100000 in
theorem k_X10_cut_0 (l : Launch) (V : GV) (k0 : Int64) (a1 : Int32) : Ct l V yX10_cut (.code yX10_cut cX10_cut 3 (some .long)) 1 [.long k0, .int a1] [] 0 0 (QL V (fun (r : Int64) (w : va_W) => w = [])) := by
  refine Ct.of (by decide) (Nat.le_of_ble_eq_true rfl) (fun p e s m below meth c A ls hx hb hr hml hown hlk hnm hg hP hK hD hE hA hS hl => ?_)
  have hl : lv_has ls 3 [(0, .long k0), (2, .int a1)] := hl
  refine lv_iload_n hx hb dX10_cut_0 rfl (lv_at hl 1 rfl) ?_
  refine lv_if_ne (tgt := 11) hx hb dX10_cut_1 (by decide) (fun c_1 => ?_) (fun c_1 => ?_)
  · refine lv_iload_n hx hb dX10_cut_11 rfl (lv_at hl 1 rfl) ?_
    refine lv_iconst (v := 1) hx hb dX10_cut_12 (by decide) ?_
    refine lv_icmp_ne (tgt := 23) hx hb dX10_cut_13 (by decide) (fun c_2 => ?_) (fun c_2 => ?_)
    · refine lv_iload_n hx hb dX10_cut_23 rfl (lv_at hl 1 rfl) ?_
      refine lv_iconst (v := 2) hx hb dX10_cut_24 (by decide) ?_
      refine lv_icmp_ne (tgt := 34) hx hb dX10_cut_25 (by decide) (fun c_3 => ?_) (fun c_3 => ?_)
      · refine lv_lload_n hx hb dX10_cut_34 rfl (lv_at hl 0 rfl) ?_
        exact fiL hx hb hr hlk hK hP hD hS dX10_cut_35 (Nat.le_of_ble_eq_true rfl) (Nat.le_of_ble_eq_true rfl) (rfl)
      · have b_4 : iv 2 2 a1 := iv_q c_3 (iv_c (2 : Int32) (a := 2) (b := 2) (by decide))
        refine lv_lload_n hx hb dX10_cut_28 rfl (lv_at hl 0 rfl) ?_
        refine lv_l2i hx hb dX10_cut_29 rfl ?_
        refine lv_topi (fun x_5 ex_5 => ?_)
        refine lv_i2l hx hb dX10_cut_30 rfl ?_
        refine lv_topl (fun j_6 ej_6 => ?_)
        refine lv_goto (tgt := 35) hx hb dX10_cut_31 (by decide) ?_
        exact fiL hx hb hr hlk hK hP hD hS dX10_cut_35 (Nat.le_of_ble_eq_true rfl) (Nat.le_of_ble_eq_true rfl) (rfl)
    · have b_7 : iv 1 1 a1 := iv_q c_2 (iv_c (1 : Int32) (a := 1) (b := 1) (by decide))
      refine lv_lload_n hx hb dX10_cut_16 rfl (lv_at hl 0 rfl) ?_
      refine lv_l2i hx hb dX10_cut_17 rfl ?_
      refine lv_topi (fun x_8 ex_8 => ?_)
      refine lv_i2s hx hb dX10_cut_18 rfl ?_
      refine lv_topi (fun x_9 ex_9 => ?_)
      refine lv_i2l hx hb dX10_cut_19 rfl ?_
      refine lv_topl (fun j_10 ej_10 => ?_)
      refine lv_goto (tgt := 35) hx hb dX10_cut_20 (by decide) ?_
      exact fiL hx hb hr hlk hK hP hD hS dX10_cut_35 (Nat.le_of_ble_eq_true rfl) (Nat.le_of_ble_eq_true rfl) (rfl)
  · have b_11 : iv 0 0 a1 := iv_q c_1 (iv_c (0 : Int32) (a := 0) (b := 0) (by decide))
    refine lv_lload_n hx hb dX10_cut_4 rfl (lv_at hl 0 rfl) ?_
    refine lv_l2i hx hb dX10_cut_5 rfl ?_
    refine lv_topi (fun x_12 ex_12 => ?_)
    refine lv_i2b hx hb dX10_cut_6 rfl ?_
    refine lv_topi (fun x_13 ex_13 => ?_)
    refine lv_i2l hx hb dX10_cut_7 rfl ?_
    refine lv_topl (fun j_14 ej_14 => ?_)
    refine lv_goto (tgt := 35) hx hb dX10_cut_8 (by decide) ?_
    exact fiL hx hb hr hlk hK hP hD hS dX10_cut_35 (Nat.le_of_ble_eq_true rfl) (Nat.le_of_ble_eq_true rfl) (rfl)
theorem dX10_write_0 : decode cX10_write 0 = .ok (.aload_n 0, 1) := by decide +kernel
theorem dX10_write_1 : decode cX10_write 1 = .ok (.iconst 0, 1) := by decide +kernel
theorem dX10_write_2 : decode cX10_write 2 = .ok (.putfield 1, 3) := by decide +kernel
theorem dX10_write_5 : decode cX10_write 5 = .ok (.aload_n 0, 1) := by decide +kernel
theorem dX10_write_6 : decode cX10_write 6 = .ok (.iload_n 1, 1) := by decide +kernel
theorem dX10_write_7 : decode cX10_write 7 = .ok (.invokevirtual 317, 3) := by decide +kernel
theorem dX10_write_10 : decode cX10_write 10 = .ok (.istore 5, 2) := by decide +kernel
theorem dX10_write_12 : decode cX10_write 12 = .ok (.iload 5, 2) := by decide +kernel
theorem dX10_write_14 : decode cX10_write 14 = .ok (.ifCond .eq 7, 3) := by decide +kernel
theorem dX10_write_21 : decode cX10_write 21 = .ok (.iload_n 2, 1) := by decide +kernel
theorem dX10_write_22 : decode cX10_write 22 = .ok (.i2l, 1) := by decide +kernel
theorem dX10_write_23 : decode cX10_write 23 = .ok (.lconst 0, 1) := by decide +kernel
theorem dX10_write_24 : decode cX10_write 24 = .ok (.aload_n 0, 1) := by decide +kernel
theorem dX10_write_25 : decode cX10_write 25 = .ok (.getfield 87, 3) := by decide +kernel
theorem dX10_write_28 : decode cX10_write 28 = .ok (.iload_n 1, 1) := by decide +kernel
theorem dX10_write_29 : decode cX10_write 29 = .ok (.iaload, 1) := by decide +kernel
theorem dX10_write_30 : decode cX10_write 30 = .ok (.iconst 1, 1) := by decide +kernel
theorem dX10_write_31 : decode cX10_write 31 = .ok (.isub, 1) := by decide +kernel
theorem dX10_write_32 : decode cX10_write 32 = .ok (.i2l, 1) := by decide +kernel
theorem dX10_write_33 : decode cX10_write 33 = .ok (.invokestatic 159, 3) := by decide +kernel
theorem dX10_write_36 : decode cX10_write 36 = .ok (.ifCond .ne 7, 3) := by decide +kernel
theorem dX10_write_43 : decode cX10_write 43 = .ok (.aload_n 0, 1) := by decide +kernel
theorem dX10_write_44 : decode cX10_write 44 = .ok (.getfield 90, 3) := by decide +kernel
theorem dX10_write_47 : decode cX10_write 47 = .ok (.bipush 40, 2) := by decide +kernel
theorem dX10_write_49 : decode cX10_write 49 = .ok (.iload_n 1, 1) := by decide +kernel
theorem dX10_write_50 : decode cX10_write 50 = .ok (.imul, 1) := by decide +kernel
theorem dX10_write_51 : decode cX10_write 51 = .ok (.iload_n 2, 1) := by decide +kernel
theorem dX10_write_52 : decode cX10_write 52 = .ok (.iadd, 1) := by decide +kernel
theorem dX10_write_53 : decode cX10_write 53 = .ok (.lload_n 3, 1) := by decide +kernel
theorem dX10_write_54 : decode cX10_write 54 = .ok (.aload_n 0, 1) := by decide +kernel
theorem dX10_write_55 : decode cX10_write 55 = .ok (.getfield 84, 3) := by decide +kernel
theorem dX10_write_58 : decode cX10_write 58 = .ok (.iload_n 1, 1) := by decide +kernel
theorem dX10_write_59 : decode cX10_write 59 = .ok (.iaload, 1) := by decide +kernel
theorem q_8_142 : Cond.code yX10_cut prog_12_method_128_code 3 (some FieldType.long) ∈ gw := gw_8 (i := 142) (rfl) rfl
theorem q_8_141 : Cond.static yX10_cut ∈ gw := gw_8 (i := 141) (by decide +kernel) rfl
theorem mt_X10_cut : MtS yX10_cut cX10_cut 3 (some .long) 2 := ⟨⟨q_8_142, q_1_9, by decide +kernel, by decide +kernel, by decide +kernel⟩, q_8_141⟩
theorem q_8_140 : Cond.methodLink "BeaconDelayModel" 466 yX10_cut ∈ gw := gw_8 (i := 140) (by decide +kernel) rfl
theorem dX10_write_60 : decode cX10_write 60 = .ok (.invokestatic 466, 3) := by decide +kernel
theorem dX10_write_63 : decode cX10_write 63 = .ok (.lastore, 1) := by decide +kernel
theorem dX10_write_64 : decode cX10_write 64 = .ok (.aload_n 0, 1) := by decide +kernel
theorem dX10_write_65 : decode cX10_write 65 = .ok (.getfield 90, 3) := by decide +kernel
theorem dX10_write_68 : decode cX10_write 68 = .ok (.bipush 40, 2) := by decide +kernel
theorem dX10_write_70 : decode cX10_write 70 = .ok (.iload_n 1, 1) := by decide +kernel
theorem dX10_write_71 : decode cX10_write 71 = .ok (.imul, 1) := by decide +kernel
theorem dX10_write_72 : decode cX10_write 72 = .ok (.iload_n 2, 1) := by decide +kernel
theorem dX10_write_73 : decode cX10_write 73 = .ok (.iadd, 1) := by decide +kernel
theorem dX10_write_74 : decode cX10_write 74 = .ok (.laload, 1) := by decide +kernel
theorem dX10_write_75 : decode cX10_write 75 = .ok (.lreturn, 1) := by decide +kernel
theorem q_8_139 : Cond.constantLong "BeaconDelayModel" 464 (-7 : Int64) ∈ gw := gw_8 (i := 139) (by decide +kernel) rfl
theorem dX10_write_39 : decode cX10_write 39 = .ok (.ldc2_w 464, 3) := by decide +kernel
theorem dX10_write_42 : decode cX10_write 42 = .ok (.lreturn, 1) := by decide +kernel
theorem dX10_write_17 : decode cX10_write 17 = .ok (.iload 5, 2) := by decide +kernel
theorem dX10_write_19 : decode cX10_write 19 = .ok (.i2l, 1) := by decide +kernel
theorem dX10_write_20 : decode cX10_write 20 = .ok (.lreturn, 1) := by decide +kernel
set_option maxHeartbeats 4000000 in
set_option maxRecDepth 100000 in
theorem k_X10_write_0 (l : Launch) (V : GV) (z : Nat → Nat) (a1 : Int32) (a2 : Int32) (k3 : Int64) (pz0_0 : Int32) (pz0_5 : Int32) (pz0_6 : Int32) (pz0_7 : Int32) (pz0_8 : Int32) (pz0_9 : Int32) (pz0_10 : Int32) (pz0_11 : Int32) (pz0_12 : Int32) (pz0_13 : Int32) (pz0_14 : Int32) (pz0_18 : Int32) (pz0_19 : Int32) (pz0_22 : Int32) (pz0_23 : Int32) (pz0_29 : Int32) (fz37 : Nat → Int32) (fz38 : Nat → Int32) (fz39 : Nat → Int64) (bpz0_5 : iv 0 900 pz0_5) (bpz0_6 : iv 0 900 pz0_6) (bpz0_7 : iv 0 900 pz0_7) (bpz0_8 : iv 0 900 pz0_8) (bpz0_10 : iv 0 999 pz0_10) (bpz0_11 : iv 0 4 pz0_11) (bpz0_12 : iv 0 900 pz0_12) (bpz0_13 : iv 0 4 pz0_13) (bpz0_14 : iv (-1) 900 pz0_14) (bpz0_18 : iv 0 2 pz0_18) (bpz0_22 : iv 0 9999 pz0_22) (bpz0_29 : iv 0 10000 pz0_29) (tfz37 : ∀ j, iv (-1) 3 (fz37 j)) (tfz38 : ∀ j, iv 0 40 (fz38 j)) : Ct l V yX10_write (.code yX10_write cX10_write 6 (some .long)) 3 [.ref (z 0), .int a1, .int a2, .long k3] [(z 0, .inr (10, mo z pz0_0 pz0_5 pz0_6 pz0_7 pz0_8 pz0_9 pz0_10 pz0_11 pz0_12 pz0_13 pz0_14 pz0_18 pz0_19 pz0_22 pz0_23 pz0_29)), (z 37, aI V 4 fz37), (z 38, aI V 4 fz38), (z 39, aJ V 160 fz39)] 0 0 (QL V (fun (r : Int64) (w : va_W) => ∃ (v0 : Int32) (g1 : Nat → Int64), w = [(z 0, .inr (10, mo z v0 pz0_5 pz0_6 pz0_7 pz0_8 pz0_9 pz0_10 pz0_11 pz0_12 pz0_13 pz0_14 pz0_18 pz0_19 pz0_22 pz0_23 pz0_29)), (z 37, aI V 4 fz37), (z 38, aI V 4 fz38), (z 39, aJ V 160 g1)])) := by
  refine Ct.of (by decide) (Nat.le_of_ble_eq_true rfl) (fun p e s m below meth c A ls hx hb hr hml hown hlk hnm hg hP hK hD hE hA hS hl => ?_)
  have hl : lv_has ls 6 [(0, .ref (z 0)), (1, .int a1), (2, .int a2), (3, .long k3)] := hl
  refine lv_aload_n hx hb dX10_write_0 rfl (lv_at hl 0 rfl) ?_
  refine lv_iconst (v := 0) hx hb dX10_write_1 (by decide) ?_
  refine va_put (ci := 10) (v := .int 0) (ty := .int) (C := RX10) (T := TX10) (N := 40) hx hb hg inX10 tyX10 tyX10_ok nmX10 hown hK hP hD hS 0 rfl rfl 0 (by decide) (hg _ q_5_224) (fun _ h9 => h9) rfl (by decide +kernel) rfl rfl (Nat.le_of_ble_eq_true rfl) dX10_write_2 (fun H locs hP hD hS => ?_)
  have hP : va_P V.1 vwCl [(z 0, .inr (10, mo z 0 pz0_5 pz0_6 pz0_7 pz0_8 pz0_9 pz0_10 pz0_11 pz0_12 pz0_13 pz0_14 pz0_18 pz0_19 pz0_22 pz0_23 pz0_29)), (z 37, aI V 4 fz37), (z 38, aI V 4 fz38), (z 39, aJ V 160 fz39)] H := hP
  have hD : va_D A [(z 0, .inr (10, mo z 0 pz0_5 pz0_6 pz0_7 pz0_8 pz0_9 pz0_10 pz0_11 pz0_12 pz0_13 pz0_14 pz0_18 pz0_19 pz0_22 pz0_23 pz0_29)), (z 37, aI V 4 fz37), (z 38, aI V 4 fz38), (z 39, aJ V 160 fz39)] := hD
  refine lv_aload_n hx hb dX10_write_5 rfl (lv_at hl 0 rfl) ?_
  refine lv_iload_n hx hb dX10_write_6 rfl (lv_at hl 1 rfl) ?_
  refine jnI (wr := [(z 38, aI V 4 fz38), (z 39, aJ V 160 fz39)]) (rnV (rest := []) ⟨hx, hb, hml, hown, hg⟩ (k_X10_noTray_0 l V z a1 0 pz0_5 pz0_6 pz0_7 pz0_8 pz0_9 pz0_10 pz0_11 pz0_12 pz0_13 pz0_14 pz0_18 pz0_19 pz0_22 pz0_23 pz0_29 fz37 bpz0_5 bpz0_6 bpz0_7 bpz0_8 bpz0_10 bpz0_11 bpz0_12 bpz0_13 bpz0_14 bpz0_18 bpz0_22 bpz0_29 tfz37) mt_X10_noTray q_7_108 ⟨Nat.le_of_ble_eq_true rfl, Nat.le_of_ble_eq_true rfl⟩ hK hP hD hS hA hE [0, 1] rfl rfl 0 rfl rfl rfl rfl hl.1 rfl (Nat.le_of_ble_eq_true rfl) dX10_write_7 ⟨Nat.le_of_ble_eq_true rfl, Nat.le_of_ble_eq_true rfl⟩) hP hD hS hA [0, 1] [2, 3] rfl rfl rfl (by decide) (fun r_1 w H locs hw hP hD hS => ?_)
  obtain ⟨br_1, g_2, rfl⟩ := hw
  have hP : va_P V.1 vwCl [(z 38, aI V 4 fz38), (z 39, aJ V 160 fz39), (z 0, .inr (10, mo z 0 pz0_5 pz0_6 pz0_7 pz0_8 pz0_9 pz0_10 pz0_11 pz0_12 pz0_13 pz0_14 pz0_18 pz0_19 pz0_22 pz0_23 pz0_29)), (z 37, aI V 4 fz37)] H := hP
  have hD : va_D A [(z 38, aI V 4 fz38), (z 39, aJ V 160 fz39), (z 0, .inr (10, mo z 0 pz0_5 pz0_6 pz0_7 pz0_8 pz0_9 pz0_10 pz0_11 pz0_12 pz0_13 pz0_14 pz0_18 pz0_19 pz0_22 pz0_23 pz0_29)), (z 37, aI V 4 fz37)] := hD
  refine lv_istore (lv' := [(5, .int r_1), (0, .ref (z 0)), (1, .int a1), (2, .int a2), (3, .long k3)]) hx hb dX10_write_10 hl (by decide) rfl (fun ls hl => ?_)
  refine lv_iload hx hb dX10_write_12 (lv_at hl 0 rfl) ?_
  refine lv_if_eq (tgt := 21) hx hb dX10_write_14 (by decide) (fun c_3 => ?_) (fun c_3 => ?_)
  · have b_4 : iv 0 0 r_1 := iv_q c_3 (iv_c (0 : Int32) (a := 0) (b := 0) (by decide))
    have b_5 : iv 0 3 a1 := iv_cap (g_2 (iv_eqp b_4 (iv_c (0 : Int32) (by decide)))) (iv_top a1) (by decide)
    refine lv_iload_n hx hb dX10_write_21 rfl (lv_at hl 3 rfl) ?_
    refine lv_i2l hx hb dX10_write_22 rfl ?_
    refine lv_topl (fun j_6 ej_6 => ?_)
    refine lv_lconst (v := 0) hx hb dX10_write_23 (by decide) ?_
    refine lv_aload_n hx hb dX10_write_24 rfl (lv_at hl 1 rfl) ?_
    refine va_get (ci := 10) (v := .ref (z 38)) (C := RX10) (T := TX10) (N := 40) hx hb hg inX10 hown hK hP 2 rfl rfl 38 (by decide) (hg _ q_6_22) (fun _ h9 => h9) rfl dX10_write_25 ?_
    refine lv_iload_n hx hb dX10_write_28 rfl (lv_at hl 2 rfl) ?_
    refine va_iald hx hb hK hP 0 0 rfl rfl (iv_in b_5 (by decide)) dX10_write_29 ?_
    refine lv_topi (fun x_7 ex_7 => ?_)
    have bx_7 : iv 0 40 x_7 := by rw [ex_7]; exact tfz38 _
    refine lv_iconst (v := 1) hx hb dX10_write_30 (by decide) ?_
    refine lv_isub hx hb dX10_write_31 ?_
    refine lv_topi (fun x_8 ex_8 => ?_)
    have bx_8 : iv (-1) 39 x_8 := by rw [ex_8]; exact iv_sub bx_7 (iv_c (1 : Int32) (a := 1) (b := 1) (by decide)) (by decide)
    refine lv_i2l hx hb dX10_write_32 rfl ?_
    refine lv_topl (fun j_9 ej_9 => ?_)
    have bj_9 : ivL (-1) 39 j_9 := by rw [ej_9]; exact ivL_of bx_8
    refine jnI (wr := [(z 38, aI V 4 fz38), (z 39, aJ V 160 fz39), (z 0, .inr (10, mo z 0 pz0_5 pz0_6 pz0_7 pz0_8 pz0_9 pz0_10 pz0_11 pz0_12 pz0_13 pz0_14 pz0_18 pz0_19 pz0_22 pz0_23 pz0_29)), (z 37, aI V 4 fz37)]) (rnS (rest := []) ⟨hx, hb, hml, hown, hg⟩ (k_X10_within_0 l V j_6 0 j_9) mt_X10_within q_6_114 ⟨Nat.le_of_ble_eq_true rfl, Nat.le_of_ble_eq_true rfl⟩ hK hP hD hS hA hE [] rfl rfl rfl hl.1 rfl (Nat.le_of_ble_eq_true rfl) dX10_write_33 ⟨Nat.le_of_ble_eq_true rfl, Nat.le_of_ble_eq_true rfl⟩) hP hD hS hA [] [0, 1, 2, 3] rfl rfl rfl (by decide) (fun r_10 w H locs hw hP hD hS => ?_)
    obtain ⟨br_10, g_11, g_12, g_13, rfl⟩ := hw
    have hP : va_P V.1 vwCl [(z 38, aI V 4 fz38), (z 39, aJ V 160 fz39), (z 0, .inr (10, mo z 0 pz0_5 pz0_6 pz0_7 pz0_8 pz0_9 pz0_10 pz0_11 pz0_12 pz0_13 pz0_14 pz0_18 pz0_19 pz0_22 pz0_23 pz0_29)), (z 37, aI V 4 fz37)] H := hP
    have hD : va_D A [(z 38, aI V 4 fz38), (z 39, aJ V 160 fz39), (z 0, .inr (10, mo z 0 pz0_5 pz0_6 pz0_7 pz0_8 pz0_9 pz0_10 pz0_11 pz0_12 pz0_13 pz0_14 pz0_18 pz0_19 pz0_22 pz0_23 pz0_29)), (z 37, aI V 4 fz37)] := hD
    refine lv_if_ne (tgt := 43) hx hb dX10_write_36 (by decide) (fun c_14 => ?_) (fun c_14 => ?_)
    · have b_15 : iv 1 1 r_10 := iv_n0 c_14 br_10 (iv_c (0 : Int32) (a := 0) (b := 0) (by decide)) (by decide)
      have c_16 : (0 : Int64) ≤ j_6 := (g_12 (iv_eqp b_15 (iv_c (1 : Int32) (by decide))))
      have b_17 : ivL 0 9223372036854775807 j_6 := ivL_e2 c_16 (ivL_c (0 : Int64) (a := 0) (b := 0) (by decide)) (ivL_top j_6) (by decide)
      have b_18 : iv 0 2147483647 a2 := iv_cap (ivL_i ej_6 b_17) (iv_top a2) (by decide)
      have c_19 : j_6 ≤ j_9 := (g_13 (iv_eqp b_15 (iv_c (1 : Int32) (by decide))))
      have b_20 : ivL 0 39 j_6 := ivL_e1 c_19 b_17 bj_9 (by decide)
      have b_21 : iv 0 39 a2 := iv_cap (ivL_i ej_6 b_20) b_18 (by decide)
      have b_22 : ivL 0 39 j_9 := ivL_e2 c_19 b_17 bj_9 (by decide)
      have b_23 : iv 0 39 x_8 := iv_cap (ivL_i ej_9 b_22) bx_8 (by decide)
      refine lv_aload_n hx hb dX10_write_43 rfl (lv_at hl 1 rfl) ?_
      refine va_get (ci := 10) (v := .ref (z 39)) (C := RX10) (T := TX10) (N := 40) hx hb hg inX10 hown hK hP 2 rfl rfl 39 (by decide) (hg _ q_6_23) (fun _ h9 => h9) rfl dX10_write_44 ?_
      refine lv_bipush (v := 40) hx hb dX10_write_47 (by decide) ?_
      refine lv_iload_n hx hb dX10_write_49 rfl (lv_at hl 2 rfl) ?_
      refine lv_imul hx hb dX10_write_50 ?_
      refine lv_topi (fun x_24 ex_24 => ?_)
      have bx_24 : iv 0 120 x_24 := by rw [ex_24]; exact iv_cmul (iv_c (40 : Int32) (a := 40) (b := 40) (by decide)) b_5 (by decide)
      refine lv_iload_n hx hb dX10_write_51 rfl (lv_at hl 3 rfl) ?_
      refine lv_iadd hx hb dX10_write_52 ?_
      refine lv_topi (fun x_25 ex_25 => ?_)
      have bx_25 : iv 0 159 x_25 := by rw [ex_25]; exact iv_add bx_24 b_21 (by decide)
      refine lv_lload_n hx hb dX10_write_53 rfl (lv_at hl 4 rfl) ?_
      refine lv_aload_n hx hb dX10_write_54 rfl (lv_at hl 1 rfl) ?_
      refine va_get (ci := 10) (v := .ref (z 37)) (C := RX10) (T := TX10) (N := 40) hx hb hg inX10 hown hK hP 2 rfl rfl 37 (by decide) (hg _ q_6_21) (fun _ h9 => h9) rfl dX10_write_55 ?_
      refine lv_iload_n hx hb dX10_write_58 rfl (lv_at hl 2 rfl) ?_
      refine va_iald hx hb hK hP 3 0 rfl rfl (iv_in b_5 (by decide)) dX10_write_59 ?_
      refine lv_topi (fun x_26 ex_26 => ?_)
      have bx_26 : iv (-1) 3 x_26 := by rw [ex_26]; exact tfz37 _
      refine jnL (wr := [(z 38, aI V 4 fz38), (z 39, aJ V 160 fz39), (z 0, .inr (10, mo z 0 pz0_5 pz0_6 pz0_7 pz0_8 pz0_9 pz0_10 pz0_11 pz0_12 pz0_13 pz0_14 pz0_18 pz0_19 pz0_22 pz0_23 pz0_29)), (z 37, aI V 4 fz37)]) (rnS (rest := [.int x_25, .ref (z 39)]) ⟨hx, hb, hml, hown, hg⟩ (k_X10_cut_0 l V k3 x_26) mt_X10_cut q_8_140 ⟨Nat.le_of_ble_eq_true rfl, Nat.le_of_ble_eq_true rfl⟩ hK hP hD hS hA hE [] rfl rfl rfl hl.1 rfl (Nat.le_of_ble_eq_true rfl) dX10_write_60 ⟨Nat.le_of_ble_eq_true rfl, Nat.le_of_ble_eq_true rfl⟩) hP hD hS hA [] [0, 1, 2, 3] rfl rfl rfl (by decide) (fun r_27 w H locs hw hP hD hS => ?_)
      subst hw
      have hP : va_P V.1 vwCl [(z 38, aI V 4 fz38), (z 39, aJ V 160 fz39), (z 0, .inr (10, mo z 0 pz0_5 pz0_6 pz0_7 pz0_8 pz0_9 pz0_10 pz0_11 pz0_12 pz0_13 pz0_14 pz0_18 pz0_19 pz0_22 pz0_23 pz0_29)), (z 37, aI V 4 fz37)] H := hP
      have hD : va_D A [(z 38, aI V 4 fz38), (z 39, aJ V 160 fz39), (z 0, .inr (10, mo z 0 pz0_5 pz0_6 pz0_7 pz0_8 pz0_9 pz0_10 pz0_11 pz0_12 pz0_13 pz0_14 pz0_18 pz0_19 pz0_22 pz0_23 pz0_29)), (z 37, aI V 4 fz37)] := hD
      refine va_last hx hb hK hP hD hS 1 2 rfl rfl (iv_in bx_25 (by decide)) dX10_write_63 (fun H locs hP hD hS => ?_)
      obtain ⟨f_28, ef_28, hP, hD⟩ : ∃ f_28 : Nat → Int64, f_28 = (vp_updL fz39 (x_25 : Int32).toNatClampNeg r_27) ∧ va_P V.1 vwCl [(z 38, aI V 4 fz38), (z 39, aJ V 160 f_28), (z 0, .inr (10, mo z 0 pz0_5 pz0_6 pz0_7 pz0_8 pz0_9 pz0_10 pz0_11 pz0_12 pz0_13 pz0_14 pz0_18 pz0_19 pz0_22 pz0_23 pz0_29)), (z 37, aI V 4 fz37)] H ∧ va_D A [(z 38, aI V 4 fz38), (z 39, aJ V 160 f_28), (z 0, .inr (10, mo z 0 pz0_5 pz0_6 pz0_7 pz0_8 pz0_9 pz0_10 pz0_11 pz0_12 pz0_13 pz0_14 pz0_18 pz0_19 pz0_22 pz0_23 pz0_29)), (z 37, aI V 4 fz37)] := ⟨_, rfl, hP, hD⟩
      refine lv_aload_n hx hb dX10_write_64 rfl (lv_at hl 1 rfl) ?_
      refine va_get (ci := 10) (v := .ref (z 39)) (C := RX10) (T := TX10) (N := 40) hx hb hg inX10 hown hK hP 2 rfl rfl 39 (by decide) (hg _ q_6_23) (fun _ h9 => h9) rfl dX10_write_65 ?_
      refine lv_bipush (v := 40) hx hb dX10_write_68 (by decide) ?_
      refine lv_iload_n hx hb dX10_write_70 rfl (lv_at hl 2 rfl) ?_
      refine lv_imul hx hb dX10_write_71 ?_
      refine tpi (y := x_24) ex_24.symm ?_
      refine lv_iload_n hx hb dX10_write_72 rfl (lv_at hl 3 rfl) ?_
      refine lv_iadd hx hb dX10_write_73 ?_
      refine tpi (y := x_25) ex_25.symm ?_
      refine va_lald hx hb hK hP 1 2 rfl rfl (iv_in bx_25 (by decide)) dX10_write_74 ?_
      refine tpl (y := r_27) (show f_28 (x_25 : Int32).toNatClampNeg = r_27 from by rw [ef_28]; exact updL_at) ?_
      have hP := subP (ws' := [(z 0, .inr (10, mo z 0 pz0_5 pz0_6 pz0_7 pz0_8 pz0_9 pz0_10 pz0_11 pz0_12 pz0_13 pz0_14 pz0_18 pz0_19 pz0_22 pz0_23 pz0_29)), (z 37, aI V 4 fz37), (z 38, aI V 4 fz38), (z 39, aJ V 160 f_28)]) hP [2, 3, 0, 1] rfl
      have hD := hD.sub (ws' := [(z 0, .inr (10, mo z 0 pz0_5 pz0_6 pz0_7 pz0_8 pz0_9 pz0_10 pz0_11 pz0_12 pz0_13 pz0_14 pz0_18 pz0_19 pz0_22 pz0_23 pz0_29)), (z 37, aI V 4 fz37), (z 38, aI V 4 fz38), (z 39, aJ V 160 f_28)]) [2, 3, 0, 1] rfl rfl
      exact fiL hx hb hr hlk hK hP hD hS dX10_write_75 (Nat.le_of_ble_eq_true rfl) (Nat.le_of_ble_eq_true rfl) (⟨0, f_28, rfl⟩)
    · have b_29 : iv 0 0 r_10 := iv_q c_14 (iv_c (0 : Int32) (a := 0) (b := 0) (by decide))
      refine lv_ldc2 (v := (-7)) hx hb hown (hg _ q_8_139) dX10_write_39 ?_
      have hP := subP (ws' := [(z 0, .inr (10, mo z 0 pz0_5 pz0_6 pz0_7 pz0_8 pz0_9 pz0_10 pz0_11 pz0_12 pz0_13 pz0_14 pz0_18 pz0_19 pz0_22 pz0_23 pz0_29)), (z 37, aI V 4 fz37), (z 38, aI V 4 fz38), (z 39, aJ V 160 fz39)]) hP [2, 3, 0, 1] rfl
      have hD := hD.sub (ws' := [(z 0, .inr (10, mo z 0 pz0_5 pz0_6 pz0_7 pz0_8 pz0_9 pz0_10 pz0_11 pz0_12 pz0_13 pz0_14 pz0_18 pz0_19 pz0_22 pz0_23 pz0_29)), (z 37, aI V 4 fz37), (z 38, aI V 4 fz38), (z 39, aJ V 160 fz39)]) [2, 3, 0, 1] rfl rfl
      exact fiL hx hb hr hlk hK hP hD hS dX10_write_42 (Nat.le_of_ble_eq_true rfl) (Nat.le_of_ble_eq_true rfl) (⟨0, fz39, rfl⟩)
  · have b_30 : iv (-6) (-1) r_1 := iv_n1 c_3 br_1 (iv_c (0 : Int32) (a := 0) (b := 0) (by decide)) (by decide)
    refine lv_iload hx hb dX10_write_17 (lv_at hl 0 rfl) ?_
    refine lv_i2l hx hb dX10_write_19 rfl ?_
    refine lv_topl (fun j_31 ej_31 => ?_)
    have bj_31 : ivL (-6) (-1) j_31 := by rw [ej_31]; exact ivL_of b_30
    have hP := subP (ws' := [(z 0, .inr (10, mo z 0 pz0_5 pz0_6 pz0_7 pz0_8 pz0_9 pz0_10 pz0_11 pz0_12 pz0_13 pz0_14 pz0_18 pz0_19 pz0_22 pz0_23 pz0_29)), (z 37, aI V 4 fz37), (z 38, aI V 4 fz38), (z 39, aJ V 160 fz39)]) hP [2, 3, 0, 1] rfl
    have hD := hD.sub (ws' := [(z 0, .inr (10, mo z 0 pz0_5 pz0_6 pz0_7 pz0_8 pz0_9 pz0_10 pz0_11 pz0_12 pz0_13 pz0_14 pz0_18 pz0_19 pz0_22 pz0_23 pz0_29)), (z 37, aI V 4 fz37), (z 38, aI V 4 fz38), (z 39, aJ V 160 fz39)]) [2, 3, 0, 1] rfl rfl
    exact fiL hx hb hr hlk hK hP hD hS dX10_write_20 (Nat.le_of_ble_eq_true rfl) (Nat.le_of_ble_eq_true rfl) (⟨0, fz39, rfl⟩)
theorem dX10_lists_0 : decode cX10_lists 0 = .ok (.aload_n 0, 1) := by decide +kernel
theorem dX10_lists_1 : decode cX10_lists 1 = .ok (.iconst 0, 1) := by decide +kernel
theorem dX10_lists_2 : decode cX10_lists 2 = .ok (.putfield 1, 3) := by decide +kernel
theorem dX10_lists_5 : decode cX10_lists 5 = .ok (.iload_n 1, 1) := by decide +kernel
theorem dX10_lists_6 : decode cX10_lists 6 = .ok (.i2l, 1) := by decide +kernel
theorem dX10_lists_7 : decode cX10_lists 7 = .ok (.lconst 0, 1) := by decide +kernel
theorem dX10_lists_8 : decode cX10_lists 8 = .ok (.ldc2_w 315, 3) := by decide +kernel
theorem dX10_lists_11 : decode cX10_lists 11 = .ok (.invokestatic 159, 3) := by decide +kernel
theorem dX10_lists_14 : decode cX10_lists 14 = .ok (.ifCond .eq 12, 3) := by decide +kernel
theorem dX10_lists_26 : decode cX10_lists 26 = .ok (.bipush (-2), 2) := by decide +kernel
theorem dX10_lists_28 : decode cX10_lists 28 = .ok (.ireturn, 1) := by decide +kernel
theorem dX10_lists_17 : decode cX10_lists 17 = .ok (.aload_n 0, 1) := by decide +kernel
theorem dX10_lists_18 : decode cX10_lists 18 = .ok (.iload_n 2, 1) := by decide +kernel
theorem dX10_lists_19 : decode cX10_lists 19 = .ok (.i2l, 1) := by decide +kernel
theorem dX10_lists_20 : decode cX10_lists 20 = .ok (.invokevirtual 262, 3) := by decide +kernel
theorem dX10_lists_23 : decode cX10_lists 23 = .ok (.ifCond .ne 6, 3) := by decide +kernel
theorem dX10_lists_29 : decode cX10_lists 29 = .ok (.aload_n 0, 1) := by decide +kernel
theorem dX10_lists_30 : decode cX10_lists 30 = .ok (.iload_n 1, 1) := by decide +kernel
theorem dX10_lists_31 : decode cX10_lists 31 = .ok (.invokevirtual 317, 3) := by decide +kernel
theorem dX10_lists_34 : decode cX10_lists 34 = .ok (.istore_n 3, 1) := by decide +kernel
theorem dX10_lists_35 : decode cX10_lists 35 = .ok (.iload_n 3, 1) := by decide +kernel
theorem dX10_lists_36 : decode cX10_lists 36 = .ok (.ifCond .eq 5, 3) := by decide +kernel
theorem dX10_lists_41 : decode cX10_lists 41 = .ok (.aload_n 0, 1) := by decide +kernel
theorem dX10_lists_42 : decode cX10_lists 42 = .ok (.invokevirtual 269, 3) := by decide +kernel
theorem dX10_lists_45 : decode cX10_lists 45 = .ok (.istore 4, 2) := by decide +kernel
theorem dX10_lists_47 : decode cX10_lists 47 = .ok (.iconst 0, 1) := by decide +kernel
theorem dX10_lists_48 : decode cX10_lists 48 = .ok (.istore 5, 2) := by decide +kernel
theorem dX10_lists_50 : decode cX10_lists 50 = .ok (.iload 5, 2) := by decide +kernel
theorem dX10_lists_52 : decode cX10_lists 52 = .ok (.aload_n 0, 1) := by decide +kernel
theorem dX10_lists_53 : decode cX10_lists 53 = .ok (.getfield 87, 3) := by decide +kernel
theorem dX10_lists_56 : decode cX10_lists 56 = .ok (.iload_n 1, 1) := by decide +kernel
theorem dX10_lists_57 : decode cX10_lists 57 = .ok (.iaload, 1) := by decide +kernel
theorem dX10_lists_58 : decode cX10_lists 58 = .ok (.if_icmp .ge 44, 3) := by decide +kernel
theorem dX10_lists_102 : decode cX10_lists 102 = .ok (.aload_n 0, 1) := by decide +kernel
theorem dX10_lists_103 : decode cX10_lists 103 = .ok (.getfield 87, 3) := by decide +kernel
theorem dX10_lists_106 : decode cX10_lists 106 = .ok (.iload_n 1, 1) := by decide +kernel
theorem dX10_lists_107 : decode cX10_lists 107 = .ok (.iaload, 1) := by decide +kernel
theorem dX10_lists_108 : decode cX10_lists 108 = .ok (.ireturn, 1) := by decide +kernel
theorem dX10_lists_61 : decode cX10_lists 61 = .ok (.aload_n 0, 1) := by decide +kernel
theorem dX10_lists_62 : decode cX10_lists 62 = .ok (.iload 4, 2) := by decide +kernel
theorem dX10_lists_64 : decode cX10_lists 64 = .ok (.iconst 0, 1) := by decide +kernel
theorem dX10_lists_65 : decode cX10_lists 65 = .ok (.aload_n 0, 1) := by decide +kernel
theorem dX10_lists_66 : decode cX10_lists 66 = .ok (.getfield 13, 3) := by decide +kernel
theorem dX10_lists_69 : decode cX10_lists 69 = .ok (.bipush 51, 2) := by decide +kernel
theorem dX10_lists_71 : decode cX10_lists 71 = .ok (.iaload, 1) := by decide +kernel
theorem dX10_lists_72 : decode cX10_lists 72 = .ok (.invokevirtual 272, 3) := by decide +kernel
theorem dX10_lists_75 : decode cX10_lists 75 = .ok (.istore 4, 2) := by decide +kernel
theorem dX10_lists_77 : decode cX10_lists 77 = .ok (.aload_n 0, 1) := by decide +kernel
theorem dX10_lists_78 : decode cX10_lists 78 = .ok (.getfield 90, 3) := by decide +kernel
theorem dX10_lists_81 : decode cX10_lists 81 = .ok (.bipush 40, 2) := by decide +kernel
theorem dX10_lists_83 : decode cX10_lists 83 = .ok (.iload_n 1, 1) := by decide +kernel
theorem dX10_lists_84 : decode cX10_lists 84 = .ok (.imul, 1) := by decide +kernel
theorem dX10_lists_85 : decode cX10_lists 85 = .ok (.iload 5, 2) := by decide +kernel
theorem dX10_lists_87 : decode cX10_lists 87 = .ok (.iadd, 1) := by decide +kernel
theorem dX10_lists_88 : decode cX10_lists 88 = .ok (.iload 4, 2) := by decide +kernel
theorem dX10_lists_90 : decode cX10_lists 90 = .ok (.iload_n 2, 1) := by decide +kernel
theorem dX10_lists_91 : decode cX10_lists 91 = .ok (.invokestatic 231, 3) := by decide +kernel
theorem dX10_lists_94 : decode cX10_lists 94 = .ok (.i2l, 1) := by decide +kernel
theorem dX10_lists_95 : decode cX10_lists 95 = .ok (.lastore, 1) := by decide +kernel
theorem dX10_lists_96 : decode cX10_lists 96 = .ok (.iinc 5 1, 3) := by decide +kernel
theorem dX10_lists_99 : decode cX10_lists 99 = .ok (.goto (-49), 3) := by decide +kernel
theorem dX10_lists_39 : decode cX10_lists 39 = .ok (.iload_n 3, 1) := by decide +kernel
theorem dX10_lists_40 : decode cX10_lists 40 = .ok (.ireturn, 1) := by decide +kernel
set_option maxHeartbeats 4000000 in
set_option maxRecDepth 100000 in
theorem k_X10_lists_0 (l : Launch) (V : GV) (z : Nat → Nat) (a1 : Int32) (a2 : Int32) (pz0_0 : Int32) (pz0_5 : Int32) (pz0_6 : Int32) (pz0_7 : Int32) (pz0_8 : Int32) (pz0_9 : Int32) (pz0_10 : Int32) (pz0_11 : Int32) (pz0_12 : Int32) (pz0_13 : Int32) (pz0_14 : Int32) (pz0_18 : Int32) (pz0_19 : Int32) (pz0_22 : Int32) (pz0_23 : Int32) (pz0_29 : Int32) (fz1 : Nat → Int32) (fz15 : Nat → Int32) (fz16 : Nat → Int32) (fz37 : Nat → Int32) (fz38 : Nat → Int32) (fz39 : Nat → Int64) (bpz0_5 : iv 0 900 pz0_5) (bpz0_6 : iv 0 900 pz0_6) (bpz0_7 : iv 0 900 pz0_7) (bpz0_8 : iv 0 900 pz0_8) (bpz0_10 : iv 0 999 pz0_10) (bpz0_11 : iv 0 4 pz0_11) (bpz0_12 : iv 0 900 pz0_12) (bpz0_13 : iv 0 4 pz0_13) (bpz0_14 : iv (-1) 900 pz0_14) (bpz0_18 : iv 0 2 pz0_18) (bpz0_22 : iv 0 9999 pz0_22) (bpz0_29 : iv 0 10000 pz0_29) (tfz1 : ivT tA fz1) (tfz16 : ivT tW fz16) (tfz37 : ∀ j, iv (-1) 3 (fz37 j)) (tfz38 : ∀ j, iv 0 40 (fz38 j)) (hf0 : RW fz1) : Ct l V yX10_lists (.code yX10_lists cX10_lists 6 (some .int)) 5 [.ref (z 0), .int a1, .int a2] [(z 0, .inr (10, mo z pz0_0 pz0_5 pz0_6 pz0_7 pz0_8 pz0_9 pz0_10 pz0_11 pz0_12 pz0_13 pz0_14 pz0_18 pz0_19 pz0_22 pz0_23 pz0_29)), (z 1, aI V 3075 fz1), (z 15, aI V 900 fz15), (z 16, aI V 6 fz16), (z 37, aI V 4 fz37), (z 38, aI V 4 fz38), (z 39, aJ V 160 fz39)] 0 0 (QI V (fun (r : Int32) (w : va_W) => ∃ (v0 : Int32) (g1 : Nat → Int32) (g2 : Nat → Int32) (g3 : Nat → Int64), (ivT tW g2) ∧ iv (-6) 40 r ∧ (RW fz1) ∧ w = [(z 0, .inr (10, mo z v0 pz0_5 pz0_6 pz0_7 pz0_8 pz0_9 pz0_10 pz0_11 pz0_12 pz0_13 pz0_14 pz0_18 pz0_19 pz0_22 pz0_23 pz0_29)), (z 1, aI V 3075 fz1), (z 15, aI V 900 g1), (z 16, aI V 6 g2), (z 37, aI V 4 fz37), (z 38, aI V 4 fz38), (z 39, aJ V 160 g3)])) := by
  refine Ct.of (by decide) (Nat.le_of_ble_eq_true rfl) (fun p e s m below meth c A ls hx hb hr hml hown hlk hnm hg hP hK hD hE hA hS hl => ?_)
  have hl : lv_has ls 6 [(0, .ref (z 0)), (1, .int a1), (2, .int a2)] := hl
  refine lv_aload_n hx hb dX10_lists_0 rfl (lv_at hl 0 rfl) ?_
  refine lv_iconst (v := 0) hx hb dX10_lists_1 (by decide) ?_
  refine va_put (ci := 10) (v := .int 0) (ty := .int) (C := RX10) (T := TX10) (N := 40) hx hb hg inX10 tyX10 tyX10_ok nmX10 hown hK hP hD hS 0 rfl rfl 0 (by decide) (hg _ q_5_224) (fun _ h9 => h9) rfl (by decide +kernel) rfl rfl (Nat.le_of_ble_eq_true rfl) dX10_lists_2 (fun H locs hP hD hS => ?_)
  have hP : va_P V.1 vwCl [(z 0, .inr (10, mo z 0 pz0_5 pz0_6 pz0_7 pz0_8 pz0_9 pz0_10 pz0_11 pz0_12 pz0_13 pz0_14 pz0_18 pz0_19 pz0_22 pz0_23 pz0_29)), (z 1, aI V 3075 fz1), (z 15, aI V 900 fz15), (z 16, aI V 6 fz16), (z 37, aI V 4 fz37), (z 38, aI V 4 fz38), (z 39, aJ V 160 fz39)] H := hP
  have hD : va_D A [(z 0, .inr (10, mo z 0 pz0_5 pz0_6 pz0_7 pz0_8 pz0_9 pz0_10 pz0_11 pz0_12 pz0_13 pz0_14 pz0_18 pz0_19 pz0_22 pz0_23 pz0_29)), (z 1, aI V 3075 fz1), (z 15, aI V 900 fz15), (z 16, aI V 6 fz16), (z 37, aI V 4 fz37), (z 38, aI V 4 fz38), (z 39, aJ V 160 fz39)] := hD
  refine lv_iload_n hx hb dX10_lists_5 rfl (lv_at hl 1 rfl) ?_
  refine lv_i2l hx hb dX10_lists_6 rfl ?_
  refine lv_topl (fun j_1 ej_1 => ?_)
  refine lv_lconst (v := 0) hx hb dX10_lists_7 (by decide) ?_
  refine lv_ldc2 (v := 3) hx hb hown (hg _ q_7_107) dX10_lists_8 ?_
  refine jnI (wr := [(z 0, .inr (10, mo z 0 pz0_5 pz0_6 pz0_7 pz0_8 pz0_9 pz0_10 pz0_11 pz0_12 pz0_13 pz0_14 pz0_18 pz0_19 pz0_22 pz0_23 pz0_29)), (z 1, aI V 3075 fz1), (z 15, aI V 900 fz15), (z 16, aI V 6 fz16), (z 37, aI V 4 fz37), (z 38, aI V 4 fz38), (z 39, aJ V 160 fz39)]) (rnS (rest := []) ⟨hx, hb, hml, hown, hg⟩ (k_X10_within_0 l V j_1 0 3) mt_X10_within q_6_114 ⟨Nat.le_of_ble_eq_true rfl, Nat.le_of_ble_eq_true rfl⟩ hK hP hD hS hA hE [] rfl rfl rfl hl.1 rfl (Nat.le_of_ble_eq_true rfl) dX10_lists_11 ⟨Nat.le_of_ble_eq_true rfl, Nat.le_of_ble_eq_true rfl⟩) hP hD hS hA [] [0, 1, 2, 3, 4, 5, 6] rfl rfl rfl (by decide) (fun r_2 w H locs hw hP hD hS => ?_)
  obtain ⟨br_2, g_3, g_4, g_5, rfl⟩ := hw
  have hP : va_P V.1 vwCl [(z 0, .inr (10, mo z 0 pz0_5 pz0_6 pz0_7 pz0_8 pz0_9 pz0_10 pz0_11 pz0_12 pz0_13 pz0_14 pz0_18 pz0_19 pz0_22 pz0_23 pz0_29)), (z 1, aI V 3075 fz1), (z 15, aI V 900 fz15), (z 16, aI V 6 fz16), (z 37, aI V 4 fz37), (z 38, aI V 4 fz38), (z 39, aJ V 160 fz39)] H := hP
  have hD : va_D A [(z 0, .inr (10, mo z 0 pz0_5 pz0_6 pz0_7 pz0_8 pz0_9 pz0_10 pz0_11 pz0_12 pz0_13 pz0_14 pz0_18 pz0_19 pz0_22 pz0_23 pz0_29)), (z 1, aI V 3075 fz1), (z 15, aI V 900 fz15), (z 16, aI V 6 fz16), (z 37, aI V 4 fz37), (z 38, aI V 4 fz38), (z 39, aJ V 160 fz39)] := hD
  refine lv_if_eq (tgt := 26) hx hb dX10_lists_14 (by decide) (fun c_6 => ?_) (fun c_6 => ?_)
  · have b_7 : iv 0 0 r_2 := iv_q c_6 (iv_c (0 : Int32) (a := 0) (b := 0) (by decide))
    refine lv_bipush (v := (-2)) hx hb dX10_lists_26 (by decide) ?_
    exact fiI hx hb hr hlk hK hP hD hS dX10_lists_28 (Nat.le_of_ble_eq_true rfl) (Nat.le_of_ble_eq_true rfl) (⟨0, fz15, fz16, fz39, tfz16, (iv_c ((-2) : Int32) (by decide)), hf0, rfl⟩)
  · have b_8 : iv 1 1 r_2 := iv_n0 c_6 br_2 (iv_c (0 : Int32) (a := 0) (b := 0) (by decide)) (by decide)
    have c_9 : (0 : Int64) ≤ j_1 := (g_4 (iv_eqp b_8 (iv_c (1 : Int32) (by decide))))
    have b_10 : ivL 0 9223372036854775807 j_1 := ivL_e2 c_9 (ivL_c (0 : Int64) (a := 0) (b := 0) (by decide)) (ivL_top j_1) (by decide)
    have b_11 : iv 0 2147483647 a1 := iv_cap (ivL_i ej_1 b_10) (iv_top a1) (by decide)
    have c_12 : j_1 ≤ 3 := (g_5 (iv_eqp b_8 (iv_c (1 : Int32) (by decide))))
    have b_13 : ivL 0 3 j_1 := ivL_e1 c_12 b_10 (ivL_c (3 : Int64) (a := 3) (b := 3) (by decide)) (by decide)
    have b_14 : iv 0 3 a1 := iv_cap (ivL_i ej_1 b_13) b_11 (by decide)
    refine lv_aload_n hx hb dX10_lists_17 rfl (lv_at hl 0 rfl) ?_
    refine lv_iload_n hx hb dX10_lists_18 rfl (lv_at hl 2 rfl) ?_
    refine lv_i2l hx hb dX10_lists_19 rfl ?_
    refine lv_topl (fun j_15 ej_15 => ?_)
    refine jnI (wr := [(z 15, aI V 900 fz15), (z 16, aI V 6 fz16), (z 37, aI V 4 fz37), (z 38, aI V 4 fz38), (z 39, aJ V 160 fz39)]) (rnV (rest := []) ⟨hx, hb, hml, hown, hg⟩ (k_X10_isHill_0 l V z j_15 0 pz0_5 pz0_6 pz0_7 pz0_8 pz0_9 pz0_10 pz0_11 pz0_12 pz0_13 pz0_14 pz0_18 pz0_19 pz0_22 pz0_23 pz0_29 fz1 bpz0_5 bpz0_6 bpz0_7 bpz0_8 bpz0_10 bpz0_11 bpz0_12 bpz0_13 bpz0_14 bpz0_18 bpz0_22 bpz0_29 tfz1) mt_X10_isHill q_6_235 ⟨Nat.le_of_ble_eq_true rfl, Nat.le_of_ble_eq_true rfl⟩ hK hP hD hS hA hE [0, 1] rfl rfl 0 rfl rfl rfl rfl hl.1 rfl (Nat.le_of_ble_eq_true rfl) dX10_lists_20 ⟨Nat.le_of_ble_eq_true rfl, Nat.le_of_ble_eq_true rfl⟩) hP hD hS hA [0, 1] [2, 3, 4, 5, 6] rfl rfl rfl (by decide) (fun r_16 w H locs hw hP hD hS => ?_)
    obtain ⟨br_16, g_17, rfl⟩ := hw
    have hP : va_P V.1 vwCl [(z 15, aI V 900 fz15), (z 16, aI V 6 fz16), (z 37, aI V 4 fz37), (z 38, aI V 4 fz38), (z 39, aJ V 160 fz39), (z 0, .inr (10, mo z 0 pz0_5 pz0_6 pz0_7 pz0_8 pz0_9 pz0_10 pz0_11 pz0_12 pz0_13 pz0_14 pz0_18 pz0_19 pz0_22 pz0_23 pz0_29)), (z 1, aI V 3075 fz1)] H := hP
    have hD : va_D A [(z 15, aI V 900 fz15), (z 16, aI V 6 fz16), (z 37, aI V 4 fz37), (z 38, aI V 4 fz38), (z 39, aJ V 160 fz39), (z 0, .inr (10, mo z 0 pz0_5 pz0_6 pz0_7 pz0_8 pz0_9 pz0_10 pz0_11 pz0_12 pz0_13 pz0_14 pz0_18 pz0_19 pz0_22 pz0_23 pz0_29)), (z 1, aI V 3075 fz1)] := hD
    refine lv_if_ne (tgt := 29) hx hb dX10_lists_23 (by decide) (fun c_18 => ?_) (fun c_18 => ?_)
    · have b_19 : iv 1 1 r_16 := iv_n0 c_18 br_16 (iv_c (0 : Int32) (a := 0) (b := 0) (by decide)) (by decide)
      have b_20 : ivL 0 3 j_15 := ivL_cap (g_17 (iv_eqp b_19 (iv_c (1 : Int32) (by decide)))) (ivL_top j_15) (by decide)
      have b_21 : iv 0 3 a2 := iv_cap (ivL_i ej_15 b_20) (iv_top a2) (by decide)
      refine lv_aload_n hx hb dX10_lists_29 rfl (lv_at hl 0 rfl) ?_
      refine lv_iload_n hx hb dX10_lists_30 rfl (lv_at hl 1 rfl) ?_
      refine jnI (wr := [(z 15, aI V 900 fz15), (z 16, aI V 6 fz16), (z 38, aI V 4 fz38), (z 39, aJ V 160 fz39), (z 1, aI V 3075 fz1)]) (rnV (rest := []) ⟨hx, hb, hml, hown, hg⟩ (k_X10_noTray_0 l V z a1 0 pz0_5 pz0_6 pz0_7 pz0_8 pz0_9 pz0_10 pz0_11 pz0_12 pz0_13 pz0_14 pz0_18 pz0_19 pz0_22 pz0_23 pz0_29 fz37 bpz0_5 bpz0_6 bpz0_7 bpz0_8 bpz0_10 bpz0_11 bpz0_12 bpz0_13 bpz0_14 bpz0_18 bpz0_22 bpz0_29 tfz37) mt_X10_noTray q_7_108 ⟨Nat.le_of_ble_eq_true rfl, Nat.le_of_ble_eq_true rfl⟩ hK hP hD hS hA hE [5, 2] rfl rfl 5 rfl rfl rfl rfl hl.1 rfl (Nat.le_of_ble_eq_true rfl) dX10_lists_31 ⟨Nat.le_of_ble_eq_true rfl, Nat.le_of_ble_eq_true rfl⟩) hP hD hS hA [5, 2] [0, 1, 3, 4, 6] rfl rfl rfl (by decide) (fun r_22 w H locs hw hP hD hS => ?_)
      obtain ⟨br_22, g_23, rfl⟩ := hw
      have hP : va_P V.1 vwCl [(z 15, aI V 900 fz15), (z 16, aI V 6 fz16), (z 38, aI V 4 fz38), (z 39, aJ V 160 fz39), (z 1, aI V 3075 fz1), (z 0, .inr (10, mo z 0 pz0_5 pz0_6 pz0_7 pz0_8 pz0_9 pz0_10 pz0_11 pz0_12 pz0_13 pz0_14 pz0_18 pz0_19 pz0_22 pz0_23 pz0_29)), (z 37, aI V 4 fz37)] H := hP
      have hD : va_D A [(z 15, aI V 900 fz15), (z 16, aI V 6 fz16), (z 38, aI V 4 fz38), (z 39, aJ V 160 fz39), (z 1, aI V 3075 fz1), (z 0, .inr (10, mo z 0 pz0_5 pz0_6 pz0_7 pz0_8 pz0_9 pz0_10 pz0_11 pz0_12 pz0_13 pz0_14 pz0_18 pz0_19 pz0_22 pz0_23 pz0_29)), (z 37, aI V 4 fz37)] := hD
      refine lv_istore_n (lv' := [(3, .int r_22), (0, .ref (z 0)), (1, .int a1), (2, .int a2)]) hx hb dX10_lists_34 rfl hl (by decide) rfl (fun ls hl => ?_)
      refine lv_iload_n hx hb dX10_lists_35 rfl (lv_at hl 0 rfl) ?_
      refine lv_if_eq (tgt := 41) hx hb dX10_lists_36 (by decide) (fun c_24 => ?_) (fun c_24 => ?_)
      · have b_25 : iv 0 0 r_22 := iv_q c_24 (iv_c (0 : Int32) (a := 0) (b := 0) (by decide))
        refine lv_aload_n hx hb dX10_lists_41 rfl (lv_at hl 1 rfl) ?_
        refine jnI (wr := [(z 15, aI V 900 fz15), (z 16, aI V 6 fz16), (z 38, aI V 4 fz38), (z 39, aJ V 160 fz39), (z 37, aI V 4 fz37)]) (rnV (rest := []) ⟨hx, hb, hml, hown, hg⟩ (k_X10_standNow_0 l V z 0 pz0_5 pz0_6 pz0_7 pz0_8 pz0_9 pz0_10 pz0_11 pz0_12 pz0_13 pz0_14 pz0_18 pz0_19 pz0_22 pz0_23 pz0_29 fz1 bpz0_5 bpz0_6 bpz0_7 bpz0_8 bpz0_10 bpz0_11 bpz0_12 bpz0_13 bpz0_14 bpz0_18 bpz0_22 bpz0_29 tfz1) mt_X10_standNow q_7_11 ⟨Nat.le_of_ble_eq_true rfl, Nat.le_of_ble_eq_true rfl⟩ hK hP hD hS hA hE [5, 4] rfl rfl 5 rfl rfl rfl rfl hl.1 rfl (Nat.le_of_ble_eq_true rfl) dX10_lists_42 ⟨Nat.le_of_ble_eq_true rfl, Nat.le_of_ble_eq_true rfl⟩) hP hD hS hA [5, 4] [0, 1, 2, 3, 6] rfl rfl rfl (by decide) (fun r_26 w H locs hw hP hD hS => ?_)
        obtain ⟨br_26, er_26, rfl⟩ := hw
        have hP : va_P V.1 vwCl [(z 15, aI V 900 fz15), (z 16, aI V 6 fz16), (z 38, aI V 4 fz38), (z 39, aJ V 160 fz39), (z 37, aI V 4 fz37), (z 0, .inr (10, mo z 0 pz0_5 pz0_6 pz0_7 pz0_8 pz0_9 pz0_10 pz0_11 pz0_12 pz0_13 pz0_14 pz0_18 pz0_19 pz0_22 pz0_23 pz0_29)), (z 1, aI V 3075 fz1)] H := hP
        have hD : va_D A [(z 15, aI V 900 fz15), (z 16, aI V 6 fz16), (z 38, aI V 4 fz38), (z 39, aJ V 160 fz39), (z 37, aI V 4 fz37), (z 0, .inr (10, mo z 0 pz0_5 pz0_6 pz0_7 pz0_8 pz0_9 pz0_10 pz0_11 pz0_12 pz0_13 pz0_14 pz0_18 pz0_19 pz0_22 pz0_23 pz0_29)), (z 1, aI V 3075 fz1)] := hD
        refine lv_istore (lv' := [(4, .int r_26), (3, .int r_22), (0, .ref (z 0)), (1, .int a1), (2, .int a2)]) hx hb dX10_lists_45 hl (by decide) rfl (fun ls hl => ?_)
        refine lv_iconst (v := 0) hx hb dX10_lists_47 (by decide) ?_
        refine lv_istore (lv' := [(5, .int 0), (4, .int r_26), (3, .int r_22), (0, .ref (z 0)), (1, .int a1), (2, .int a2)]) hx hb dX10_lists_48 hl (by decide) rfl (fun ls hl => ?_)
        refine loopF (X := fun (n_32 : Nat) (H : Heap) (locs : List Loc) (ls : Array Slot) => ∃ (u_27 : Int32) (u_28 : Int32) (f_29 : Nat → Int32) (f_30 : Nat → Int32) (f_31 : Nat → Int64), (iv 0 2147483647 u_27) ∧ (iv 0 9999 u_28) ∧ (ivT tW f_30) ∧ (RW fz1) ∧ n_32 = (2147483647 - (u_27 : Int32).toInt).toNat ∧ va_P V.1 vwCl [(z 15, aI V 900 f_29), (z 16, aI V 6 f_30), (z 38, aI V 4 fz38), (z 39, aJ V 160 f_31), (z 37, aI V 4 fz37), (z 0, .inr (10, mo z 0 pz0_5 pz0_6 pz0_7 pz0_8 pz0_9 pz0_10 pz0_11 pz0_12 pz0_13 pz0_14 pz0_18 pz0_19 pz0_22 pz0_23 pz0_29)), (z 1, aI V 3075 fz1)] H ∧ va_D A [(z 15, aI V 900 f_29), (z 16, aI V 6 f_30), (z 38, aI V 4 fz38), (z 39, aJ V 160 f_31), (z 37, aI V 4 fz37), (z 0, .inr (10, mo z 0 pz0_5 pz0_6 pz0_7 pz0_8 pz0_9 pz0_10 pz0_11 pz0_12 pz0_13 pz0_14 pz0_18 pz0_19 pz0_22 pz0_23 pz0_29)), (z 1, aI V 3075 fz1)] ∧ va_S A s.heap H locs ∧ lv_has ls 6 [(5, .int u_27), (4, .int u_28), (3, .int r_22), (0, .ref (z 0)), (1, .int a1), (2, .int a2)]) (g := fun ls => F0 m 50 ls []) (fun n_32 H locs ls hX ihn_32 => ?_) _ ⟨0, r_26, fz15, fz16, fz39, (iv_c (0 : Int32) (by decide)), br_26, tfz16, hf0, rfl, hP, hD, hS, lv_sub hl [0, 1, 2, 3, 4, 5] rfl⟩
        obtain ⟨u_27, u_28, f_29, f_30, f_31, bu_27, bu_28, tf_30, inn_32_0, en_32, hP, hD, hS, hl⟩ := hX
        refine lv_iload hx hb dX10_lists_50 (lv_at hl 0 rfl) ?_
        refine lv_aload_n hx hb dX10_lists_52 rfl (lv_at hl 3 rfl) ?_
        refine va_get (ci := 10) (v := .ref (z 38)) (C := RX10) (T := TX10) (N := 40) hx hb hg inX10 hown hK hP 5 rfl rfl 38 (by decide) (hg _ q_6_22) (fun _ h9 => h9) rfl dX10_lists_53 ?_
        refine lv_iload_n hx hb dX10_lists_56 rfl (lv_at hl 4 rfl) ?_
        refine va_iald hx hb hK hP 2 0 rfl rfl (iv_in b_14 (by decide)) dX10_lists_57 ?_
        refine lv_topi (fun x_33 ex_33 => ?_)
        have bx_33 : iv 0 40 x_33 := by rw [ex_33]; exact tfz38 _
        refine lv_icmp_ge (tgt := 102) hx hb dX10_lists_58 (by decide) (fun c_34 => ?_) (fun c_34 => ?_)
        · refine lv_aload_n hx hb dX10_lists_102 rfl (lv_at hl 3 rfl) ?_
          refine va_get (ci := 10) (v := .ref (z 38)) (C := RX10) (T := TX10) (N := 40) hx hb hg inX10 hown hK hP 5 rfl rfl 38 (by decide) (hg _ q_6_22) (fun _ h9 => h9) rfl dX10_lists_103 ?_
          refine lv_iload_n hx hb dX10_lists_106 rfl (lv_at hl 4 rfl) ?_
          refine va_iald hx hb hK hP 2 0 rfl rfl (iv_in b_14 (by decide)) dX10_lists_107 ?_
          refine tpi (y := x_33) ex_33.symm ?_
          have hP := subP (ws' := [(z 0, .inr (10, mo z 0 pz0_5 pz0_6 pz0_7 pz0_8 pz0_9 pz0_10 pz0_11 pz0_12 pz0_13 pz0_14 pz0_18 pz0_19 pz0_22 pz0_23 pz0_29)), (z 1, aI V 3075 fz1), (z 15, aI V 900 f_29), (z 16, aI V 6 f_30), (z 37, aI V 4 fz37), (z 38, aI V 4 fz38), (z 39, aJ V 160 f_31)]) hP [5, 6, 0, 1, 4, 2, 3] rfl
          have hD := hD.sub (ws' := [(z 0, .inr (10, mo z 0 pz0_5 pz0_6 pz0_7 pz0_8 pz0_9 pz0_10 pz0_11 pz0_12 pz0_13 pz0_14 pz0_18 pz0_19 pz0_22 pz0_23 pz0_29)), (z 1, aI V 3075 fz1), (z 15, aI V 900 f_29), (z 16, aI V 6 f_30), (z 37, aI V 4 fz37), (z 38, aI V 4 fz38), (z 39, aJ V 160 f_31)]) [5, 6, 0, 1, 4, 2, 3] rfl rfl
          exact fiI hx hb hr hlk hK hP hD hS dX10_lists_108 (Nat.le_of_ble_eq_true rfl) (Nat.le_of_ble_eq_true rfl) (⟨0, f_29, f_30, f_31, tf_30, (iv_w bx_33 (by decide)), inn_32_0, rfl⟩)
        · have b_35 : iv 0 39 u_27 := iv_l1 (Int32.not_le.mp c_34) bu_27 bx_33 (by decide)
          have b_36 : iv 1 40 x_33 := iv_l2 (Int32.not_le.mp c_34) bu_27 bx_33 (by decide)
          refine lv_aload_n hx hb dX10_lists_61 rfl (lv_at hl 3 rfl) ?_
          refine lv_iload hx hb dX10_lists_62 (lv_at hl 1 rfl) ?_
          refine lv_iconst (v := 0) hx hb dX10_lists_64 (by decide) ?_
          refine lv_aload_n hx hb dX10_lists_65 rfl (lv_at hl 3 rfl) ?_
          refine va_get (ci := 10) (v := .ref (z 1)) (C := RX10) (T := TX10) (N := 40) hx hb hg inX10 hown hK hP 5 rfl rfl 1 (by decide) (hg _ q_5_225) (fun _ h9 => h9) rfl dX10_lists_66 ?_
          refine lv_bipush (v := 51) hx hb dX10_lists_69 (by decide) ?_
          refine va_iald hx hb hK hP 6 0 rfl rfl (vin (by decide +kernel)) dX10_lists_71 ?_
          refine lv_topi (fun x_37 ex_37 => ?_)
          have bx_37 : iv 0 9 x_37 := by rw [ex_37]; exact rdT (a := 51) (n := 1) tfz1 (iv_c (51 : Int32) (a := 51) (b := 51) (by decide)) (by decide) (by decide +kernel)
          refine jnI (wr := [(z 38, aI V 4 fz38), (z 39, aJ V 160 f_31), (z 37, aI V 4 fz37)]) (rnV (rest := []) ⟨hx, hb, hml, hown, hg⟩ (k_X10_nightTo_0 l V z u_28 0 x_37 f_29 f_30 0 pz0_5 pz0_6 pz0_7 pz0_8 pz0_9 pz0_10 pz0_11 pz0_12 pz0_13 pz0_14 pz0_18 pz0_19 pz0_22 pz0_23 pz0_29 fz1 bu_28 tf_30 bpz0_5 bpz0_6 bpz0_7 bpz0_8 bpz0_10 bpz0_11 bpz0_12 bpz0_13 bpz0_14 bpz0_18 bpz0_22 bpz0_29 tfz1 inn_32_0) mt_X10_nightTo q_7_18 ⟨Nat.le_of_ble_eq_true rfl, Nat.le_of_ble_eq_true rfl⟩ hK hP hD hS hA hE [0, 1, 5, 6] rfl rfl 5 rfl rfl rfl rfl hl.1 rfl (Nat.le_of_ble_eq_true rfl) dX10_lists_72 ⟨Nat.le_of_ble_eq_true rfl, Nat.le_of_ble_eq_true rfl⟩) hP hD hS hA [0, 1, 5, 6] [2, 3, 4] rfl rfl rfl (by decide) (fun r_38 w H locs hw hP hD hS => ?_)
          obtain ⟨f_39, f_40, tf_40, br_38, g_41, rfl⟩ := hw
          have hP : va_P V.1 vwCl [(z 38, aI V 4 fz38), (z 39, aJ V 160 f_31), (z 37, aI V 4 fz37), (z 15, aI V 900 f_39), (z 16, aI V 6 f_40), (z 0, .inr (10, mo z 0 pz0_5 pz0_6 pz0_7 pz0_8 pz0_9 pz0_10 pz0_11 pz0_12 pz0_13 pz0_14 pz0_18 pz0_19 pz0_22 pz0_23 pz0_29)), (z 1, aI V 3075 fz1)] H := hP
          have hD : va_D A [(z 38, aI V 4 fz38), (z 39, aJ V 160 f_31), (z 37, aI V 4 fz37), (z 15, aI V 900 f_39), (z 16, aI V 6 f_40), (z 0, .inr (10, mo z 0 pz0_5 pz0_6 pz0_7 pz0_8 pz0_9 pz0_10 pz0_11 pz0_12 pz0_13 pz0_14 pz0_18 pz0_19 pz0_22 pz0_23 pz0_29)), (z 1, aI V 3075 fz1)] := hD
          refine lv_istore (lv' := [(4, .int r_38), (5, .int u_27), (3, .int r_22), (0, .ref (z 0)), (1, .int a1), (2, .int a2)]) hx hb dX10_lists_75 hl (by decide) rfl (fun ls hl => ?_)
          refine lv_aload_n hx hb dX10_lists_77 rfl (lv_at hl 3 rfl) ?_
          refine va_get (ci := 10) (v := .ref (z 39)) (C := RX10) (T := TX10) (N := 40) hx hb hg inX10 hown hK hP 5 rfl rfl 39 (by decide) (hg _ q_6_23) (fun _ h9 => h9) rfl dX10_lists_78 ?_
          refine lv_bipush (v := 40) hx hb dX10_lists_81 (by decide) ?_
          refine lv_iload_n hx hb dX10_lists_83 rfl (lv_at hl 4 rfl) ?_
          refine lv_imul hx hb dX10_lists_84 ?_
          refine lv_topi (fun x_42 ex_42 => ?_)
          have bx_42 : iv 0 120 x_42 := by rw [ex_42]; exact iv_cmul (iv_c (40 : Int32) (a := 40) (b := 40) (by decide)) b_14 (by decide)
          refine lv_iload hx hb dX10_lists_85 (lv_at hl 1 rfl) ?_
          refine lv_iadd hx hb dX10_lists_87 ?_
          refine lv_topi (fun x_43 ex_43 => ?_)
          have bx_43 : iv 0 159 x_43 := by rw [ex_43]; exact iv_add bx_42 b_35 (by decide)
          refine lv_iload hx hb dX10_lists_88 (lv_at hl 0 rfl) ?_
          refine lv_iload_n hx hb dX10_lists_90 rfl (lv_at hl 5 rfl) ?_
          refine jnI (wr := [(z 38, aI V 4 fz38), (z 39, aJ V 160 f_31), (z 37, aI V 4 fz37), (z 15, aI V 900 f_39), (z 16, aI V 6 f_40), (z 0, .inr (10, mo z 0 pz0_5 pz0_6 pz0_7 pz0_8 pz0_9 pz0_10 pz0_11 pz0_12 pz0_13 pz0_14 pz0_18 pz0_19 pz0_22 pz0_23 pz0_29)), (z 1, aI V 3075 fz1)]) (rnS (rest := [.int x_43, .ref (z 39)]) ⟨hx, hb, hml, hown, hg⟩ (k_X10_stackIn_0 l V r_38 a2 (iv_w br_38 (by decide)) b_21) mt_X10_stackIn q_7_26 ⟨Nat.le_of_ble_eq_true rfl, Nat.le_of_ble_eq_true rfl⟩ hK hP hD hS hA hE [] rfl rfl rfl hl.1 rfl (Nat.le_of_ble_eq_true rfl) dX10_lists_91 ⟨Nat.le_of_ble_eq_true rfl, Nat.le_of_ble_eq_true rfl⟩) hP hD hS hA [] [0, 1, 2, 3, 4, 5, 6] rfl rfl rfl (by decide) (fun r_44 w H locs hw hP hD hS => ?_)
          obtain ⟨br_44, er_44, rfl⟩ := hw
          have hP : va_P V.1 vwCl [(z 38, aI V 4 fz38), (z 39, aJ V 160 f_31), (z 37, aI V 4 fz37), (z 15, aI V 900 f_39), (z 16, aI V 6 f_40), (z 0, .inr (10, mo z 0 pz0_5 pz0_6 pz0_7 pz0_8 pz0_9 pz0_10 pz0_11 pz0_12 pz0_13 pz0_14 pz0_18 pz0_19 pz0_22 pz0_23 pz0_29)), (z 1, aI V 3075 fz1)] H := hP
          have hD : va_D A [(z 38, aI V 4 fz38), (z 39, aJ V 160 f_31), (z 37, aI V 4 fz37), (z 15, aI V 900 f_39), (z 16, aI V 6 f_40), (z 0, .inr (10, mo z 0 pz0_5 pz0_6 pz0_7 pz0_8 pz0_9 pz0_10 pz0_11 pz0_12 pz0_13 pz0_14 pz0_18 pz0_19 pz0_22 pz0_23 pz0_29)), (z 1, aI V 3075 fz1)] := hD
          refine lv_i2l hx hb dX10_lists_94 rfl ?_
          refine lv_topl (fun j_45 ej_45 => ?_)
          have bj_45 : ivL 0 4 j_45 := by rw [ej_45]; exact ivL_of br_44
          refine va_last hx hb hK hP hD hS 1 2 rfl rfl (iv_in bx_43 (by decide)) dX10_lists_95 (fun H locs hP hD hS => ?_)
          obtain ⟨f_46, ef_46, hP, hD⟩ : ∃ f_46 : Nat → Int64, f_46 = (vp_updL f_31 (x_43 : Int32).toNatClampNeg j_45) ∧ va_P V.1 vwCl [(z 38, aI V 4 fz38), (z 39, aJ V 160 f_46), (z 37, aI V 4 fz37), (z 15, aI V 900 f_39), (z 16, aI V 6 f_40), (z 0, .inr (10, mo z 0 pz0_5 pz0_6 pz0_7 pz0_8 pz0_9 pz0_10 pz0_11 pz0_12 pz0_13 pz0_14 pz0_18 pz0_19 pz0_22 pz0_23 pz0_29)), (z 1, aI V 3075 fz1)] H ∧ va_D A [(z 38, aI V 4 fz38), (z 39, aJ V 160 f_46), (z 37, aI V 4 fz37), (z 15, aI V 900 f_39), (z 16, aI V 6 f_40), (z 0, .inr (10, mo z 0 pz0_5 pz0_6 pz0_7 pz0_8 pz0_9 pz0_10 pz0_11 pz0_12 pz0_13 pz0_14 pz0_18 pz0_19 pz0_22 pz0_23 pz0_29)), (z 1, aI V 3075 fz1)] := ⟨_, rfl, hP, hD⟩
          obtain ⟨x_47, ex_47⟩ : ∃ z9 : Int32, z9 = u_27 + 1 := ⟨_, rfl⟩
          have bx_47 : iv 1 40 x_47 := by rw [ex_47]; exact iv_add b_35 (iv_c (1 : Int32) (a := 1) (b := 1) (by decide)) (by decide)
          refine lv_iinc (v := x_47) (lv' := [(5, .int x_47), (4, .int r_38), (3, .int r_22), (0, .ref (z 0)), (1, .int a1), (2, .int a2)]) hx hb dX10_lists_96 hl (k := 1) rfl (by rw [ex_47]; rfl) (by decide) rfl (fun ls hl => ?_)
          refine lv_goto (tgt := 50) hx hb dX10_lists_99 (by decide) ?_
          have hP := subP (ws' := [(z 15, aI V 900 f_39), (z 16, aI V 6 f_40), (z 38, aI V 4 fz38), (z 39, aJ V 160 f_46), (z 37, aI V 4 fz37), (z 0, .inr (10, mo z 0 pz0_5 pz0_6 pz0_7 pz0_8 pz0_9 pz0_10 pz0_11 pz0_12 pz0_13 pz0_14 pz0_18 pz0_19 pz0_22 pz0_23 pz0_29)), (z 1, aI V 3075 fz1)]) hP [3, 4, 0, 1, 2, 5, 6] rfl
          have hD := hD.sub (ws' := [(z 15, aI V 900 f_39), (z 16, aI V 6 f_40), (z 38, aI V 4 fz38), (z 39, aJ V 160 f_46), (z 37, aI V 4 fz37), (z 0, .inr (10, mo z 0 pz0_5 pz0_6 pz0_7 pz0_8 pz0_9 pz0_10 pz0_11 pz0_12 pz0_13 pz0_14 pz0_18 pz0_19 pz0_22 pz0_23 pz0_29)), (z 1, aI V 3075 fz1)]) [3, 4, 0, 1, 2, 5, 6] rfl rfl
          exact ihn_32 _ _ _ _ (by rw [en_32, ex_47]; exact mu_up b_35 (by decide)) ⟨x_47, r_38, f_39, f_40, f_46, (iv_w bx_47 (by decide)), (iv_w br_38 (by decide)), tf_40, g_41, rfl, hP, hD, hS, lv_sub hl [0, 1, 2, 3, 4, 5] rfl⟩
      · have b_48 : iv (-6) (-1) r_22 := iv_n1 c_24 br_22 (iv_c (0 : Int32) (a := 0) (b := 0) (by decide)) (by decide)
        refine lv_iload_n hx hb dX10_lists_39 rfl (lv_at hl 0 rfl) ?_
        have hP := subP (ws' := [(z 0, .inr (10, mo z 0 pz0_5 pz0_6 pz0_7 pz0_8 pz0_9 pz0_10 pz0_11 pz0_12 pz0_13 pz0_14 pz0_18 pz0_19 pz0_22 pz0_23 pz0_29)), (z 1, aI V 3075 fz1), (z 15, aI V 900 fz15), (z 16, aI V 6 fz16), (z 37, aI V 4 fz37), (z 38, aI V 4 fz38), (z 39, aJ V 160 fz39)]) hP [5, 4, 0, 1, 6, 2, 3] rfl
        have hD := hD.sub (ws' := [(z 0, .inr (10, mo z 0 pz0_5 pz0_6 pz0_7 pz0_8 pz0_9 pz0_10 pz0_11 pz0_12 pz0_13 pz0_14 pz0_18 pz0_19 pz0_22 pz0_23 pz0_29)), (z 1, aI V 3075 fz1), (z 15, aI V 900 fz15), (z 16, aI V 6 fz16), (z 37, aI V 4 fz37), (z 38, aI V 4 fz38), (z 39, aJ V 160 fz39)]) [5, 4, 0, 1, 6, 2, 3] rfl rfl
        exact fiI hx hb hr hlk hK hP hD hS dX10_lists_40 (Nat.le_of_ble_eq_true rfl) (Nat.le_of_ble_eq_true rfl) (⟨0, fz15, fz16, fz39, tfz16, (iv_w b_48 (by decide)), hf0, rfl⟩)
    · have b_49 : iv 0 0 r_16 := iv_q c_18 (iv_c (0 : Int32) (a := 0) (b := 0) (by decide))
      refine lv_bipush (v := (-2)) hx hb dX10_lists_26 (by decide) ?_
      have hP := subP (ws' := [(z 0, .inr (10, mo z 0 pz0_5 pz0_6 pz0_7 pz0_8 pz0_9 pz0_10 pz0_11 pz0_12 pz0_13 pz0_14 pz0_18 pz0_19 pz0_22 pz0_23 pz0_29)), (z 1, aI V 3075 fz1), (z 15, aI V 900 fz15), (z 16, aI V 6 fz16), (z 37, aI V 4 fz37), (z 38, aI V 4 fz38), (z 39, aJ V 160 fz39)]) hP [5, 6, 0, 1, 2, 3, 4] rfl
      have hD := hD.sub (ws' := [(z 0, .inr (10, mo z 0 pz0_5 pz0_6 pz0_7 pz0_8 pz0_9 pz0_10 pz0_11 pz0_12 pz0_13 pz0_14 pz0_18 pz0_19 pz0_22 pz0_23 pz0_29)), (z 1, aI V 3075 fz1), (z 15, aI V 900 fz15), (z 16, aI V 6 fz16), (z 37, aI V 4 fz37), (z 38, aI V 4 fz38), (z 39, aJ V 160 fz39)]) [5, 6, 0, 1, 2, 3, 4] rfl rfl
      exact fiI hx hb hr hlk hK hP hD hS dX10_lists_28 (Nat.le_of_ble_eq_true rfl) (Nat.le_of_ble_eq_true rfl) (⟨0, fz15, fz16, fz39, tfz16, (iv_c ((-2) : Int32) (by decide)), hf0, rfl⟩)
theorem dX10_image_0 : decode cX10_image 0 = .ok (.aload_n 0, 1) := by decide +kernel
theorem dX10_image_1 : decode cX10_image 1 = .ok (.iconst 0, 1) := by decide +kernel
theorem dX10_image_2 : decode cX10_image 2 = .ok (.putfield 1, 3) := by decide +kernel
theorem dX10_image_5 : decode cX10_image 5 = .ok (.iload_n 1, 1) := by decide +kernel
theorem dX10_image_6 : decode cX10_image 6 = .ok (.i2l, 1) := by decide +kernel
theorem dX10_image_7 : decode cX10_image 7 = .ok (.lconst 0, 1) := by decide +kernel
theorem dX10_image_8 : decode cX10_image 8 = .ok (.lconst 1, 1) := by decide +kernel
theorem dX10_image_9 : decode cX10_image 9 = .ok (.invokestatic 159, 3) := by decide +kernel
theorem dX10_image_12 : decode cX10_image 12 = .ok (.ifCond .ne 6, 3) := by decide +kernel
theorem dX10_image_18 : decode cX10_image 18 = .ok (.iconst 0, 1) := by decide +kernel
theorem dX10_image_19 : decode cX10_image 19 = .ok (.istore_n 2, 1) := by decide +kernel
theorem dX10_image_20 : decode cX10_image 20 = .ok (.iload_n 2, 1) := by decide +kernel
theorem dX10_image_21 : decode cX10_image 21 = .ok (.sipush 1025, 3) := by decide +kernel
theorem dX10_image_24 : decode cX10_image 24 = .ok (.if_icmp .ge 29, 3) := by decide +kernel
theorem dX10_image_53 : decode cX10_image 53 = .ok (.aload_n 0, 1) := by decide +kernel
theorem q_5_226 : Cond.fieldLink "BeaconDelayModel" 17 "BeaconDelayModel" "hasImage" "[Z" ∈ gw := gw_5 (i := 226) (by decide +kernel) rfl
theorem dX10_image_54 : decode cX10_image 54 = .ok (.getfield 17, 3) := by decide +kernel
theorem dX10_image_57 : decode cX10_image 57 = .ok (.iload_n 1, 1) := by decide +kernel
theorem dX10_image_58 : decode cX10_image 58 = .ok (.iconst 1, 1) := by decide +kernel
theorem dX10_image_59 : decode cX10_image 59 = .ok (.bastore, 1) := by decide +kernel
theorem dX10_image_60 : decode cX10_image 60 = .ok (.iconst 0, 1) := by decide +kernel
theorem dX10_image_61 : decode cX10_image 61 = .ok (.ireturn, 1) := by decide +kernel
theorem dX10_image_27 : decode cX10_image 27 = .ok (.aload_n 0, 1) := by decide +kernel
theorem dX10_image_28 : decode cX10_image 28 = .ok (.getfield 13, 3) := by decide +kernel
theorem dX10_image_31 : decode cX10_image 31 = .ok (.sipush 1025, 3) := by decide +kernel
theorem dX10_image_34 : decode cX10_image 34 = .ok (.iload_n 1, 1) := by decide +kernel
theorem dX10_image_35 : decode cX10_image 35 = .ok (.iconst 1, 1) := by decide +kernel
theorem dX10_image_36 : decode cX10_image 36 = .ok (.iadd, 1) := by decide +kernel
theorem dX10_image_37 : decode cX10_image 37 = .ok (.imul, 1) := by decide +kernel
theorem dX10_image_38 : decode cX10_image 38 = .ok (.iload_n 2, 1) := by decide +kernel
theorem dX10_image_39 : decode cX10_image 39 = .ok (.iadd, 1) := by decide +kernel
theorem dX10_image_40 : decode cX10_image 40 = .ok (.aload_n 0, 1) := by decide +kernel
theorem dX10_image_41 : decode cX10_image 41 = .ok (.getfield 13, 3) := by decide +kernel
theorem dX10_image_44 : decode cX10_image 44 = .ok (.iload_n 2, 1) := by decide +kernel
theorem dX10_image_45 : decode cX10_image 45 = .ok (.iaload, 1) := by decide +kernel
theorem dX10_image_46 : decode cX10_image 46 = .ok (.iastore, 1) := by decide +kernel
theorem dX10_image_47 : decode cX10_image 47 = .ok (.iinc 2 1, 3) := by decide +kernel
theorem dX10_image_50 : decode cX10_image 50 = .ok (.goto (-30), 3) := by decide +kernel
theorem dX10_image_15 : decode cX10_image 15 = .ok (.bipush (-2), 2) := by decide +kernel
theorem dX10_image_17 : decode cX10_image 17 = .ok (.ireturn, 1) := by decide +kernel
set_option maxHeartbeats 4000000 in
set_option maxRecDepth 100000 in
theorem k_X10_image_0 (l : Launch) (V : GV) (z : Nat → Nat) (a1 : Int32) (pz0_0 : Int32) (pz0_5 : Int32) (pz0_6 : Int32) (pz0_7 : Int32) (pz0_8 : Int32) (pz0_9 : Int32) (pz0_10 : Int32) (pz0_11 : Int32) (pz0_12 : Int32) (pz0_13 : Int32) (pz0_14 : Int32) (pz0_18 : Int32) (pz0_19 : Int32) (pz0_22 : Int32) (pz0_23 : Int32) (pz0_29 : Int32) (fz1 : Nat → Int32) (fz2 : Nat → Int32) (bpz0_5 : iv 0 900 pz0_5) (bpz0_6 : iv 0 900 pz0_6) (bpz0_7 : iv 0 900 pz0_7) (bpz0_8 : iv 0 900 pz0_8) (bpz0_10 : iv 0 999 pz0_10) (bpz0_11 : iv 0 4 pz0_11) (bpz0_12 : iv 0 900 pz0_12) (bpz0_13 : iv 0 4 pz0_13) (bpz0_14 : iv (-1) 900 pz0_14) (bpz0_18 : iv 0 2 pz0_18) (bpz0_22 : iv 0 9999 pz0_22) (bpz0_29 : iv 0 10000 pz0_29) (tfz1 : ivT tA fz1) (hf0 : RW fz1) : Ct l V yX10_image (.code yX10_image cX10_image 3 (some .int)) 2 [.ref (z 0), .int a1] [(z 0, .inr (10, mo z pz0_0 pz0_5 pz0_6 pz0_7 pz0_8 pz0_9 pz0_10 pz0_11 pz0_12 pz0_13 pz0_14 pz0_18 pz0_19 pz0_22 pz0_23 pz0_29)), (z 1, aI V 3075 fz1), (z 2, aZ V 2 fz2)] 0 0 (QI V (fun (r : Int32) (w : va_W) => ∃ (v0 : Int32) (g1 : Nat → Int32) (g2 : Nat → Int32), (ivT tA g1) ∧ iv (-2) 0 r ∧ (RW g1) ∧ w = [(z 0, .inr (10, mo z v0 pz0_5 pz0_6 pz0_7 pz0_8 pz0_9 pz0_10 pz0_11 pz0_12 pz0_13 pz0_14 pz0_18 pz0_19 pz0_22 pz0_23 pz0_29)), (z 1, aI V 3075 g1), (z 2, aZ V 2 g2)])) := by
  refine Ct.of (by decide) (Nat.le_of_ble_eq_true rfl) (fun p e s m below meth c A ls hx hb hr hml hown hlk hnm hg hP hK hD hE hA hS hl => ?_)
  have hl : lv_has ls 3 [(0, .ref (z 0)), (1, .int a1)] := hl
  refine lv_aload_n hx hb dX10_image_0 rfl (lv_at hl 0 rfl) ?_
  refine lv_iconst (v := 0) hx hb dX10_image_1 (by decide) ?_
  refine va_put (ci := 10) (v := .int 0) (ty := .int) (C := RX10) (T := TX10) (N := 40) hx hb hg inX10 tyX10 tyX10_ok nmX10 hown hK hP hD hS 0 rfl rfl 0 (by decide) (hg _ q_5_224) (fun _ h9 => h9) rfl (by decide +kernel) rfl rfl (Nat.le_of_ble_eq_true rfl) dX10_image_2 (fun H locs hP hD hS => ?_)
  have hP : va_P V.1 vwCl [(z 0, .inr (10, mo z 0 pz0_5 pz0_6 pz0_7 pz0_8 pz0_9 pz0_10 pz0_11 pz0_12 pz0_13 pz0_14 pz0_18 pz0_19 pz0_22 pz0_23 pz0_29)), (z 1, aI V 3075 fz1), (z 2, aZ V 2 fz2)] H := hP
  have hD : va_D A [(z 0, .inr (10, mo z 0 pz0_5 pz0_6 pz0_7 pz0_8 pz0_9 pz0_10 pz0_11 pz0_12 pz0_13 pz0_14 pz0_18 pz0_19 pz0_22 pz0_23 pz0_29)), (z 1, aI V 3075 fz1), (z 2, aZ V 2 fz2)] := hD
  refine lv_iload_n hx hb dX10_image_5 rfl (lv_at hl 1 rfl) ?_
  refine lv_i2l hx hb dX10_image_6 rfl ?_
  refine lv_topl (fun j_1 ej_1 => ?_)
  refine lv_lconst (v := 0) hx hb dX10_image_7 (by decide) ?_
  refine lv_lconst (v := 1) hx hb dX10_image_8 (by decide) ?_
  refine jnI (wr := [(z 0, .inr (10, mo z 0 pz0_5 pz0_6 pz0_7 pz0_8 pz0_9 pz0_10 pz0_11 pz0_12 pz0_13 pz0_14 pz0_18 pz0_19 pz0_22 pz0_23 pz0_29)), (z 1, aI V 3075 fz1), (z 2, aZ V 2 fz2)]) (rnS (rest := []) ⟨hx, hb, hml, hown, hg⟩ (k_X10_within_0 l V j_1 0 1) mt_X10_within q_6_114 ⟨Nat.le_of_ble_eq_true rfl, Nat.le_of_ble_eq_true rfl⟩ hK hP hD hS hA hE [] rfl rfl rfl hl.1 rfl (Nat.le_of_ble_eq_true rfl) dX10_image_9 ⟨Nat.le_of_ble_eq_true rfl, Nat.le_of_ble_eq_true rfl⟩) hP hD hS hA [] [0, 1, 2] rfl rfl rfl (by decide) (fun r_2 w H locs hw hP hD hS => ?_)
  obtain ⟨br_2, g_3, g_4, g_5, rfl⟩ := hw
  have hP : va_P V.1 vwCl [(z 0, .inr (10, mo z 0 pz0_5 pz0_6 pz0_7 pz0_8 pz0_9 pz0_10 pz0_11 pz0_12 pz0_13 pz0_14 pz0_18 pz0_19 pz0_22 pz0_23 pz0_29)), (z 1, aI V 3075 fz1), (z 2, aZ V 2 fz2)] H := hP
  have hD : va_D A [(z 0, .inr (10, mo z 0 pz0_5 pz0_6 pz0_7 pz0_8 pz0_9 pz0_10 pz0_11 pz0_12 pz0_13 pz0_14 pz0_18 pz0_19 pz0_22 pz0_23 pz0_29)), (z 1, aI V 3075 fz1), (z 2, aZ V 2 fz2)] := hD
  refine lv_if_ne (tgt := 18) hx hb dX10_image_12 (by decide) (fun c_6 => ?_) (fun c_6 => ?_)
  · have b_7 : iv 1 1 r_2 := iv_n0 c_6 br_2 (iv_c (0 : Int32) (a := 0) (b := 0) (by decide)) (by decide)
    have c_8 : (0 : Int64) ≤ j_1 := (g_4 (iv_eqp b_7 (iv_c (1 : Int32) (by decide))))
    have b_9 : ivL 0 9223372036854775807 j_1 := ivL_e2 c_8 (ivL_c (0 : Int64) (a := 0) (b := 0) (by decide)) (ivL_top j_1) (by decide)
    have b_10 : iv 0 2147483647 a1 := iv_cap (ivL_i ej_1 b_9) (iv_top a1) (by decide)
    have c_11 : j_1 ≤ 1 := (g_5 (iv_eqp b_7 (iv_c (1 : Int32) (by decide))))
    have b_12 : ivL 0 1 j_1 := ivL_e1 c_11 b_9 (ivL_c (1 : Int64) (a := 1) (b := 1) (by decide)) (by decide)
    have b_13 : iv 0 1 a1 := iv_cap (ivL_i ej_1 b_12) b_10 (by decide)
    have c_14 : a1 = 0 ∨ a1 = 1 := by have q9 := b_13; unfold iv at q9; simp only [tI_eq, (by decide : (0 : Int32).toInt = 0), (by decide : (1 : Int32).toInt = 1)]; omega
    rcases c_14 with rfl | rfl
    · refine lv_iconst (v := 0) hx hb dX10_image_18 (by decide) ?_
      refine lv_istore_n (lv' := [(2, .int 0), (0, .ref (z 0)), (1, .int 0)]) hx hb dX10_image_19 rfl hl (by decide) rfl (fun ls hl => ?_)
      refine loopF (X := fun (n_17 : Nat) (H : Heap) (locs : List Loc) (ls : Array Slot) => ∃ (u_15 : Int32) (f_16 : Nat → Int32), (iv 0 2147483647 u_15) ∧ (ivT tA f_16) ∧ (IMG 1025 u_15 f_16) ∧ n_17 = (2147483647 - (u_15 : Int32).toInt).toNat ∧ va_P V.1 vwCl [(z 0, .inr (10, mo z 0 pz0_5 pz0_6 pz0_7 pz0_8 pz0_9 pz0_10 pz0_11 pz0_12 pz0_13 pz0_14 pz0_18 pz0_19 pz0_22 pz0_23 pz0_29)), (z 1, aI V 3075 f_16), (z 2, aZ V 2 fz2)] H ∧ va_D A [(z 0, .inr (10, mo z 0 pz0_5 pz0_6 pz0_7 pz0_8 pz0_9 pz0_10 pz0_11 pz0_12 pz0_13 pz0_14 pz0_18 pz0_19 pz0_22 pz0_23 pz0_29)), (z 1, aI V 3075 f_16), (z 2, aZ V 2 fz2)] ∧ va_S A s.heap H locs ∧ lv_has ls 3 [(2, .int u_15), (0, .ref (z 0)), (1, .int 0)]) (g := fun ls => F0 m 20 ls []) (fun n_17 H locs ls hX ihn_17 => ?_) _ ⟨0, fz1, (iv_c (0 : Int32) (by decide)), tfz1, (IMG_0 hf0 (by decide)), rfl, hP, hD, hS, lv_sub hl [0, 1, 2] rfl⟩
      obtain ⟨u_15, f_16, bu_15, tf_16, inn_17_0, en_17, hP, hD, hS, hl⟩ := hX
      refine lv_iload_n hx hb dX10_image_20 rfl (lv_at hl 0 rfl) ?_
      refine lv_sipush (v := 1025) hx hb dX10_image_21 (by decide) ?_
      refine lv_icmp_ge (tgt := 53) hx hb dX10_image_24 (by decide) (fun c_18 => ?_) (fun c_18 => ?_)
      · have b_19 : iv 1025 2147483647 u_15 := iv_e2 c_18 (iv_c (1025 : Int32) (a := 1025) (b := 1025) (by decide)) bu_15 (by decide)
        have hRW := IMG_e inn_17_0 (Or.inl rfl) (Int32.not_lt.mpr c_18)
        refine lv_aload_n hx hb dX10_image_53 rfl (lv_at hl 1 rfl) ?_
        refine va_get (ci := 10) (v := .ref (z 2)) (C := RX10) (T := TX10) (N := 40) hx hb hg inX10 hown hK hP 0 rfl rfl 2 (by decide) (hg _ q_5_226) (fun _ h9 => h9) rfl dX10_image_54 ?_
        refine lv_iload_n hx hb dX10_image_57 rfl (lv_at hl 2 rfl) ?_
        refine lv_iconst (v := 1) hx hb dX10_image_58 (by decide) ?_
        refine va_zast hx hb hK hP hD hS 2 3 rfl rfl (vin (by decide +kernel)) dX10_image_59 (fun H locs hP hD hS => ?_)
        obtain ⟨f_20, hP, hD⟩ : ∃ f_20 : Nat → Int32, va_P V.1 vwCl [(z 0, .inr (10, mo z 0 pz0_5 pz0_6 pz0_7 pz0_8 pz0_9 pz0_10 pz0_11 pz0_12 pz0_13 pz0_14 pz0_18 pz0_19 pz0_22 pz0_23 pz0_29)), (z 1, aI V 3075 f_16), (z 2, aZ V 2 f_20)] H ∧ va_D A [(z 0, .inr (10, mo z 0 pz0_5 pz0_6 pz0_7 pz0_8 pz0_9 pz0_10 pz0_11 pz0_12 pz0_13 pz0_14 pz0_18 pz0_19 pz0_22 pz0_23 pz0_29)), (z 1, aI V 3075 f_16), (z 2, aZ V 2 f_20)] := ⟨_, hP, hD⟩
        refine lv_iconst (v := 0) hx hb dX10_image_60 (by decide) ?_
        exact fiI hx hb hr hlk hK hP hD hS dX10_image_61 (Nat.le_of_ble_eq_true rfl) (Nat.le_of_ble_eq_true rfl) (⟨0, f_16, f_20, tf_16, (iv_c (0 : Int32) (by decide)), hRW, rfl⟩)
      · have b_21 : iv 0 1024 u_15 := iv_l1 (Int32.not_le.mp c_18) bu_15 (iv_c (1025 : Int32) (a := 1025) (b := 1025) (by decide)) (by decide)
        refine lv_aload_n hx hb dX10_image_27 rfl (lv_at hl 1 rfl) ?_
        refine va_get (ci := 10) (v := .ref (z 1)) (C := RX10) (T := TX10) (N := 40) hx hb hg inX10 hown hK hP 0 rfl rfl 1 (by decide) (hg _ q_5_225) (fun _ h9 => h9) rfl dX10_image_28 ?_
        refine lv_sipush (v := 1025) hx hb dX10_image_31 (by decide) ?_
        refine lv_iload_n hx hb dX10_image_34 rfl (lv_at hl 2 rfl) ?_
        refine lv_iconst (v := 1) hx hb dX10_image_35 (by decide) ?_
        refine lv_iadd hx hb dX10_image_36 ?_
        refine tpi (y := 1) (by decide +kernel) ?_
        refine lv_imul hx hb dX10_image_37 ?_
        refine tpi (y := 1025) (by decide +kernel) ?_
        refine lv_iload_n hx hb dX10_image_38 rfl (lv_at hl 0 rfl) ?_
        refine lv_iadd hx hb dX10_image_39 ?_
        refine lv_topi (fun x_22 ex_22 => ?_)
        have bx_22 : iv 1025 2049 x_22 := by rw [ex_22]; exact iv_add (iv_c (1025 : Int32) (a := 1025) (b := 1025) (by decide)) b_21 (by decide)
        refine lv_aload_n hx hb dX10_image_40 rfl (lv_at hl 1 rfl) ?_
        refine va_get (ci := 10) (v := .ref (z 1)) (C := RX10) (T := TX10) (N := 40) hx hb hg inX10 hown hK hP 0 rfl rfl 1 (by decide) (hg _ q_5_225) (fun _ h9 => h9) rfl dX10_image_41 ?_
        refine lv_iload_n hx hb dX10_image_44 rfl (lv_at hl 0 rfl) ?_
        refine va_iald hx hb hK hP 1 0 rfl rfl (iv_in b_21 (by decide)) dX10_image_45 ?_
        refine lv_topi (fun x_23 ex_23 => ?_)
        refine va_iast hx hb hK hP hD hS 1 0 rfl rfl (iv_in bx_22 (by decide)) dX10_image_46 (fun H locs hP hD hS => ?_)
        obtain ⟨f_24, ef_24, tf_24, hP, hD⟩ : ∃ f_24 : Nat → Int32, f_24 = (upd f_16 (x_22 : Int32).toNatClampNeg x_23) ∧ (ivT tA f_24) ∧ va_P V.1 vwCl [(z 0, .inr (10, mo z 0 pz0_5 pz0_6 pz0_7 pz0_8 pz0_9 pz0_10 pz0_11 pz0_12 pz0_13 pz0_14 pz0_18 pz0_19 pz0_22 pz0_23 pz0_29)), (z 1, aI V 3075 f_24), (z 2, aZ V 2 fz2)] H ∧ va_D A [(z 0, .inr (10, mo z 0 pz0_5 pz0_6 pz0_7 pz0_8 pz0_9 pz0_10 pz0_11 pz0_12 pz0_13 pz0_14 pz0_18 pz0_19 pz0_22 pz0_23 pz0_29)), (z 1, aI V 3075 f_24), (z 2, aZ V 2 fz2)] := ⟨_, rfl, tA_cp (c := 1025) (d := 0) tf_16 (show (x_22 : Int32).toInt = ((1025 : Nat) : Int) + (u_15 : Int32).toInt from (by have q_x_22 := toInt_add ex_22 (iv_c (1025 : Int32) (a := 1025) (b := 1025) (by decide)) b_21 (by decide); have k_x_22 : (1025 : Int32).toInt = 1025 := (by decide); omega)) (show (u_15 : Int32).toInt = ((0 : Nat) : Int) + (u_15 : Int32).toInt from (by omega)) b_21 (by decide) (by decide) ex_23, hP, hD⟩
        obtain ⟨x_25, ex_25⟩ : ∃ z9 : Int32, z9 = u_15 + 1 := ⟨_, rfl⟩
        have bx_25 : iv 1 1025 x_25 := by rw [ex_25]; exact iv_add b_21 (iv_c (1 : Int32) (a := 1) (b := 1) (by decide)) (by decide)
        refine lv_iinc (v := x_25) (lv' := [(2, .int x_25), (0, .ref (z 0)), (1, .int 0)]) hx hb dX10_image_47 hl (k := 0) rfl (by rw [ex_25]; rfl) (by decide) rfl (fun ls hl => ?_)
        refine lv_goto (tgt := 20) hx hb dX10_image_50 (by decide) ?_
        exact ihn_17 _ _ _ _ (by rw [en_17, ex_25]; exact mu_up b_21 (by decide)) ⟨x_25, f_24, (iv_w bx_25 (by decide)), tf_24, (IMG_s inn_17_0 (Or.inl rfl) b_21 (by decide) (show (x_22 : Int32).toInt = ((1025 : Nat) : Int) + (u_15 : Int32).toInt from (by have q_x_22 := toInt_add ex_22 (iv_c (1025 : Int32) (a := 1025) (b := 1025) (by decide)) b_21 (by decide); have k_x_22 : (1025 : Int32).toInt = 1025 := (by decide); omega)) ex_23 ef_24 ex_25), rfl, hP, hD, hS, lv_sub hl [0, 1, 2] rfl⟩
    · refine lv_iconst (v := 0) hx hb dX10_image_18 (by decide) ?_
      refine lv_istore_n (lv' := [(2, .int 0), (0, .ref (z 0)), (1, .int 1)]) hx hb dX10_image_19 rfl hl (by decide) rfl (fun ls hl => ?_)
      refine loopF (X := fun (n_28 : Nat) (H : Heap) (locs : List Loc) (ls : Array Slot) => ∃ (u_26 : Int32) (f_27 : Nat → Int32), (iv 0 2147483647 u_26) ∧ (ivT tA f_27) ∧ (IMG 2050 u_26 f_27) ∧ n_28 = (2147483647 - (u_26 : Int32).toInt).toNat ∧ va_P V.1 vwCl [(z 0, .inr (10, mo z 0 pz0_5 pz0_6 pz0_7 pz0_8 pz0_9 pz0_10 pz0_11 pz0_12 pz0_13 pz0_14 pz0_18 pz0_19 pz0_22 pz0_23 pz0_29)), (z 1, aI V 3075 f_27), (z 2, aZ V 2 fz2)] H ∧ va_D A [(z 0, .inr (10, mo z 0 pz0_5 pz0_6 pz0_7 pz0_8 pz0_9 pz0_10 pz0_11 pz0_12 pz0_13 pz0_14 pz0_18 pz0_19 pz0_22 pz0_23 pz0_29)), (z 1, aI V 3075 f_27), (z 2, aZ V 2 fz2)] ∧ va_S A s.heap H locs ∧ lv_has ls 3 [(2, .int u_26), (0, .ref (z 0)), (1, .int 1)]) (g := fun ls => F0 m 20 ls []) (fun n_28 H locs ls hX ihn_28 => ?_) _ ⟨0, fz1, (iv_c (0 : Int32) (by decide)), tfz1, (IMG_0 hf0 (by decide)), rfl, hP, hD, hS, lv_sub hl [0, 1, 2] rfl⟩
      obtain ⟨u_26, f_27, bu_26, tf_27, inn_28_0, en_28, hP, hD, hS, hl⟩ := hX
      refine lv_iload_n hx hb dX10_image_20 rfl (lv_at hl 0 rfl) ?_
      refine lv_sipush (v := 1025) hx hb dX10_image_21 (by decide) ?_
      refine lv_icmp_ge (tgt := 53) hx hb dX10_image_24 (by decide) (fun c_29 => ?_) (fun c_29 => ?_)
      · have b_30 : iv 1025 2147483647 u_26 := iv_e2 c_29 (iv_c (1025 : Int32) (a := 1025) (b := 1025) (by decide)) bu_26 (by decide)
        have hRW := IMG_e inn_28_0 (Or.inr rfl) (Int32.not_lt.mpr c_29)
        refine lv_aload_n hx hb dX10_image_53 rfl (lv_at hl 1 rfl) ?_
        refine va_get (ci := 10) (v := .ref (z 2)) (C := RX10) (T := TX10) (N := 40) hx hb hg inX10 hown hK hP 0 rfl rfl 2 (by decide) (hg _ q_5_226) (fun _ h9 => h9) rfl dX10_image_54 ?_
        refine lv_iload_n hx hb dX10_image_57 rfl (lv_at hl 2 rfl) ?_
        refine lv_iconst (v := 1) hx hb dX10_image_58 (by decide) ?_
        refine va_zast hx hb hK hP hD hS 2 3 rfl rfl (vin (by decide +kernel)) dX10_image_59 (fun H locs hP hD hS => ?_)
        obtain ⟨f_31, hP, hD⟩ : ∃ f_31 : Nat → Int32, va_P V.1 vwCl [(z 0, .inr (10, mo z 0 pz0_5 pz0_6 pz0_7 pz0_8 pz0_9 pz0_10 pz0_11 pz0_12 pz0_13 pz0_14 pz0_18 pz0_19 pz0_22 pz0_23 pz0_29)), (z 1, aI V 3075 f_27), (z 2, aZ V 2 f_31)] H ∧ va_D A [(z 0, .inr (10, mo z 0 pz0_5 pz0_6 pz0_7 pz0_8 pz0_9 pz0_10 pz0_11 pz0_12 pz0_13 pz0_14 pz0_18 pz0_19 pz0_22 pz0_23 pz0_29)), (z 1, aI V 3075 f_27), (z 2, aZ V 2 f_31)] := ⟨_, hP, hD⟩
        refine lv_iconst (v := 0) hx hb dX10_image_60 (by decide) ?_
        exact fiI hx hb hr hlk hK hP hD hS dX10_image_61 (Nat.le_of_ble_eq_true rfl) (Nat.le_of_ble_eq_true rfl) (⟨0, f_27, f_31, tf_27, (iv_c (0 : Int32) (by decide)), hRW, rfl⟩)
      · have b_32 : iv 0 1024 u_26 := iv_l1 (Int32.not_le.mp c_29) bu_26 (iv_c (1025 : Int32) (a := 1025) (b := 1025) (by decide)) (by decide)
        refine lv_aload_n hx hb dX10_image_27 rfl (lv_at hl 1 rfl) ?_
        refine va_get (ci := 10) (v := .ref (z 1)) (C := RX10) (T := TX10) (N := 40) hx hb hg inX10 hown hK hP 0 rfl rfl 1 (by decide) (hg _ q_5_225) (fun _ h9 => h9) rfl dX10_image_28 ?_
        refine lv_sipush (v := 1025) hx hb dX10_image_31 (by decide) ?_
        refine lv_iload_n hx hb dX10_image_34 rfl (lv_at hl 2 rfl) ?_
        refine lv_iconst (v := 1) hx hb dX10_image_35 (by decide) ?_
        refine lv_iadd hx hb dX10_image_36 ?_
        refine tpi (y := 2) (by decide +kernel) ?_
        refine lv_imul hx hb dX10_image_37 ?_
        refine tpi (y := 2050) (by decide +kernel) ?_
        refine lv_iload_n hx hb dX10_image_38 rfl (lv_at hl 0 rfl) ?_
        refine lv_iadd hx hb dX10_image_39 ?_
        refine lv_topi (fun x_33 ex_33 => ?_)
        have bx_33 : iv 2050 3074 x_33 := by rw [ex_33]; exact iv_add (iv_c (2050 : Int32) (a := 2050) (b := 2050) (by decide)) b_32 (by decide)
        refine lv_aload_n hx hb dX10_image_40 rfl (lv_at hl 1 rfl) ?_
        refine va_get (ci := 10) (v := .ref (z 1)) (C := RX10) (T := TX10) (N := 40) hx hb hg inX10 hown hK hP 0 rfl rfl 1 (by decide) (hg _ q_5_225) (fun _ h9 => h9) rfl dX10_image_41 ?_
        refine lv_iload_n hx hb dX10_image_44 rfl (lv_at hl 0 rfl) ?_
        refine va_iald hx hb hK hP 1 0 rfl rfl (iv_in b_32 (by decide)) dX10_image_45 ?_
        refine lv_topi (fun x_34 ex_34 => ?_)
        refine va_iast hx hb hK hP hD hS 1 0 rfl rfl (iv_in bx_33 (by decide)) dX10_image_46 (fun H locs hP hD hS => ?_)
        obtain ⟨f_35, ef_35, tf_35, hP, hD⟩ : ∃ f_35 : Nat → Int32, f_35 = (upd f_27 (x_33 : Int32).toNatClampNeg x_34) ∧ (ivT tA f_35) ∧ va_P V.1 vwCl [(z 0, .inr (10, mo z 0 pz0_5 pz0_6 pz0_7 pz0_8 pz0_9 pz0_10 pz0_11 pz0_12 pz0_13 pz0_14 pz0_18 pz0_19 pz0_22 pz0_23 pz0_29)), (z 1, aI V 3075 f_35), (z 2, aZ V 2 fz2)] H ∧ va_D A [(z 0, .inr (10, mo z 0 pz0_5 pz0_6 pz0_7 pz0_8 pz0_9 pz0_10 pz0_11 pz0_12 pz0_13 pz0_14 pz0_18 pz0_19 pz0_22 pz0_23 pz0_29)), (z 1, aI V 3075 f_35), (z 2, aZ V 2 fz2)] := ⟨_, rfl, tA_cp (c := 2050) (d := 0) tf_27 (show (x_33 : Int32).toInt = ((2050 : Nat) : Int) + (u_26 : Int32).toInt from (by have q_x_33 := toInt_add ex_33 (iv_c (2050 : Int32) (a := 2050) (b := 2050) (by decide)) b_32 (by decide); have k_x_33 : (2050 : Int32).toInt = 2050 := (by decide); omega)) (show (u_26 : Int32).toInt = ((0 : Nat) : Int) + (u_26 : Int32).toInt from (by omega)) b_32 (by decide) (by decide) ex_34, hP, hD⟩
        obtain ⟨x_36, ex_36⟩ : ∃ z9 : Int32, z9 = u_26 + 1 := ⟨_, rfl⟩
        have bx_36 : iv 1 1025 x_36 := by rw [ex_36]; exact iv_add b_32 (iv_c (1 : Int32) (a := 1) (b := 1) (by decide)) (by decide)
        refine lv_iinc (v := x_36) (lv' := [(2, .int x_36), (0, .ref (z 0)), (1, .int 1)]) hx hb dX10_image_47 hl (k := 0) rfl (by rw [ex_36]; rfl) (by decide) rfl (fun ls hl => ?_)
        refine lv_goto (tgt := 20) hx hb dX10_image_50 (by decide) ?_
        exact ihn_28 _ _ _ _ (by rw [en_28, ex_36]; exact mu_up b_32 (by decide)) ⟨x_36, f_35, (iv_w bx_36 (by decide)), tf_35, (IMG_s inn_28_0 (Or.inr rfl) b_32 (by decide) (show (x_33 : Int32).toInt = ((2050 : Nat) : Int) + (u_26 : Int32).toInt from (by have q_x_33 := toInt_add ex_33 (iv_c (2050 : Int32) (a := 2050) (b := 2050) (by decide)) b_32 (by decide); have k_x_33 : (2050 : Int32).toInt = 2050 := (by decide); omega)) ex_34 ef_35 ex_36), rfl, hP, hD, hS, lv_sub hl [0, 1, 2] rfl⟩
  · have b_37 : iv 0 0 r_2 := iv_q c_6 (iv_c (0 : Int32) (a := 0) (b := 0) (by decide))
    refine lv_bipush (v := (-2)) hx hb dX10_image_15 (by decide) ?_
    exact fiI hx hb hr hlk hK hP hD hS dX10_image_17 (Nat.le_of_ble_eq_true rfl) (Nat.le_of_ble_eq_true rfl) (⟨0, fz1, fz2, tfz1, (iv_c ((-2) : Int32) (by decide)), hf0, rfl⟩)
