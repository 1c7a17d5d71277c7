theorem dX7_cut_0 : decode cX7_cut 0 = .ok (.aload_n 0, 1) := by decide +kernel
theorem dX7_cut_1 : decode cX7_cut 1 = .ok (.getfield 19, 3) := by decide +kernel
theorem dX7_cut_4 : decode cX7_cut 4 = .ok (.tableswitch 42 0 2 #[28, 33, 38], 28) := by decide +kernel
theorem dX7_cut_32 : decode cX7_cut 32 = .ok (.lload_n 1, 1) := by decide +kernel
theorem dX7_cut_33 : decode cX7_cut 33 = .ok (.l2i, 1) := by decide +kernel
theorem dX7_cut_34 : decode cX7_cut 34 = .ok (.i2b, 1) := by decide +kernel
theorem dX7_cut_35 : decode cX7_cut 35 = .ok (.i2l, 1) := by decide +kernel
theorem dX7_cut_36 : decode cX7_cut 36 = .ok (.lreturn, 1) := by decide +kernel
theorem dX7_cut_37 : decode cX7_cut 37 = .ok (.lload_n 1, 1) := by decide +kernel
theorem dX7_cut_38 : decode cX7_cut 38 = .ok (.l2i, 1) := by decide +kernel
theorem dX7_cut_39 : decode cX7_cut 39 = .ok (.i2s, 1) := by decide +kernel
theorem dX7_cut_40 : decode cX7_cut 40 = .ok (.i2l, 1) := by decide +kernel
theorem dX7_cut_41 : decode cX7_cut 41 = .ok (.lreturn, 1) := by decide +kernel
theorem dX7_cut_42 : decode cX7_cut 42 = .ok (.lload_n 1, 1) := by decide +kernel
theorem dX7_cut_43 : decode cX7_cut 43 = .ok (.l2i, 1) := by decide +kernel
theorem dX7_cut_44 : decode cX7_cut 44 = .ok (.i2l, 1) := by decide +kernel
theorem dX7_cut_45 : decode cX7_cut 45 = .ok (.lreturn, 1) := by decide +kernel
theorem dX7_cut_46 : decode cX7_cut 46 = .ok (.lload_n 1, 1) := by decide +kernel
theorem dX7_cut_47 : decode cX7_cut 47 = .ok (.lreturn, 1) := by decide +kernel
set_option maxRecDepth 100000 in
noncomputable def F_k_X7_cut_0 (k1 : Int64) (py33_2 : Int32) : Int64 := if py33_2 = 0 then (bnd (k1.toInt32 : Int32) fun (x_2 : Int32) => bnd (x_2.toInt8.toInt32 : Int32) fun (x_3 : Int32) => bnd (x_3.toInt64 : Int64) fun (j_4 : Int64) => (j_4)) else (if py33_2 = 1 then (bnd (k1.toInt32 : Int32) fun (x_6 : Int32) => bnd (x_6.toInt16.toInt32 : Int32) fun (x_7 : Int32) => bnd (x_7.toInt64 : Int64) fun (j_8 : Int64) => (j_8)) else (if py33_2 = 2 then (bnd (k1.toInt32 : Int32) fun (x_10 : Int32) => bnd (x_10.toInt64 : Int64) fun (j_11 : Int64) => (j_11)) else ((k1))))
set_option maxHeartbeats 4000000 in
set_option maxRecDepth 100000 in
theorem k_X7_cut_0 (l : Launch) (V : GV) (y : Nat → Nat) (k1 : Int64) (py33_1 : Int32) (py33_2 : Int32) (bpy33_1 : iv (-1) 40 py33_1) : Ct l V yX7_cut (.code yX7_cut cX7_cut 3 (some .long)) 1 [.ref (y 33), .long k1] [(y 33, .inr (7, o7_rii (y 34) py33_1 py33_2))] 0 0 (QL V (fun (r : Int64) (w : va_W) => r = (F_k_X7_cut_0 k1 py33_2) ∧ w = [(y 33, .inr (7, o7_rii (y 34) py33_1 py33_2))])) := by
  refine Ct.of (by decide) (Nat.le_of_ble_eq_true rfl) (fun p e s m below meth c A ls hx hb hr hml hown hlk hnm hg hP hK hD hE hA hS hl => ?_)
  have hl : lv_has ls 3 [(0, .ref (y 33)), (1, .long k1)] := hl
  obtain ⟨T0, hT0⟩ : ∃ T9, T9 = F_k_X7_cut_0 k1 py33_2 := ⟨_, rfl⟩
  have hR := hT0.trans (F_k_X7_cut_0.eq_1 ..)
  refine lv_aload_n hx hb dX7_cut_0 rfl (lv_at hl 0 rfl) ?_
  refine va_get (ci := 7) (v := .int py33_2) (C := RX7) (T := TX7) (N := 3) hx hb hg inX7 hown hK hP 0 rfl rfl 2 (by decide) (hg _ q_2_3) (fun _ h9 => h9) rfl dX7_cut_1 ?_
  by_cases c_1 : py33_2 = 0
  · refine lv_tableIn (off := 28) (tgt := 32) hx hb dX7_cut_4 (by rw [c_1]; decide) (by rw [c_1]; decide) (by rw [c_1]; rfl) (by decide) ?_
    replace hR := ti hR c_1
    refine lv_lload_n hx hb dX7_cut_32 rfl (lv_at hl 1 rfl) ?_
    refine lv_l2i hx hb dX7_cut_33 rfl ?_
    refine lv_topi (fun x_2 ex_2 => ?_)
    replace hR := tb hR ex_2
    refine lv_i2b hx hb dX7_cut_34 rfl ?_
    refine lv_topi (fun x_3 ex_3 => ?_)
    replace hR := tb hR ex_3
    refine lv_i2l hx hb dX7_cut_35 rfl ?_
    refine lv_topl (fun j_4 ej_4 => ?_)
    replace hR := tb hR ej_4
    exact fiL hx hb hr hlk hK hP hD hS dX7_cut_36 (Nat.le_of_ble_eq_true rfl) (Nat.le_of_ble_eq_true rfl) (⟨(hR.symm.trans hT0), rfl⟩)
  · replace hR := te hR c_1
    by_cases c_5 : py33_2 = 1
    · refine lv_tableIn (off := 33) (tgt := 37) hx hb dX7_cut_4 (by rw [c_5]; decide) (by rw [c_5]; decide) (by rw [c_5]; rfl) (by decide) ?_
      replace hR := ti hR c_5
      refine lv_lload_n hx hb dX7_cut_37 rfl (lv_at hl 1 rfl) ?_
      refine lv_l2i hx hb dX7_cut_38 rfl ?_
      refine lv_topi (fun x_6 ex_6 => ?_)
      replace hR := tb hR ex_6
      refine lv_i2s hx hb dX7_cut_39 rfl ?_
      refine lv_topi (fun x_7 ex_7 => ?_)
      replace hR := tb hR ex_7
      refine lv_i2l hx hb dX7_cut_40 rfl ?_
      refine lv_topl (fun j_8 ej_8 => ?_)
      replace hR := tb hR ej_8
      exact fiL hx hb hr hlk hK hP hD hS dX7_cut_41 (Nat.le_of_ble_eq_true rfl) (Nat.le_of_ble_eq_true rfl) (⟨(hR.symm.trans hT0), rfl⟩)
    · replace hR := te hR c_5
      by_cases c_9 : py33_2 = 2
      · refine lv_tableIn (off := 38) (tgt := 42) hx hb dX7_cut_4 (by rw [c_9]; decide) (by rw [c_9]; decide) (by rw [c_9]; rfl) (by decide) ?_
        replace hR := ti hR c_9
        refine lv_lload_n hx hb dX7_cut_42 rfl (lv_at hl 1 rfl) ?_
        refine lv_l2i hx hb dX7_cut_43 rfl ?_
        refine lv_topi (fun x_10 ex_10 => ?_)
        replace hR := tb hR ex_10
        refine lv_i2l hx hb dX7_cut_44 rfl ?_
        refine lv_topl (fun j_11 ej_11 => ?_)
        replace hR := tb hR ej_11
        exact fiL hx hb hr hlk hK hP hD hS dX7_cut_45 (Nat.le_of_ble_eq_true rfl) (Nat.le_of_ble_eq_true rfl) (⟨(hR.symm.trans hT0), rfl⟩)
      · replace hR := te hR c_9
        refine lv_tableOut (tgt := 46) hx hb dX7_cut_4 ((Int.lt_or_le py33_2.toInt 0).elim Or.inl (fun c_12 => Or.inr (by simp only [tI_eq, (by decide : (0 : Int32).toInt = 0), (by decide : (1 : Int32).toInt = 1), (by decide : (2 : Int32).toInt = 2)] at c_1 c_5 c_9; omega))) (by decide) ?_
        refine lv_lload_n hx hb dX7_cut_46 rfl (lv_at hl 1 rfl) ?_
        exact fiL hx hb hr hlk hK hP hD hS dX7_cut_47 (Nat.le_of_ble_eq_true rfl) (Nat.le_of_ble_eq_true rfl) (⟨(hR.symm.trans hT0), rfl⟩)
set_option maxRecDepth 100000 in
noncomputable def F_k_X7_cut_1 (k1 : Int64) (py35_2 : Int32) : Int64 := if py35_2 = 0 then (bnd (k1.toInt32 : Int32) fun (x_2 : Int32) => bnd (x_2.toInt8.toInt32 : Int32) fun (x_3 : Int32) => bnd (x_3.toInt64 : Int64) fun (j_4 : Int64) => (j_4)) else (if py35_2 = 1 then (bnd (k1.toInt32 : Int32) fun (x_6 : Int32) => bnd (x_6.toInt16.toInt32 : Int32) fun (x_7 : Int32) => bnd (x_7.toInt64 : Int64) fun (j_8 : Int64) => (j_8)) else (if py35_2 = 2 then (bnd (k1.toInt32 : Int32) fun (x_10 : Int32) => bnd (x_10.toInt64 : Int64) fun (j_11 : Int64) => (j_11)) else ((k1))))
set_option maxHeartbeats 4000000 in
set_option maxRecDepth 100000 in
theorem k_X7_cut_1 (l : Launch) (V : GV) (y : Nat → Nat) (k1 : Int64) (py35_1 : Int32) (py35_2 : Int32) (bpy35_1 : iv (-1) 40 py35_1) : Ct l V yX7_cut (.code yX7_cut cX7_cut 3 (some .long)) 1 [.ref (y 35), .long k1] [(y 35, .inr (7, o7_rii (y 36) py35_1 py35_2))] 0 0 (QL V (fun (r : Int64) (w : va_W) => r = (F_k_X7_cut_1 k1 py35_2) ∧ w = [(y 35, .inr (7, o7_rii (y 36) py35_1 py35_2))])) := by
  refine Ct.of (by decide) (Nat.le_of_ble_eq_true rfl) (fun p e s m below meth c A ls hx hb hr hml hown hlk hnm hg hP hK hD hE hA hS hl => ?_)
  have hl : lv_has ls 3 [(0, .ref (y 35)), (1, .long k1)] := hl
  obtain ⟨T0, hT0⟩ : ∃ T9, T9 = F_k_X7_cut_1 k1 py35_2 := ⟨_, rfl⟩
  have hR := hT0.trans (F_k_X7_cut_1.eq_1 ..)
  refine lv_aload_n hx hb dX7_cut_0 rfl (lv_at hl 0 rfl) ?_
  refine va_get (ci := 7) (v := .int py35_2) (C := RX7) (T := TX7) (N := 3) hx hb hg inX7 hown hK hP 0 rfl rfl 2 (by decide) (hg _ q_2_3) (fun _ h9 => h9) rfl dX7_cut_1 ?_
  by_cases c_1 : py35_2 = 0
  · refine lv_tableIn (off := 28) (tgt := 32) hx hb dX7_cut_4 (by rw [c_1]; decide) (by rw [c_1]; decide) (by rw [c_1]; rfl) (by decide) ?_
    replace hR := ti hR c_1
    refine lv_lload_n hx hb dX7_cut_32 rfl (lv_at hl 1 rfl) ?_
    refine lv_l2i hx hb dX7_cut_33 rfl ?_
    refine lv_topi (fun x_2 ex_2 => ?_)
    replace hR := tb hR ex_2
    refine lv_i2b hx hb dX7_cut_34 rfl ?_
    refine lv_topi (fun x_3 ex_3 => ?_)
    replace hR := tb hR ex_3
    refine lv_i2l hx hb dX7_cut_35 rfl ?_
    refine lv_topl (fun j_4 ej_4 => ?_)
    replace hR := tb hR ej_4
    exact fiL hx hb hr hlk hK hP hD hS dX7_cut_36 (Nat.le_of_ble_eq_true rfl) (Nat.le_of_ble_eq_true rfl) (⟨(hR.symm.trans hT0), rfl⟩)
  · replace hR := te hR c_1
    by_cases c_5 : py35_2 = 1
    · refine lv_tableIn (off := 33) (tgt := 37) hx hb dX7_cut_4 (by rw [c_5]; decide) (by rw [c_5]; decide) (by rw [c_5]; rfl) (by decide) ?_
      replace hR := ti hR c_5
      refine lv_lload_n hx hb dX7_cut_37 rfl (lv_at hl 1 rfl) ?_
      refine lv_l2i hx hb dX7_cut_38 rfl ?_
      refine lv_topi (fun x_6 ex_6 => ?_)
      replace hR := tb hR ex_6
      refine lv_i2s hx hb dX7_cut_39 rfl ?_
      refine lv_topi (fun x_7 ex_7 => ?_)
      replace hR := tb hR ex_7
      refine lv_i2l hx hb dX7_cut_40 rfl ?_
      refine lv_topl (fun j_8 ej_8 => ?_)
      replace hR := tb hR ej_8
      exact fiL hx hb hr hlk hK hP hD hS dX7_cut_41 (Nat.le_of_ble_eq_true rfl) (Nat.le_of_ble_eq_true rfl) (⟨(hR.symm.trans hT0), rfl⟩)
    · replace hR := te hR c_5
      by_cases c_9 : py35_2 = 2
      · refine lv_tableIn (off := 38) (tgt := 42) hx hb dX7_cut_4 (by rw [c_9]; decide) (by rw [c_9]; decide) (by rw [c_9]; rfl) (by decide) ?_
        replace hR := ti hR c_9
        refine lv_lload_n hx hb dX7_cut_42 rfl (lv_at hl 1 rfl) ?_
        refine lv_l2i hx hb dX7_cut_43 rfl ?_
        refine lv_topi (fun x_10 ex_10 => ?_)
        replace hR := tb hR ex_10
        refine lv_i2l hx hb dX7_cut_44 rfl ?_
        refine lv_topl (fun j_11 ej_11 => ?_)
        replace hR := tb hR ej_11
        exact fiL hx hb hr hlk hK hP hD hS dX7_cut_45 (Nat.le_of_ble_eq_true rfl) (Nat.le_of_ble_eq_true rfl) (⟨(hR.symm.trans hT0), rfl⟩)
      · replace hR := te hR c_9
        refine lv_tableOut (tgt := 46) hx hb dX7_cut_4 ((Int.lt_or_le py35_2.toInt 0).elim Or.inl (fun c_12 => Or.inr (by simp only [tI_eq, (by decide : (0 : Int32).toInt = 0), (by decide : (1 : Int32).toInt = 1), (by decide : (2 : Int32).toInt = 2)] at c_1 c_5 c_9; omega))) (by decide) ?_
        refine lv_lload_n hx hb dX7_cut_46 rfl (lv_at hl 1 rfl) ?_
        exact fiL hx hb hr hlk hK hP hD hS dX7_cut_47 (Nat.le_of_ble_eq_true rfl) (Nat.le_of_ble_eq_true rfl) (⟨(hR.symm.trans hT0), rfl⟩)
set_option maxRecDepth 100000 in
noncomputable def F_k_X7_cut_2 (k1 : Int64) (py37_2 : Int32) : Int64 := if py37_2 = 0 then (bnd (k1.toInt32 : Int32) fun (x_2 : Int32) => bnd (x_2.toInt8.toInt32 : Int32) fun (x_3 : Int32) => bnd (x_3.toInt64 : Int64) fun (j_4 : Int64) => (j_4)) else (if py37_2 = 1 then (bnd (k1.toInt32 : Int32) fun (x_6 : Int32) => bnd (x_6.toInt16.toInt32 : Int32) fun (x_7 : Int32) => bnd (x_7.toInt64 : Int64) fun (j_8 : Int64) => (j_8)) else (if py37_2 = 2 then (bnd (k1.toInt32 : Int32) fun (x_10 : Int32) => bnd (x_10.toInt64 : Int64) fun (j_11 : Int64) => (j_11)) else ((k1))))
set_option maxHeartbeats 4000000 in
set_option maxRecDepth 100000 in
theorem k_X7_cut_2 (l : Launch) (V : GV) (y : Nat → Nat) (k1 : Int64) (py37_1 : Int32) (py37_2 : Int32) (bpy37_1 : iv (-1) 40 py37_1) : Ct l V yX7_cut (.code yX7_cut cX7_cut 3 (some .long)) 1 [.ref (y 37), .long k1] [(y 37, .inr (7, o7_rii (y 38) py37_1 py37_2))] 0 0 (QL V (fun (r : Int64) (w : va_W) => r = (F_k_X7_cut_2 k1 py37_2) ∧ w = [(y 37, .inr (7, o7_rii (y 38) py37_1 py37_2))])) := by
  refine Ct.of (by decide) (Nat.le_of_ble_eq_true rfl) (fun p e s m below meth c A ls hx hb hr hml hown hlk hnm hg hP hK hD hE hA hS hl => ?_)
  have hl : lv_has ls 3 [(0, .ref (y 37)), (1, .long k1)] := hl
  obtain ⟨T0, hT0⟩ : ∃ T9, T9 = F_k_X7_cut_2 k1 py37_2 := ⟨_, rfl⟩
  have hR := hT0.trans (F_k_X7_cut_2.eq_1 ..)
  refine lv_aload_n hx hb dX7_cut_0 rfl (lv_at hl 0 rfl) ?_
  refine va_get (ci := 7) (v := .int py37_2) (C := RX7) (T := TX7) (N := 3) hx hb hg inX7 hown hK hP 0 rfl rfl 2 (by decide) (hg _ q_2_3) (fun _ h9 => h9) rfl dX7_cut_1 ?_
  by_cases c_1 : py37_2 = 0
  · refine lv_tableIn (off := 28) (tgt := 32) hx hb dX7_cut_4 (by rw [c_1]; decide) (by rw [c_1]; decide) (by rw [c_1]; rfl) (by decide) ?_
    replace hR := ti hR c_1
    refine lv_lload_n hx hb dX7_cut_32 rfl (lv_at hl 1 rfl) ?_
    refine lv_l2i hx hb dX7_cut_33 rfl ?_
    refine lv_topi (fun x_2 ex_2 => ?_)
    replace hR := tb hR ex_2
    refine lv_i2b hx hb dX7_cut_34 rfl ?_
    refine lv_topi (fun x_3 ex_3 => ?_)
    replace hR := tb hR ex_3
    refine lv_i2l hx hb dX7_cut_35 rfl ?_
    refine lv_topl (fun j_4 ej_4 => ?_)
    replace hR := tb hR ej_4
    exact fiL hx hb hr hlk hK hP hD hS dX7_cut_36 (Nat.le_of_ble_eq_true rfl) (Nat.le_of_ble_eq_true rfl) (⟨(hR.symm.trans hT0), rfl⟩)
  · replace hR := te hR c_1
    by_cases c_5 : py37_2 = 1
    · refine lv_tableIn (off := 33) (tgt := 37) hx hb dX7_cut_4 (by rw [c_5]; decide) (by rw [c_5]; decide) (by rw [c_5]; rfl) (by decide) ?_
      replace hR := ti hR c_5
      refine lv_lload_n hx hb dX7_cut_37 rfl (lv_at hl 1 rfl) ?_
      refine lv_l2i hx hb dX7_cut_38 rfl ?_
      refine lv_topi (fun x_6 ex_6 => ?_)
      replace hR := tb hR ex_6
      refine lv_i2s hx hb dX7_cut_39 rfl ?_
      refine lv_topi (fun x_7 ex_7 => ?_)
      replace hR := tb hR ex_7
      refine lv_i2l hx hb dX7_cut_40 rfl ?_
      refine lv_topl (fun j_8 ej_8 => ?_)
      replace hR := tb hR ej_8
      exact fiL hx hb hr hlk hK hP hD hS dX7_cut_41 (Nat.le_of_ble_eq_true rfl) (Nat.le_of_ble_eq_true rfl) (⟨(hR.symm.trans hT0), rfl⟩)
    · replace hR := te hR c_5
      by_cases c_9 : py37_2 = 2
      · refine lv_tableIn (off := 38) (tgt := 42) hx hb dX7_cut_4 (by rw [c_9]; decide) (by rw [c_9]; decide) (by rw [c_9]; rfl) (by decide) ?_
        replace hR := ti hR c_9
        refine lv_lload_n hx hb dX7_cut_42 rfl (lv_at hl 1 rfl) ?_
        refine lv_l2i hx hb dX7_cut_43 rfl ?_
        refine lv_topi (fun x_10 ex_10 => ?_)
        replace hR := tb hR ex_10
        refine lv_i2l hx hb dX7_cut_44 rfl ?_
        refine lv_topl (fun j_11 ej_11 => ?_)
        replace hR := tb hR ej_11
        exact fiL hx hb hr hlk hK hP hD hS dX7_cut_45 (Nat.le_of_ble_eq_true rfl) (Nat.le_of_ble_eq_true rfl) (⟨(hR.symm.trans hT0), rfl⟩)
      · replace hR := te hR c_9
        refine lv_tableOut (tgt := 46) hx hb dX7_cut_4 ((Int.lt_or_le py37_2.toInt 0).elim Or.inl (fun c_12 => Or.inr (by simp only [tI_eq, (by decide : (0 : Int32).toInt = 0), (by decide : (1 : Int32).toInt = 1), (by decide : (2 : Int32).toInt = 2)] at c_1 c_5 c_9; omega))) (by decide) ?_
        refine lv_lload_n hx hb dX7_cut_46 rfl (lv_at hl 1 rfl) ?_
        exact fiL hx hb hr hlk hK hP hD hS dX7_cut_47 (Nat.le_of_ble_eq_true rfl) (Nat.le_of_ble_eq_true rfl) (⟨(hR.symm.trans hT0), rfl⟩)
set_option maxRecDepth 100000 in
noncomputable def F_k_X7_cut_3 (k1 : Int64) (py39_2 : Int32) : Int64 := if py39_2 = 0 then (bnd (k1.toInt32 : Int32) fun (x_2 : Int32) => bnd (x_2.toInt8.toInt32 : Int32) fun (x_3 : Int32) => bnd (x_3.toInt64 : Int64) fun (j_4 : Int64) => (j_4)) else (if py39_2 = 1 then (bnd (k1.toInt32 : Int32) fun (x_6 : Int32) => bnd (x_6.toInt16.toInt32 : Int32) fun (x_7 : Int32) => bnd (x_7.toInt64 : Int64) fun (j_8 : Int64) => (j_8)) else (if py39_2 = 2 then (bnd (k1.toInt32 : Int32) fun (x_10 : Int32) => bnd (x_10.toInt64 : Int64) fun (j_11 : Int64) => (j_11)) else ((k1))))
set_option maxHeartbeats 4000000 in
set_option maxRecDepth 100000 in
theorem k_X7_cut_3 (l : Launch) (V : GV) (y : Nat → Nat) (k1 : Int64) (py39_1 : Int32) (py39_2 : Int32) (bpy39_1 : iv (-1) 40 py39_1) : Ct l V yX7_cut (.code yX7_cut cX7_cut 3 (some .long)) 1 [.ref (y 39), .long k1] [(y 39, .inr (7, o7_rii (y 40) py39_1 py39_2))] 0 0 (QL V (fun (r : Int64) (w : va_W) => r = (F_k_X7_cut_3 k1 py39_2) ∧ w = [(y 39, .inr (7, o7_rii (y 40) py39_1 py39_2))])) := by
  refine Ct.of (by decide) (Nat.le_of_ble_eq_true rfl) (fun p e s m below meth c A ls hx hb hr hml hown hlk hnm hg hP hK hD hE hA hS hl => ?_)
  have hl : lv_has ls 3 [(0, .ref (y 39)), (1, .long k1)] := hl
  obtain ⟨T0, hT0⟩ : ∃ T9, T9 = F_k_X7_cut_3 k1 py39_2 := ⟨_, rfl⟩
  have hR := hT0.trans (F_k_X7_cut_3.eq_1 ..)
  refine lv_aload_n hx hb dX7_cut_0 rfl (lv_at hl 0 rfl) ?_
  refine va_get (ci := 7) (v := .int py39_2) (C := RX7) (T := TX7) (N := 3) hx hb hg inX7 hown hK hP 0 rfl rfl 2 (by decide) (hg _ q_2_3) (fun _ h9 => h9) rfl dX7_cut_1 ?_
  by_cases c_1 : py39_2 = 0
  · refine lv_tableIn (off := 28) (tgt := 32) hx hb dX7_cut_4 (by rw [c_1]; decide) (by rw [c_1]; decide) (by rw [c_1]; rfl) (by decide) ?_
    replace hR := ti hR c_1
    refine lv_lload_n hx hb dX7_cut_32 rfl (lv_at hl 1 rfl) ?_
    refine lv_l2i hx hb dX7_cut_33 rfl ?_
    refine lv_topi (fun x_2 ex_2 => ?_)
    replace hR := tb hR ex_2
    refine lv_i2b hx hb dX7_cut_34 rfl ?_
    refine lv_topi (fun x_3 ex_3 => ?_)
    replace hR := tb hR ex_3
    refine lv_i2l hx hb dX7_cut_35 rfl ?_
    refine lv_topl (fun j_4 ej_4 => ?_)
    replace hR := tb hR ej_4
    exact fiL hx hb hr hlk hK hP hD hS dX7_cut_36 (Nat.le_of_ble_eq_true rfl) (Nat.le_of_ble_eq_true rfl) (⟨(hR.symm.trans hT0), rfl⟩)
  · replace hR := te hR c_1
    by_cases c_5 : py39_2 = 1
    · refine lv_tableIn (off := 33) (tgt := 37) hx hb dX7_cut_4 (by rw [c_5]; decide) (by rw [c_5]; decide) (by rw [c_5]; rfl) (by decide) ?_
      replace hR := ti hR c_5
      refine lv_lload_n hx hb dX7_cut_37 rfl (lv_at hl 1 rfl) ?_
      refine lv_l2i hx hb dX7_cut_38 rfl ?_
      refine lv_topi (fun x_6 ex_6 => ?_)
      replace hR := tb hR ex_6
      refine lv_i2s hx hb dX7_cut_39 rfl ?_
      refine lv_topi (fun x_7 ex_7 => ?_)
      replace hR := tb hR ex_7
      refine lv_i2l hx hb dX7_cut_40 rfl ?_
      refine lv_topl (fun j_8 ej_8 => ?_)
      replace hR := tb hR ej_8
      exact fiL hx hb hr hlk hK hP hD hS dX7_cut_41 (Nat.le_of_ble_eq_true rfl) (Nat.le_of_ble_eq_true rfl) (⟨(hR.symm.trans hT0), rfl⟩)
    · replace hR := te hR c_5
      by_cases c_9 : py39_2 = 2
      · refine lv_tableIn (off := 38) (tgt := 42) hx hb dX7_cut_4 (by rw [c_9]; decide) (by rw [c_9]; decide) (by rw [c_9]; rfl) (by decide) ?_
        replace hR := ti hR c_9
        refine lv_lload_n hx hb dX7_cut_42 rfl (lv_at hl 1 rfl) ?_
        refine lv_l2i hx hb dX7_cut_43 rfl ?_
        refine lv_topi (fun x_10 ex_10 => ?_)
        replace hR := tb hR ex_10
        refine lv_i2l hx hb dX7_cut_44 rfl ?_
        refine lv_topl (fun j_11 ej_11 => ?_)
        replace hR := tb hR ej_11
        exact fiL hx hb hr hlk hK hP hD hS dX7_cut_45 (Nat.le_of_ble_eq_true rfl) (Nat.le_of_ble_eq_true rfl) (⟨(hR.symm.trans hT0), rfl⟩)
      · replace hR := te hR c_9
        refine lv_tableOut (tgt := 46) hx hb dX7_cut_4 ((Int.lt_or_le py39_2.toInt 0).elim Or.inl (fun c_12 => Or.inr (by simp only [tI_eq, (by decide : (0 : Int32).toInt = 0), (by decide : (1 : Int32).toInt = 1), (by decide : (2 : Int32).toInt = 2)] at c_1 c_5 c_9; omega))) (by decide) ?_
        refine lv_lload_n hx hb dX7_cut_46 rfl (lv_at hl 1 rfl) ?_
        exact fiL hx hb hr hlk hK hP hD hS dX7_cut_47 (Nat.le_of_ble_eq_true rfl) (Nat.le_of_ble_eq_true rfl) (⟨(hR.symm.trans hT0), rfl⟩)
theorem dX9_write_0 : decode cX9_write 0 = .ok (.iload_n 1, 1) := by decide +kernel
theorem dX9_write_1 : decode cX9_write 1 = .ok (.invokestatic 205, 3) := by decide +kernel
theorem dX9_write_4 : decode cX9_write 4 = .ok (.ifCond .ne 7, 3) := by decide +kernel
theorem q_4_162 : Cond.constantLong "BeaconDelay" 268 (-2 : Int64) ∈ gw := gw_4 (i := 162) (by decide +kernel) rfl
theorem dX9_write_7 : decode cX9_write 7 = .ok (.ldc2_w 268, 3) := by decide +kernel
theorem dX9_write_10 : decode cX9_write 10 = .ok (.lreturn, 1) := by decide +kernel
theorem dX9_write_11 : decode cX9_write 11 = .ok (.aload_n 0, 1) := by decide +kernel
theorem dX9_write_12 : decode cX9_write 12 = .ok (.getfield 54, 3) := by decide +kernel
theorem dX9_write_15 : decode cX9_write 15 = .ok (.iload_n 1, 1) := by decide +kernel
theorem dX9_write_16 : decode cX9_write 16 = .ok (.aaload, 1) := by decide +kernel
theorem dX9_write_17 : decode cX9_write 17 = .ok (.astore 5, 2) := by decide +kernel
theorem dX9_write_19 : decode cX9_write 19 = .ok (.aload 5, 2) := by decide +kernel
theorem dX9_write_21 : decode cX9_write 21 = .ok (.invokevirtual 208, 3) := by decide +kernel
theorem dX9_write_24 : decode cX9_write 24 = .ok (.ifCond .eq 7, 3) := by decide +kernel
theorem dX9_write_31 : decode cX9_write 31 = .ok (.iload_n 2, 1) := by decide +kernel
theorem dX9_write_32 : decode cX9_write 32 = .ok (.ifCond .lt 12, 3) := by decide +kernel
theorem q_5_189 : Cond.constantLong "BeaconDelay" 387 (-7 : Int64) ∈ gw := gw_5 (i := 189) (by decide +kernel) rfl
theorem dX9_write_44 : decode cX9_write 44 = .ok (.ldc2_w 387, 3) := by decide +kernel
theorem dX9_write_47 : decode cX9_write 47 = .ok (.lreturn, 1) := by decide +kernel
theorem dX9_write_35 : decode cX9_write 35 = .ok (.iload_n 2, 1) := by decide +kernel
theorem dX9_write_36 : decode cX9_write 36 = .ok (.aload 5, 2) := by decide +kernel
theorem dX9_write_38 : decode cX9_write 38 = .ok (.getfield 200, 3) := by decide +kernel
theorem dX9_write_41 : decode cX9_write 41 = .ok (.if_icmp .lt 7, 3) := by decide +kernel
theorem dX9_write_48 : decode cX9_write 48 = .ok (.aload 5, 2) := by decide +kernel
theorem dX9_write_50 : decode cX9_write 50 = .ok (.getfield 201, 3) := by decide +kernel
theorem dX9_write_53 : decode cX9_write 53 = .ok (.iload_n 2, 1) := by decide +kernel
theorem dX9_write_54 : decode cX9_write 54 = .ok (.aload 5, 2) := by decide +kernel
theorem dX9_write_56 : decode cX9_write 56 = .ok (.lload_n 3, 1) := by decide +kernel
theorem q_5_193 : Cond.code yX7_cut prog_9_method_4_code 3 (some FieldType.long) ∈ gw := gw_5 (i := 193) (rfl) rfl
theorem q_5_191 : Cond.instanceMethod yX7_cut ∈ gw := gw_5 (i := 191) (by decide +kernel) rfl
theorem q_5_192 : Cond.selects "BeaconDelay$Tray" yX7_cut yX7_cut ∈ gw := gw_5 (i := 192) (by decide +kernel) rfl
theorem mt_X7_cut : MtV yX7_cut cX7_cut 3 (some .long) 1 := ⟨⟨q_5_193, q_1_7, by decide +kernel, by decide +kernel, by decide +kernel⟩, q_5_191, q_5_192⟩
theorem q_5_190 : Cond.methodLink "BeaconDelay" 389 yX7_cut ∈ gw := gw_5 (i := 190) (by decide +kernel) rfl
theorem dX9_write_57 : decode cX9_write 57 = .ok (.invokevirtual 389, 3) := by decide +kernel
theorem dX9_write_60 : decode cX9_write 60 = .ok (.lastore, 1) := by decide +kernel
theorem dX9_write_61 : decode cX9_write 61 = .ok (.aload 5, 2) := by decide +kernel
theorem dX9_write_63 : decode cX9_write 63 = .ok (.getfield 201, 3) := by decide +kernel
theorem dX9_write_66 : decode cX9_write 66 = .ok (.iload_n 2, 1) := by decide +kernel
theorem dX9_write_67 : decode cX9_write 67 = .ok (.laload, 1) := by decide +kernel
theorem dX9_write_68 : decode cX9_write 68 = .ok (.lreturn, 1) := by decide +kernel
theorem q_5_188 : Cond.constantLong "BeaconDelay" 385 (-6 : Int64) ∈ gw := gw_5 (i := 188) (by decide +kernel) rfl
theorem dX9_write_27 : decode cX9_write 27 = .ok (.ldc2_w 385, 3) := by decide +kernel
theorem dX9_write_30 : decode cX9_write 30 = .ok (.lreturn, 1) := by decide +kernel
set_option maxRecDepth 100000 in
noncomputable def F_k_X9_write_0 (a1 : Int32) (a2 : Int32) (k3 : Int64) (py33_1 : Int32) (py33_2 : Int32) (fy34 : Nat → Int64) (py35_1 : Int32) (py35_2 : Int32) (fy36 : Nat → Int64) (py37_1 : Int32) (py37_2 : Int32) (fy38 : Nat → Int64) (py39_1 : Int32) (py39_2 : Int32) (fy40 : Nat → Int64) : Int64 × (Nat → Int64) × (Nat → Int64) × (Nat → Int64) × (Nat → Int64) := if F_k_X9_isTray_0 a1 = 0 then ((((-2) : Int64), fy34, fy36, fy38, fy40)) else (if F_k_X9_isTray_0 a1 = 1 then ((((-2) : Int64), fy34, fy36, fy38, fy40)) else (if a1 = 0 then (if F_k_X7_isMissing_0 py33_1 = 0 then (if a2 < (0 : Int32) then ((((-7) : Int64), fy34, fy36, fy38, fy40)) else (if a2 < py33_1 then (bnd (F_k_X7_cut_0 k3 py33_2 : Int64) fun (r_36 : Int64) => bnd ((vp_updL fy34 (a2 : Int32).toNatClampNeg r_36) : Nat → Int64) fun (f_39 : Nat → Int64) => bnd (f_39 (a2 : Int32).toNatClampNeg : Int64) fun (j_40 : Int64) => (j_40, f_39, fy36, fy38, fy40)) else ((((-7) : Int64), fy34, fy36, fy38, fy40)))) else ((((-6) : Int64), fy34, fy36, fy38, fy40))) else (if a1 = 1 then (if F_k_X7_isMissing_1 py35_1 = 0 then (if a2 < (0 : Int32) then ((((-7) : Int64), fy34, fy36, fy38, fy40)) else (if a2 < py35_1 then (bnd (F_k_X7_cut_1 k3 py35_2 : Int64) fun (r_58 : Int64) => bnd ((vp_updL fy36 (a2 : Int32).toNatClampNeg r_58) : Nat → Int64) fun (f_61 : Nat → Int64) => bnd (f_61 (a2 : Int32).toNatClampNeg : Int64) fun (j_62 : Int64) => (j_62, fy34, f_61, fy38, fy40)) else ((((-7) : Int64), fy34, fy36, fy38, fy40)))) else ((((-6) : Int64), fy34, fy36, fy38, fy40))) else (if a1 = 2 then (if F_k_X7_isMissing_2 py37_1 = 0 then (if a2 < (0 : Int32) then ((((-7) : Int64), fy34, fy36, fy38, fy40)) else (if a2 < py37_1 then (bnd (F_k_X7_cut_2 k3 py37_2 : Int64) fun (r_80 : Int64) => bnd ((vp_updL fy38 (a2 : Int32).toNatClampNeg r_80) : Nat → Int64) fun (f_83 : Nat → Int64) => bnd (f_83 (a2 : Int32).toNatClampNeg : Int64) fun (j_84 : Int64) => (j_84, fy34, fy36, f_83, fy40)) else ((((-7) : Int64), fy34, fy36, fy38, fy40)))) else ((((-6) : Int64), fy34, fy36, fy38, fy40))) else (if F_k_X7_isMissing_3 py39_1 = 0 then (if a2 < (0 : Int32) then ((((-7) : Int64), fy34, fy36, fy38, fy40)) else (if a2 < py39_1 then (bnd (F_k_X7_cut_3 k3 py39_2 : Int64) fun (r_102 : Int64) => bnd ((vp_updL fy40 (a2 : Int32).toNatClampNeg r_102) : Nat → Int64) fun (f_105 : Nat → Int64) => bnd (f_105 (a2 : Int32).toNatClampNeg : Int64) fun (j_106 : Int64) => (j_106, fy34, fy36, fy38, f_105)) else ((((-7) : Int64), fy34, fy36, fy38, fy40)))) else ((((-6) : Int64), fy34, fy36, fy38, fy40)))))))
set_option maxHeartbeats 4000000 in
set_option maxRecDepth 100000 in
theorem k_X9_write_0 (l : Launch) (V : GV) (y : Nat → Nat) (a1 : Int32) (a2 : Int32) (k3 : Int64) (py0_1 : Int32) (o10 : Value) (o11 : Value) (py0_12 : Int32) (py0_13 : Int32) (py0_14 : Int32) (py33_1 : Int32) (py33_2 : Int32) (fy34 : Nat → Int64) (py35_1 : Int32) (py35_2 : Int32) (fy36 : Nat → Int64) (py37_1 : Int32) (py37_2 : Int32) (fy38 : Nat → Int64) (py39_1 : Int32) (py39_2 : Int32) (fy40 : Nat → Int64) (bpy0_1 : iv 0 900 py0_1) (bpy0_12 : iv 0 9999 py0_12) (bpy0_13 : iv 0 9 py0_13) (bpy33_1 : iv (-1) 40 py33_1) (bpy35_1 : iv (-1) 40 py35_1) (bpy37_1 : iv (-1) 40 py37_1) (bpy39_1 : iv (-1) 40 py39_1) : Ct l V yX9_write (.code yX9_write cX9_write 6 (some .long)) 2 [.ref (y 0), .int a1, .int a2, .long k3] [(y 0, .inr (9, o9_rirrrrrrrrvviii (y 1) py0_1 (y 2) (y 10) (y 19) (y 25) (y 26) (y 30) (y 31) (y 32) o10 o11 py0_12 py0_13 py0_14)), (y 30, aT V 4 (va_up (va_up (va_up (va_up (fun _ => none) 0 (some (y 33))) 1 (some (y 35))) 2 (some (y 37))) 3 (some (y 39)))), (y 33, .inr (7, o7_rii (y 34) py33_1 py33_2)), (y 34, aJ V 40 fy34), (y 35, .inr (7, o7_rii (y 36) py35_1 py35_2)), (y 36, aJ V 40 fy36), (y 37, .inr (7, o7_rii (y 38) py37_1 py37_2)), (y 38, aJ V 40 fy38), (y 39, .inr (7, o7_rii (y 40) py39_1 py39_2)), (y 40, aJ V 40 fy40)] 0 0 (QL V (fun (r : Int64) (w : va_W) => ∃ (g0 : Nat → Int64) (g1 : Nat → Int64) (g2 : Nat → Int64) (g3 : Nat → Int64), r = (F_k_X9_write_0 a1 a2 k3 py33_1 py33_2 fy34 py35_1 py35_2 fy36 py37_1 py37_2 fy38 py39_1 py39_2 fy40).1 ∧ g0 = (F_k_X9_write_0 a1 a2 k3 py33_1 py33_2 fy34 py35_1 py35_2 fy36 py37_1 py37_2 fy38 py39_1 py39_2 fy40).2.1 ∧ g1 = (F_k_X9_write_0 a1 a2 k3 py33_1 py33_2 fy34 py35_1 py35_2 fy36 py37_1 py37_2 fy38 py39_1 py39_2 fy40).2.2.1 ∧ g2 = (F_k_X9_write_0 a1 a2 k3 py33_1 py33_2 fy34 py35_1 py35_2 fy36 py37_1 py37_2 fy38 py39_1 py39_2 fy40).2.2.2.1 ∧ g3 = (F_k_X9_write_0 a1 a2 k3 py33_1 py33_2 fy34 py35_1 py35_2 fy36 py37_1 py37_2 fy38 py39_1 py39_2 fy40).2.2.2.2 ∧ w = [(y 0, .inr (9, o9_rirrrrrrrrvviii (y 1) py0_1 (y 2) (y 10) (y 19) (y 25) (y 26) (y 30) (y 31) (y 32) o10 o11 py0_12 py0_13 py0_14)), (y 30, aT V 4 (va_up (va_up (va_up (va_up (fun _ => none) 0 (some (y 33))) 1 (some (y 35))) 2 (some (y 37))) 3 (some (y 39)))), (y 33, .inr (7, o7_rii (y 34) py33_1 py33_2)), (y 34, aJ V 40 g0), (y 35, .inr (7, o7_rii (y 36) py35_1 py35_2)), (y 36, aJ V 40 g1), (y 37, .inr (7, o7_rii (y 38) py37_1 py37_2)), (y 38, aJ V 40 g2), (y 39, .inr (7, o7_rii (y 40) py39_1 py39_2)), (y 40, aJ V 40 g3)])) := by
  refine Ct.of (by decide) (Nat.le_of_ble_eq_true rfl) (fun p e s m below meth c A ls hx hb hr hml hown hlk hnm hg hP hK hD hE hA hS hl => ?_)
  have hl : lv_has ls 6 [(0, .ref (y 0)), (1, .int a1), (2, .int a2), (3, .long k3)] := hl
  obtain ⟨T0, hT0⟩ : ∃ T9, T9 = F_k_X9_write_0 a1 a2 k3 py33_1 py33_2 fy34 py35_1 py35_2 fy36 py37_1 py37_2 fy38 py39_1 py39_2 fy40 := ⟨_, rfl⟩
  have hR := hT0.trans (F_k_X9_write_0.eq_1 ..)
  refine lv_iload_n hx hb dX9_write_0 rfl (lv_at hl 1 rfl) ?_
  refine jnI (wr := [(y 0, .inr (9, o9_rirrrrrrrrvviii (y 1) py0_1 (y 2) (y 10) (y 19) (y 25) (y 26) (y 30) (y 31) (y 32) o10 o11 py0_12 py0_13 py0_14)), (y 30, aT V 4 (va_up (va_up (va_up (va_up (fun _ => none) 0 (some (y 33))) 1 (some (y 35))) 2 (some (y 37))) 3 (some (y 39)))), (y 33, .inr (7, o7_rii (y 34) py33_1 py33_2)), (y 34, aJ V 40 fy34), (y 35, .inr (7, o7_rii (y 36) py35_1 py35_2)), (y 36, aJ V 40 fy36), (y 37, .inr (7, o7_rii (y 38) py37_1 py37_2)), (y 38, aJ V 40 fy38), (y 39, .inr (7, o7_rii (y 40) py39_1 py39_2)), (y 40, aJ V 40 fy40)]) (rnS (rest := []) ⟨hx, hb, hml, hown, hg⟩ (k_X9_isTray_0 l V a1) mt_X9_isTray q_3_228 ⟨Nat.le_of_ble_eq_true rfl, Nat.le_of_ble_eq_true rfl⟩ hK hP hD hS hA hE [] rfl rfl rfl hl.1 rfl (Nat.le_of_ble_eq_true rfl) dX9_write_1 ⟨Nat.le_of_ble_eq_true rfl, Nat.le_of_ble_eq_true rfl⟩) hP hD hS hA [] [0, 1, 2, 3, 4, 5, 6, 7, 8, 9] rfl rfl rfl (by decide) (fun r_1 w H locs hw hP hD hS => ?_)
  rcases hw with ⟨c_2, rfl, et_3, rfl⟩ | ⟨c_4, c_5, rfl, et_6, rfl⟩ | ⟨c_7, c_8, rfl, et_9, rfl⟩
  · have hP : va_P V.1 vwCl [(y 0, .inr (9, o9_rirrrrrrrrvviii (y 1) py0_1 (y 2) (y 10) (y 19) (y 25) (y 26) (y 30) (y 31) (y 32) o10 o11 py0_12 py0_13 py0_14)), (y 30, aT V 4 (va_up (va_up (va_up (va_up (fun _ => none) 0 (some (y 33))) 1 (some (y 35))) 2 (some (y 37))) 3 (some (y 39)))), (y 33, .inr (7, o7_rii (y 34) py33_1 py33_2)), (y 34, aJ V 40 fy34), (y 35, .inr (7, o7_rii (y 36) py35_1 py35_2)), (y 36, aJ V 40 fy36), (y 37, .inr (7, o7_rii (y 38) py37_1 py37_2)), (y 38, aJ V 40 fy38), (y 39, .inr (7, o7_rii (y 40) py39_1 py39_2)), (y 40, aJ V 40 fy40)] H := hP
    have hD := cpD hP hD
    replace hR := ti hR et_3.symm
    have b_10 : iv (-2147483648) (-1) a1 := iv_l1 c_2 (iv_top a1) (iv_c (0 : Int32) (a := 0) (b := 0) (by decide)) (by decide)
    refine lv_if_ne (tgt := 11) hx hb dX9_write_4 (by decide) (fun c_12 => absurd c_12 (by decide)) (fun _ => ?_)
    refine lv_ldc2 (v := (-2)) hx hb hown (hg _ q_4_162) dX9_write_7 ?_
    exact fiL hx hb hr hlk hK hP hD hS dX9_write_10 (Nat.le_of_ble_eq_true rfl) (Nat.le_of_ble_eq_true rfl) (⟨fy34, fy36, fy38, fy40, (congrArg Prod.fst (hR.symm.trans hT0)), (congrArg Prod.fst (congrArg Prod.snd (hR.symm.trans hT0))), (congrArg Prod.fst (congrArg Prod.snd (congrArg Prod.snd (hR.symm.trans hT0)))), (congrArg Prod.fst (congrArg Prod.snd (congrArg Prod.snd (congrArg Prod.snd (hR.symm.trans hT0))))), (congrArg Prod.snd (congrArg Prod.snd (congrArg Prod.snd (congrArg Prod.snd (hR.symm.trans hT0))))), rfl⟩)
  · have hP : va_P V.1 vwCl [(y 0, .inr (9, o9_rirrrrrrrrvviii (y 1) py0_1 (y 2) (y 10) (y 19) (y 25) (y 26) (y 30) (y 31) (y 32) o10 o11 py0_12 py0_13 py0_14)), (y 30, aT V 4 (va_up (va_up (va_up (va_up (fun _ => none) 0 (some (y 33))) 1 (some (y 35))) 2 (some (y 37))) 3 (some (y 39)))), (y 33, .inr (7, o7_rii (y 34) py33_1 py33_2)), (y 34, aJ V 40 fy34), (y 35, .inr (7, o7_rii (y 36) py35_1 py35_2)), (y 36, aJ V 40 fy36), (y 37, .inr (7, o7_rii (y 38) py37_1 py37_2)), (y 38, aJ V 40 fy38), (y 39, .inr (7, o7_rii (y 40) py39_1 py39_2)), (y 40, aJ V 40 fy40)] H := hP
    have hD := cpD hP hD
    replace hR := te hR (by rw [← et_6]; decide)
    replace hR := ti hR et_6.symm
    have b_13 : iv 0 2147483647 a1 := iv_e2 (Int32.not_lt.mp c_4) (iv_c (0 : Int32) (a := 0) (b := 0) (by decide)) (iv_top a1) (by decide)
    have b_14 : iv 4 2147483647 a1 := iv_e2 c_5 (iv_c (4 : Int32) (a := 4) (b := 4) (by decide)) b_13 (by decide)
    refine lv_if_ne (tgt := 11) hx hb dX9_write_4 (by decide) (fun c_16 => absurd c_16 (by decide)) (fun _ => ?_)
    refine lv_ldc2 (v := (-2)) hx hb hown (hg _ q_4_162) dX9_write_7 ?_
    exact fiL hx hb hr hlk hK hP hD hS dX9_write_10 (Nat.le_of_ble_eq_true rfl) (Nat.le_of_ble_eq_true rfl) (⟨fy34, fy36, fy38, fy40, (congrArg Prod.fst (hR.symm.trans hT0)), (congrArg Prod.fst (congrArg Prod.snd (hR.symm.trans hT0))), (congrArg Prod.fst (congrArg Prod.snd (congrArg Prod.snd (hR.symm.trans hT0)))), (congrArg Prod.fst (congrArg Prod.snd (congrArg Prod.snd (congrArg Prod.snd (hR.symm.trans hT0))))), (congrArg Prod.snd (congrArg Prod.snd (congrArg Prod.snd (congrArg Prod.snd (hR.symm.trans hT0))))), rfl⟩)
  · have hP : va_P V.1 vwCl [(y 0, .inr (9, o9_rirrrrrrrrvviii (y 1) py0_1 (y 2) (y 10) (y 19) (y 25) (y 26) (y 30) (y 31) (y 32) o10 o11 py0_12 py0_13 py0_14)), (y 30, aT V 4 (va_up (va_up (va_up (va_up (fun _ => none) 0 (some (y 33))) 1 (some (y 35))) 2 (some (y 37))) 3 (some (y 39)))), (y 33, .inr (7, o7_rii (y 34) py33_1 py33_2)), (y 34, aJ V 40 fy34), (y 35, .inr (7, o7_rii (y 36) py35_1 py35_2)), (y 36, aJ V 40 fy36), (y 37, .inr (7, o7_rii (y 38) py37_1 py37_2)), (y 38, aJ V 40 fy38), (y 39, .inr (7, o7_rii (y 40) py39_1 py39_2)), (y 40, aJ V 40 fy40)] H := hP
    have hD := cpD hP hD
    replace hR := te hR (by rw [← et_9]; decide)
    replace hR := te hR (by rw [← et_9]; decide)
    have b_17 : iv 0 2147483647 a1 := iv_e2 (Int32.not_lt.mp c_7) (iv_c (0 : Int32) (a := 0) (b := 0) (by decide)) (iv_top a1) (by decide)
    have b_18 : iv 0 3 a1 := iv_l1 (Int32.not_le.mp c_8) b_17 (iv_c (4 : Int32) (a := 4) (b := 4) (by decide)) (by decide)
    refine lv_if_ne (tgt := 11) hx hb dX9_write_4 (by decide) (fun _ => ?_) (fun c_20 => absurd c_20 (by decide))
    refine lv_aload_n hx hb dX9_write_11 rfl (lv_at hl 0 rfl) ?_
    refine va_get (ci := 9) (v := .ref (y 30)) (C := RX9) (T := TX9) (N := 15) hx hb hg inX9 hown hK hP 0 rfl rfl 7 (by decide) (hg _ q_2_43) (fun _ h9 => h9) rfl dX9_write_12 ?_
    refine lv_iload_n hx hb dX9_write_15 rfl (lv_at hl 1 rfl) ?_
    have c_21 : a1 = 0 ∨ a1 = 1 ∨ a1 = 2 ∨ a1 = 3 := by have q9 := b_18; unfold iv at q9; simp only [tI_eq, (by decide : (0 : Int32).toInt = 0), (by decide : (1 : Int32).toInt = 1), (by decide : (2 : Int32).toInt = 2), (by decide : (3 : Int32).toInt = 3)]; omega
    rcases c_21 with rfl | rfl | rfl | rfl
    · replace hR := ti hR rfl
      refine va_aldq hx hb hK hP 1 4 rfl rfl (vin (by decide +kernel)) dX9_write_16 ?_
      refine W.eq (g2 := F0 m 17 ls (.ref (y 33) :: [])) rfl ?_
      refine lv_astore (lv' := [(5, .ref (y 33)), (0, .ref (y 0)), (1, .int 0), (2, .int a2), (3, .long k3)]) hx hb dX9_write_17 hl (by decide) rfl (fun ls hl => ?_)
      refine lv_aload hx hb dX9_write_19 (lv_at hl 0 rfl) ?_
      refine jnI (wr := [(y 0, .inr (9, o9_rirrrrrrrrvviii (y 1) py0_1 (y 2) (y 10) (y 19) (y 25) (y 26) (y 30) (y 31) (y 32) o10 o11 py0_12 py0_13 py0_14)), (y 30, aT V 4 (va_up (va_up (va_up (va_up (fun _ => none) 0 (some (y 33))) 1 (some (y 35))) 2 (some (y 37))) 3 (some (y 39)))), (y 34, aJ V 40 fy34), (y 35, .inr (7, o7_rii (y 36) py35_1 py35_2)), (y 36, aJ V 40 fy36), (y 37, .inr (7, o7_rii (y 38) py37_1 py37_2)), (y 38, aJ V 40 fy38), (y 39, .inr (7, o7_rii (y 40) py39_1 py39_2)), (y 40, aJ V 40 fy40)]) (rnV (rest := []) ⟨hx, hb, hml, hown, hg⟩ (k_X7_isMissing_0 l V y py33_1 py33_2 bpy33_1) mt_X7_isMissing q_3_231 ⟨Nat.le_of_ble_eq_true rfl, Nat.le_of_ble_eq_true rfl⟩ hK hP hD hS hA hE [2] rfl rfl 2 rfl rfl rfl rfl hl.1 rfl (Nat.le_of_ble_eq_true rfl) dX9_write_21 ⟨Nat.le_of_ble_eq_true rfl, Nat.le_of_ble_eq_true rfl⟩) hP hD hS hA [2] [0, 1, 3, 4, 5, 6, 7, 8, 9] rfl rfl rfl (by decide) (fun r_22 w H locs hw hP hD hS => ?_)
      rcases hw with ⟨c_23, rfl, et_24, rfl⟩ | ⟨c_25, rfl, et_26, rfl⟩
      · have hP : va_P V.1 vwCl [(y 0, .inr (9, o9_rirrrrrrrrvviii (y 1) py0_1 (y 2) (y 10) (y 19) (y 25) (y 26) (y 30) (y 31) (y 32) o10 o11 py0_12 py0_13 py0_14)), (y 30, aT V 4 (va_up (va_up (va_up (va_up (fun _ => none) 0 (some (y 33))) 1 (some (y 35))) 2 (some (y 37))) 3 (some (y 39)))), (y 34, aJ V 40 fy34), (y 35, .inr (7, o7_rii (y 36) py35_1 py35_2)), (y 36, aJ V 40 fy36), (y 37, .inr (7, o7_rii (y 38) py37_1 py37_2)), (y 38, aJ V 40 fy38), (y 39, .inr (7, o7_rii (y 40) py39_1 py39_2)), (y 40, aJ V 40 fy40), (y 33, .inr (7, o7_rii (y 34) py33_1 py33_2))] H := hP
        have hD := cpD hP hD
        replace hR := ti hR et_24.symm
        have b_27 : iv 0 40 py33_1 := iv_e2 c_23 (iv_c (0 : Int32) (a := 0) (b := 0) (by decide)) bpy33_1 (by decide)
        refine lv_if_eq (tgt := 31) hx hb dX9_write_24 (by decide) (fun _ => ?_) (fun c_29 => absurd c_29 (by decide))
        refine lv_iload_n hx hb dX9_write_31 rfl (lv_at hl 3 rfl) ?_
        refine lv_if_lt (tgt := 44) hx hb dX9_write_32 (by decide) (fun c_30 => ?_) (fun c_30 => ?_)
        · replace hR := ti hR c_30
          have b_31 : iv (-2147483648) (-1) a2 := iv_l1 c_30 (iv_top a2) (iv_c (0 : Int32) (a := 0) (b := 0) (by decide)) (by decide)
          refine lv_ldc2 (v := (-7)) hx hb hown (hg _ q_5_189) dX9_write_44 ?_
          have hP := subP (ws' := [(y 0, .inr (9, o9_rirrrrrrrrvviii (y 1) py0_1 (y 2) (y 10) (y 19) (y 25) (y 26) (y 30) (y 31) (y 32) o10 o11 py0_12 py0_13 py0_14)), (y 30, aT V 4 (va_up (va_up (va_up (va_up (fun _ => none) 0 (some (y 33))) 1 (some (y 35))) 2 (some (y 37))) 3 (some (y 39)))), (y 33, .inr (7, o7_rii (y 34) py33_1 py33_2)), (y 34, aJ V 40 fy34), (y 35, .inr (7, o7_rii (y 36) py35_1 py35_2)), (y 36, aJ V 40 fy36), (y 37, .inr (7, o7_rii (y 38) py37_1 py37_2)), (y 38, aJ V 40 fy38), (y 39, .inr (7, o7_rii (y 40) py39_1 py39_2)), (y 40, aJ V 40 fy40)]) hP [0, 1, 9, 2, 3, 4, 5, 6, 7, 8] rfl
          have hD := subD hP hD [0, 1, 9, 2, 3, 4, 5, 6, 7, 8] rfl rfl
          exact fiL hx hb hr hlk hK hP hD hS dX9_write_47 (Nat.le_of_ble_eq_true rfl) (Nat.le_of_ble_eq_true rfl) (⟨fy34, fy36, fy38, fy40, (congrArg Prod.fst (hR.symm.trans hT0)), (congrArg Prod.fst (congrArg Prod.snd (hR.symm.trans hT0))), (congrArg Prod.fst (congrArg Prod.snd (congrArg Prod.snd (hR.symm.trans hT0)))), (congrArg Prod.fst (congrArg Prod.snd (congrArg Prod.snd (congrArg Prod.snd (hR.symm.trans hT0))))), (congrArg Prod.snd (congrArg Prod.snd (congrArg Prod.snd (congrArg Prod.snd (hR.symm.trans hT0))))), rfl⟩)
        · replace hR := te hR c_30
          have b_32 : iv 0 2147483647 a2 := iv_e2 (Int32.not_lt.mp c_30) (iv_c (0 : Int32) (a := 0) (b := 0) (by decide)) (iv_top a2) (by decide)
          refine lv_iload_n hx hb dX9_write_35 rfl (lv_at hl 3 rfl) ?_
          refine lv_aload hx hb dX9_write_36 (lv_at hl 0 rfl) ?_
          refine va_get (ci := 7) (v := .int py33_1) (C := RX7) (T := TX7) (N := 3) hx hb hg inX7 hown hK hP 9 rfl rfl 1 (by decide) (hg _ q_2_2) (fun _ h9 => h9) rfl dX9_write_38 ?_
          refine lv_icmp_lt (tgt := 48) hx hb dX9_write_41 (by decide) (fun c_33 => ?_) (fun c_33 => ?_)
          · replace hR := ti hR c_33
            have b_34 : iv 0 39 a2 := iv_l1 c_33 b_32 b_27 (by decide)
            have b_35 : iv 1 40 py33_1 := iv_l2 c_33 b_32 b_27 (by decide)
            refine lv_aload hx hb dX9_write_48 (lv_at hl 0 rfl) ?_
            refine va_get (ci := 7) (v := .ref (y 34)) (C := RX7) (T := TX7) (N := 3) hx hb hg inX7 hown hK hP 9 rfl rfl 0 (by decide) (hg _ q_1_239) (fun _ h9 => h9) rfl dX9_write_50 ?_
            refine lv_iload_n hx hb dX9_write_53 rfl (lv_at hl 3 rfl) ?_
            refine lv_aload hx hb dX9_write_54 (lv_at hl 0 rfl) ?_
            refine lv_lload_n hx hb dX9_write_56 rfl (lv_at hl 4 rfl) ?_
            refine jnL (wr := [(y 0, .inr (9, o9_rirrrrrrrrvviii (y 1) py0_1 (y 2) (y 10) (y 19) (y 25) (y 26) (y 30) (y 31) (y 32) o10 o11 py0_12 py0_13 py0_14)), (y 30, aT V 4 (va_up (va_up (va_up (va_up (fun _ => none) 0 (some (y 33))) 1 (some (y 35))) 2 (some (y 37))) 3 (some (y 39)))), (y 34, aJ V 40 fy34), (y 35, .inr (7, o7_rii (y 36) py35_1 py35_2)), (y 36, aJ V 40 fy36), (y 37, .inr (7, o7_rii (y 38) py37_1 py37_2)), (y 38, aJ V 40 fy38), (y 39, .inr (7, o7_rii (y 40) py39_1 py39_2)), (y 40, aJ V 40 fy40)]) (rnV (rest := [.int a2, .ref (y 34)]) ⟨hx, hb, hml, hown, hg⟩ (k_X7_cut_0 l V y k3 py33_1 py33_2 (iv_w b_35 (by decide))) mt_X7_cut q_5_190 ⟨Nat.le_of_ble_eq_true rfl, Nat.le_of_ble_eq_true rfl⟩ hK hP hD hS hA hE [9] rfl rfl 9 rfl rfl rfl rfl hl.1 rfl (Nat.le_of_ble_eq_true rfl) dX9_write_57 ⟨Nat.le_of_ble_eq_true rfl, Nat.le_of_ble_eq_true rfl⟩) hP hD hS hA [9] [0, 1, 2, 3, 4, 5, 6, 7, 8] rfl rfl rfl (by decide) (fun r_36 w H locs hw hP hD hS => ?_)
            obtain ⟨et_37, rfl⟩ := hw
            replace hR := tb hR et_37
            have hP : va_P V.1 vwCl [(y 0, .inr (9, o9_rirrrrrrrrvviii (y 1) py0_1 (y 2) (y 10) (y 19) (y 25) (y 26) (y 30) (y 31) (y 32) o10 o11 py0_12 py0_13 py0_14)), (y 30, aT V 4 (va_up (va_up (va_up (va_up (fun _ => none) 0 (some (y 33))) 1 (some (y 35))) 2 (some (y 37))) 3 (some (y 39)))), (y 34, aJ V 40 fy34), (y 35, .inr (7, o7_rii (y 36) py35_1 py35_2)), (y 36, aJ V 40 fy36), (y 37, .inr (7, o7_rii (y 38) py37_1 py37_2)), (y 38, aJ V 40 fy38), (y 39, .inr (7, o7_rii (y 40) py39_1 py39_2)), (y 40, aJ V 40 fy40), (y 33, .inr (7, o7_rii (y 34) py33_1 py33_2))] H := hP
            have hD := cpD hP hD
            refine va_last hx hb hK hP hD hS 2 2 rfl rfl (iv_in b_34 (by decide)) dX9_write_60 (fun H locs hP hD hS => ?_)
            obtain ⟨f_39, ef_39, hP, hD⟩ : ∃ f_39 : Nat → Int64, f_39 = (vp_updL fy34 (a2 : Int32).toNatClampNeg r_36) ∧ va_P V.1 vwCl [(y 0, .inr (9, o9_rirrrrrrrrvviii (y 1) py0_1 (y 2) (y 10) (y 19) (y 25) (y 26) (y 30) (y 31) (y 32) o10 o11 py0_12 py0_13 py0_14)), (y 30, aT V 4 (va_up (va_up (va_up (va_up (fun _ => none) 0 (some (y 33))) 1 (some (y 35))) 2 (some (y 37))) 3 (some (y 39)))), (y 34, aJ V 40 f_39), (y 35, .inr (7, o7_rii (y 36) py35_1 py35_2)), (y 36, aJ V 40 fy36), (y 37, .inr (7, o7_rii (y 38) py37_1 py37_2)), (y 38, aJ V 40 fy38), (y 39, .inr (7, o7_rii (y 40) py39_1 py39_2)), (y 40, aJ V 40 fy40), (y 33, .inr (7, o7_rii (y 34) py33_1 py33_2))] H ∧ va_D A [(y 0, .inr (9, o9_rirrrrrrrrvviii (y 1) py0_1 (y 2) (y 10) (y 19) (y 25) (y 26) (y 30) (y 31) (y 32) o10 o11 py0_12 py0_13 py0_14)), (y 30, aT V 4 (va_up (va_up (va_up (va_up (fun _ => none) 0 (some (y 33))) 1 (some (y 35))) 2 (some (y 37))) 3 (some (y 39)))), (y 34, aJ V 40 f_39), (y 35, .inr (7, o7_rii (y 36) py35_1 py35_2)), (y 36, aJ V 40 fy36), (y 37, .inr (7, o7_rii (y 38) py37_1 py37_2)), (y 38, aJ V 40 fy38), (y 39, .inr (7, o7_rii (y 40) py39_1 py39_2)), (y 40, aJ V 40 fy40), (y 33, .inr (7, o7_rii (y 34) py33_1 py33_2))] := ⟨_, rfl, hP, hD⟩
            replace hR := tb hR ef_39
            refine lv_aload hx hb dX9_write_61 (lv_at hl 0 rfl) ?_
            refine va_get (ci := 7) (v := .ref (y 34)) (C := RX7) (T := TX7) (N := 3) hx hb hg inX7 hown hK hP 9 rfl rfl 0 (by decide) (hg _ q_1_239) (fun _ h9 => h9) rfl dX9_write_63 ?_
            refine lv_iload_n hx hb dX9_write_66 rfl (lv_at hl 3 rfl) ?_
            refine va_lald hx hb hK hP 2 2 rfl rfl (iv_in b_34 (by decide)) dX9_write_67 ?_
            refine lv_topl (fun j_40 ej_40 => ?_)
            replace hR := tb hR ej_40
            have hP := subP (ws' := [(y 0, .inr (9, o9_rirrrrrrrrvviii (y 1) py0_1 (y 2) (y 10) (y 19) (y 25) (y 26) (y 30) (y 31) (y 32) o10 o11 py0_12 py0_13 py0_14)), (y 30, aT V 4 (va_up (va_up (va_up (va_up (fun _ => none) 0 (some (y 33))) 1 (some (y 35))) 2 (some (y 37))) 3 (some (y 39)))), (y 33, .inr (7, o7_rii (y 34) py33_1 py33_2)), (y 34, aJ V 40 f_39), (y 35, .inr (7, o7_rii (y 36) py35_1 py35_2)), (y 36, aJ V 40 fy36), (y 37, .inr (7, o7_rii (y 38) py37_1 py37_2)), (y 38, aJ V 40 fy38), (y 39, .inr (7, o7_rii (y 40) py39_1 py39_2)), (y 40, aJ V 40 fy40)]) hP [0, 1, 9, 2, 3, 4, 5, 6, 7, 8] rfl
            have hD := subD hP hD [0, 1, 9, 2, 3, 4, 5, 6, 7, 8] rfl rfl
            exact fiL hx hb hr hlk hK hP hD hS dX9_write_68 (Nat.le_of_ble_eq_true rfl) (Nat.le_of_ble_eq_true rfl) (⟨f_39, fy36, fy38, fy40, (congrArg Prod.fst (hR.symm.trans hT0)), (congrArg Prod.fst (congrArg Prod.snd (hR.symm.trans hT0))), (congrArg Prod.fst (congrArg Prod.snd (congrArg Prod.snd (hR.symm.trans hT0)))), (congrArg Prod.fst (congrArg Prod.snd (congrArg Prod.snd (congrArg Prod.snd (hR.symm.trans hT0))))), (congrArg Prod.snd (congrArg Prod.snd (congrArg Prod.snd (congrArg Prod.snd (hR.symm.trans hT0))))), rfl⟩)
          · replace hR := te hR c_33
            refine lv_ldc2 (v := (-7)) hx hb hown (hg _ q_5_189) dX9_write_44 ?_
            have hP := subP (ws' := [(y 0, .inr (9, o9_rirrrrrrrrvviii (y 1) py0_1 (y 2) (y 10) (y 19) (y 25) (y 26) (y 30) (y 31) (y 32) o10 o11 py0_12 py0_13 py0_14)), (y 30, aT V 4 (va_up (va_up (va_up (va_up (fun _ => none) 0 (some (y 33))) 1 (some (y 35))) 2 (some (y 37))) 3 (some (y 39)))), (y 33, .inr (7, o7_rii (y 34) py33_1 py33_2)), (y 34, aJ V 40 fy34), (y 35, .inr (7, o7_rii (y 36) py35_1 py35_2)), (y 36, aJ V 40 fy36), (y 37, .inr (7, o7_rii (y 38) py37_1 py37_2)), (y 38, aJ V 40 fy38), (y 39, .inr (7, o7_rii (y 40) py39_1 py39_2)), (y 40, aJ V 40 fy40)]) hP [0, 1, 9, 2, 3, 4, 5, 6, 7, 8] rfl
            have hD := subD hP hD [0, 1, 9, 2, 3, 4, 5, 6, 7, 8] rfl rfl
            exact fiL hx hb hr hlk hK hP hD hS dX9_write_47 (Nat.le_of_ble_eq_true rfl) (Nat.le_of_ble_eq_true rfl) (⟨fy34, fy36, fy38, fy40, (congrArg Prod.fst (hR.symm.trans hT0)), (congrArg Prod.fst (congrArg Prod.snd (hR.symm.trans hT0))), (congrArg Prod.fst (congrArg Prod.snd (congrArg Prod.snd (hR.symm.trans hT0)))), (congrArg Prod.fst (congrArg Prod.snd (congrArg Prod.snd (congrArg Prod.snd (hR.symm.trans hT0))))), (congrArg Prod.snd (congrArg Prod.snd (congrArg Prod.snd (congrArg Prod.snd (hR.symm.trans hT0))))), rfl⟩)
      · have hP : va_P V.1 vwCl [(y 0, .inr (9, o9_rirrrrrrrrvviii (y 1) py0_1 (y 2) (y 10) (y 19) (y 25) (y 26) (y 30) (y 31) (y 32) o10 o11 py0_12 py0_13 py0_14)), (y 30, aT V 4 (va_up (va_up (va_up (va_up (fun _ => none) 0 (some (y 33))) 1 (some (y 35))) 2 (some (y 37))) 3 (some (y 39)))), (y 34, aJ V 40 fy34), (y 35, .inr (7, o7_rii (y 36) py35_1 py35_2)), (y 36, aJ V 40 fy36), (y 37, .inr (7, o7_rii (y 38) py37_1 py37_2)), (y 38, aJ V 40 fy38), (y 39, .inr (7, o7_rii (y 40) py39_1 py39_2)), (y 40, aJ V 40 fy40), (y 33, .inr (7, o7_rii (y 34) py33_1 py33_2))] H := hP
        have hD := cpD hP hD
        replace hR := te hR (by rw [← et_26]; decide)
        have b_41 : iv (-1) (-1) py33_1 := iv_l1 (Int32.not_le.mp c_25) bpy33_1 (iv_c (0 : Int32) (a := 0) (b := 0) (by decide)) (by decide)
        refine lv_if_eq (tgt := 31) hx hb dX9_write_24 (by decide) (fun c_43 => absurd c_43 (by decide)) (fun _ => ?_)
        refine lv_ldc2 (v := (-6)) hx hb hown (hg _ q_5_188) dX9_write_27 ?_
        have hP := subP (ws' := [(y 0, .inr (9, o9_rirrrrrrrrvviii (y 1) py0_1 (y 2) (y 10) (y 19) (y 25) (y 26) (y 30) (y 31) (y 32) o10 o11 py0_12 py0_13 py0_14)), (y 30, aT V 4 (va_up (va_up (va_up (va_up (fun _ => none) 0 (some (y 33))) 1 (some (y 35))) 2 (some (y 37))) 3 (some (y 39)))), (y 33, .inr (7, o7_rii (y 34) py33_1 py33_2)), (y 34, aJ V 40 fy34), (y 35, .inr (7, o7_rii (y 36) py35_1 py35_2)), (y 36, aJ V 40 fy36), (y 37, .inr (7, o7_rii (y 38) py37_1 py37_2)), (y 38, aJ V 40 fy38), (y 39, .inr (7, o7_rii (y 40) py39_1 py39_2)), (y 40, aJ V 40 fy40)]) hP [0, 1, 9, 2, 3, 4, 5, 6, 7, 8] rfl
        have hD := subD hP hD [0, 1, 9, 2, 3, 4, 5, 6, 7, 8] rfl rfl
        exact fiL hx hb hr hlk hK hP hD hS dX9_write_30 (Nat.le_of_ble_eq_true rfl) (Nat.le_of_ble_eq_true rfl) (⟨fy34, fy36, fy38, fy40, (congrArg Prod.fst (hR.symm.trans hT0)), (congrArg Prod.fst (congrArg Prod.snd (hR.symm.trans hT0))), (congrArg Prod.fst (congrArg Prod.snd (congrArg Prod.snd (hR.symm.trans hT0)))), (congrArg Prod.fst (congrArg Prod.snd (congrArg Prod.snd (congrArg Prod.snd (hR.symm.trans hT0))))), (congrArg Prod.snd (congrArg Prod.snd (congrArg Prod.snd (congrArg Prod.snd (hR.symm.trans hT0))))), rfl⟩)
    · replace hR := te hR (by decide)
      replace hR := ti hR rfl
      refine va_aldq hx hb hK hP 1 4 rfl rfl (vin (by decide +kernel)) dX9_write_16 ?_
      refine W.eq (g2 := F0 m 17 ls (.ref (y 35) :: [])) rfl ?_
      refine lv_astore (lv' := [(5, .ref (y 35)), (0, .ref (y 0)), (1, .int 1), (2, .int a2), (3, .long k3)]) hx hb dX9_write_17 hl (by decide) rfl (fun ls hl => ?_)
      refine lv_aload hx hb dX9_write_19 (lv_at hl 0 rfl) ?_
      refine jnI (wr := [(y 0, .inr (9, o9_rirrrrrrrrvviii (y 1) py0_1 (y 2) (y 10) (y 19) (y 25) (y 26) (y 30) (y 31) (y 32) o10 o11 py0_12 py0_13 py0_14)), (y 30, aT V 4 (va_up (va_up (va_up (va_up (fun _ => none) 0 (some (y 33))) 1 (some (y 35))) 2 (some (y 37))) 3 (some (y 39)))), (y 33, .inr (7, o7_rii (y 34) py33_1 py33_2)), (y 34, aJ V 40 fy34), (y 36, aJ V 40 fy36), (y 37, .inr (7, o7_rii (y 38) py37_1 py37_2)), (y 38, aJ V 40 fy38), (y 39, .inr (7, o7_rii (y 40) py39_1 py39_2)), (y 40, aJ V 40 fy40)]) (rnV (rest := []) ⟨hx, hb, hml, hown, hg⟩ (k_X7_isMissing_1 l V y py35_1 py35_2 bpy35_1) mt_X7_isMissing q_3_231 ⟨Nat.le_of_ble_eq_true rfl, Nat.le_of_ble_eq_true rfl⟩ hK hP hD hS hA hE [4] rfl rfl 4 rfl rfl rfl rfl hl.1 rfl (Nat.le_of_ble_eq_true rfl) dX9_write_21 ⟨Nat.le_of_ble_eq_true rfl, Nat.le_of_ble_eq_true rfl⟩) hP hD hS hA [4] [0, 1, 2, 3, 5, 6, 7, 8, 9] rfl rfl rfl (by decide) (fun r_44 w H locs hw hP hD hS => ?_)
      rcases hw with ⟨c_45, rfl, et_46, rfl⟩ | ⟨c_47, rfl, et_48, rfl⟩
      · have hP : va_P V.1 vwCl [(y 0, .inr (9, o9_rirrrrrrrrvviii (y 1) py0_1 (y 2) (y 10) (y 19) (y 25) (y 26) (y 30) (y 31) (y 32) o10 o11 py0_12 py0_13 py0_14)), (y 30, aT V 4 (va_up (va_up (va_up (va_up (fun _ => none) 0 (some (y 33))) 1 (some (y 35))) 2 (some (y 37))) 3 (some (y 39)))), (y 33, .inr (7, o7_rii (y 34) py33_1 py33_2)), (y 34, aJ V 40 fy34), (y 36, aJ V 40 fy36), (y 37, .inr (7, o7_rii (y 38) py37_1 py37_2)), (y 38, aJ V 40 fy38), (y 39, .inr (7, o7_rii (y 40) py39_1 py39_2)), (y 40, aJ V 40 fy40), (y 35, .inr (7, o7_rii (y 36) py35_1 py35_2))] H := hP
        have hD := cpD hP hD
        replace hR := ti hR et_46.symm
        have b_49 : iv 0 40 py35_1 := iv_e2 c_45 (iv_c (0 : Int32) (a := 0) (b := 0) (by decide)) bpy35_1 (by decide)
        refine lv_if_eq (tgt := 31) hx hb dX9_write_24 (by decide) (fun _ => ?_) (fun c_51 => absurd c_51 (by decide))
        refine lv_iload_n hx hb dX9_write_31 rfl (lv_at hl 3 rfl) ?_
        refine lv_if_lt (tgt := 44) hx hb dX9_write_32 (by decide) (fun c_52 => ?_) (fun c_52 => ?_)
        · replace hR := ti hR c_52
          have b_53 : iv (-2147483648) (-1) a2 := iv_l1 c_52 (iv_top a2) (iv_c (0 : Int32) (a := 0) (b := 0) (by decide)) (by decide)
          refine lv_ldc2 (v := (-7)) hx hb hown (hg _ q_5_189) dX9_write_44 ?_
          have hP := subP (ws' := [(y 0, .inr (9, o9_rirrrrrrrrvviii (y 1) py0_1 (y 2) (y 10) (y 19) (y 25) (y 26) (y 30) (y 31) (y 32) o10 o11 py0_12 py0_13 py0_14)), (y 30, aT V 4 (va_up (va_up (va_up (va_up (fun _ => none) 0 (some (y 33))) 1 (some (y 35))) 2 (some (y 37))) 3 (some (y 39)))), (y 33, .inr (7, o7_rii (y 34) py33_1 py33_2)), (y 34, aJ V 40 fy34), (y 35, .inr (7, o7_rii (y 36) py35_1 py35_2)), (y 36, aJ V 40 fy36), (y 37, .inr (7, o7_rii (y 38) py37_1 py37_2)), (y 38, aJ V 40 fy38), (y 39, .inr (7, o7_rii (y 40) py39_1 py39_2)), (y 40, aJ V 40 fy40)]) hP [0, 1, 2, 3, 9, 4, 5, 6, 7, 8] rfl
          have hD := subD hP hD [0, 1, 2, 3, 9, 4, 5, 6, 7, 8] rfl rfl
          exact fiL hx hb hr hlk hK hP hD hS dX9_write_47 (Nat.le_of_ble_eq_true rfl) (Nat.le_of_ble_eq_true rfl) (⟨fy34, fy36, fy38, fy40, (congrArg Prod.fst (hR.symm.trans hT0)), (congrArg Prod.fst (congrArg Prod.snd (hR.symm.trans hT0))), (congrArg Prod.fst (congrArg Prod.snd (congrArg Prod.snd (hR.symm.trans hT0)))), (congrArg Prod.fst (congrArg Prod.snd (congrArg Prod.snd (congrArg Prod.snd (hR.symm.trans hT0))))), (congrArg Prod.snd (congrArg Prod.snd (congrArg Prod.snd (congrArg Prod.snd (hR.symm.trans hT0))))), rfl⟩)
        · replace hR := te hR c_52
          have b_54 : iv 0 2147483647 a2 := iv_e2 (Int32.not_lt.mp c_52) (iv_c (0 : Int32) (a := 0) (b := 0) (by decide)) (iv_top a2) (by decide)
          refine lv_iload_n hx hb dX9_write_35 rfl (lv_at hl 3 rfl) ?_
          refine lv_aload hx hb dX9_write_36 (lv_at hl 0 rfl) ?_
          refine va_get (ci := 7) (v := .int py35_1) (C := RX7) (T := TX7) (N := 3) hx hb hg inX7 hown hK hP 9 rfl rfl 1 (by decide) (hg _ q_2_2) (fun _ h9 => h9) rfl dX9_write_38 ?_
          refine lv_icmp_lt (tgt := 48) hx hb dX9_write_41 (by decide) (fun c_55 => ?_) (fun c_55 => ?_)
          · replace hR := ti hR c_55
            have b_56 : iv 0 39 a2 := iv_l1 c_55 b_54 b_49 (by decide)
            have b_57 : iv 1 40 py35_1 := iv_l2 c_55 b_54 b_49 (by decide)
            refine lv_aload hx hb dX9_write_48 (lv_at hl 0 rfl) ?_
            refine va_get (ci := 7) (v := .ref (y 36)) (C := RX7) (T := TX7) (N := 3) hx hb hg inX7 hown hK hP 9 rfl rfl 0 (by decide) (hg _ q_1_239) (fun _ h9 => h9) rfl dX9_write_50 ?_
            refine lv_iload_n hx hb dX9_write_53 rfl (lv_at hl 3 rfl) ?_
            refine lv_aload hx hb dX9_write_54 (lv_at hl 0 rfl) ?_
            refine lv_lload_n hx hb dX9_write_56 rfl (lv_at hl 4 rfl) ?_
            refine jnL (wr := [(y 0, .inr (9, o9_rirrrrrrrrvviii (y 1) py0_1 (y 2) (y 10) (y 19) (y 25) (y 26) (y 30) (y 31) (y 32) o10 o11 py0_12 py0_13 py0_14)), (y 30, aT V 4 (va_up (va_up (va_up (va_up (fun _ => none) 0 (some (y 33))) 1 (some (y 35))) 2 (some (y 37))) 3 (some (y 39)))), (y 33, .inr (7, o7_rii (y 34) py33_1 py33_2)), (y 34, aJ V 40 fy34), (y 36, aJ V 40 fy36), (y 37, .inr (7, o7_rii (y 38) py37_1 py37_2)), (y 38, aJ V 40 fy38), (y 39, .inr (7, o7_rii (y 40) py39_1 py39_2)), (y 40, aJ V 40 fy40)]) (rnV (rest := [.int a2, .ref (y 36)]) ⟨hx, hb, hml, hown, hg⟩ (k_X7_cut_1 l V y k3 py35_1 py35_2 (iv_w b_57 (by decide))) mt_X7_cut q_5_190 ⟨Nat.le_of_ble_eq_true rfl, Nat.le_of_ble_eq_true rfl⟩ hK hP hD hS hA hE [9] rfl rfl 9 rfl rfl rfl rfl hl.1 rfl (Nat.le_of_ble_eq_true rfl) dX9_write_57 ⟨Nat.le_of_ble_eq_true rfl, Nat.le_of_ble_eq_true rfl⟩) hP hD hS hA [9] [0, 1, 2, 3, 4, 5, 6, 7, 8] rfl rfl rfl (by decide) (fun r_58 w H locs hw hP hD hS => ?_)
            obtain ⟨et_59, rfl⟩ := hw
            replace hR := tb hR et_59
            have hP : va_P V.1 vwCl [(y 0, .inr (9, o9_rirrrrrrrrvviii (y 1) py0_1 (y 2) (y 10) (y 19) (y 25) (y 26) (y 30) (y 31) (y 32) o10 o11 py0_12 py0_13 py0_14)), (y 30, aT V 4 (va_up (va_up (va_up (va_up (fun _ => none) 0 (some (y 33))) 1 (some (y 35))) 2 (some (y 37))) 3 (some (y 39)))), (y 33, .inr (7, o7_rii (y 34) py33_1 py33_2)), (y 34, aJ V 40 fy34), (y 36, aJ V 40 fy36), (y 37, .inr (7, o7_rii (y 38) py37_1 py37_2)), (y 38, aJ V 40 fy38), (y 39, .inr (7, o7_rii (y 40) py39_1 py39_2)), (y 40, aJ V 40 fy40), (y 35, .inr (7, o7_rii (y 36) py35_1 py35_2))] H := hP
            have hD := cpD hP hD
            refine va_last hx hb hK hP hD hS 4 2 rfl rfl (iv_in b_56 (by decide)) dX9_write_60 (fun H locs hP hD hS => ?_)
            obtain ⟨f_61, ef_61, hP, hD⟩ : ∃ f_61 : Nat → Int64, f_61 = (vp_updL fy36 (a2 : Int32).toNatClampNeg r_58) ∧ va_P V.1 vwCl [(y 0, .inr (9, o9_rirrrrrrrrvviii (y 1) py0_1 (y 2) (y 10) (y 19) (y 25) (y 26) (y 30) (y 31) (y 32) o10 o11 py0_12 py0_13 py0_14)), (y 30, aT V 4 (va_up (va_up (va_up (va_up (fun _ => none) 0 (some (y 33))) 1 (some (y 35))) 2 (some (y 37))) 3 (some (y 39)))), (y 33, .inr (7, o7_rii (y 34) py33_1 py33_2)), (y 34, aJ V 40 fy34), (y 36, aJ V 40 f_61), (y 37, .inr (7, o7_rii (y 38) py37_1 py37_2)), (y 38, aJ V 40 fy38), (y 39, .inr (7, o7_rii (y 40) py39_1 py39_2)), (y 40, aJ V 40 fy40), (y 35, .inr (7, o7_rii (y 36) py35_1 py35_2))] H ∧ va_D A [(y 0, .inr (9, o9_rirrrrrrrrvviii (y 1) py0_1 (y 2) (y 10) (y 19) (y 25) (y 26) (y 30) (y 31) (y 32) o10 o11 py0_12 py0_13 py0_14)), (y 30, aT V 4 (va_up (va_up (va_up (va_up (fun _ => none) 0 (some (y 33))) 1 (some (y 35))) 2 (some (y 37))) 3 (some (y 39)))), (y 33, .inr (7, o7_rii (y 34) py33_1 py33_2)), (y 34, aJ V 40 fy34), (y 36, aJ V 40 f_61), (y 37, .inr (7, o7_rii (y 38) py37_1 py37_2)), (y 38, aJ V 40 fy38), (y 39, .inr (7, o7_rii (y 40) py39_1 py39_2)), (y 40, aJ V 40 fy40), (y 35, .inr (7, o7_rii (y 36) py35_1 py35_2))] := ⟨_, rfl, hP, hD⟩
            replace hR := tb hR ef_61
            refine lv_aload hx hb dX9_write_61 (lv_at hl 0 rfl) ?_
            refine va_get (ci := 7) (v := .ref (y 36)) (C := RX7) (T := TX7) (N := 3) hx hb hg inX7 hown hK hP 9 rfl rfl 0 (by decide) (hg _ q_1_239) (fun _ h9 => h9) rfl dX9_write_63 ?_
            refine lv_iload_n hx hb dX9_write_66 rfl (lv_at hl 3 rfl) ?_
            refine va_lald hx hb hK hP 4 2 rfl rfl (iv_in b_56 (by decide)) dX9_write_67 ?_
            refine lv_topl (fun j_62 ej_62 => ?_)
            replace hR := tb hR ej_62
            have hP := subP (ws' := [(y 0, .inr (9, o9_rirrrrrrrrvviii (y 1) py0_1 (y 2) (y 10) (y 19) (y 25) (y 26) (y 30) (y 31) (y 32) o10 o11 py0_12 py0_13 py0_14)), (y 30, aT V 4 (va_up (va_up (va_up (va_up (fun _ => none) 0 (some (y 33))) 1 (some (y 35))) 2 (some (y 37))) 3 (some (y 39)))), (y 33, .inr (7, o7_rii (y 34) py33_1 py33_2)), (y 34, aJ V 40 fy34), (y 35, .inr (7, o7_rii (y 36) py35_1 py35_2)), (y 36, aJ V 40 f_61), (y 37, .inr (7, o7_rii (y 38) py37_1 py37_2)), (y 38, aJ V 40 fy38), (y 39, .inr (7, o7_rii (y 40) py39_1 py39_2)), (y 40, aJ V 40 fy40)]) hP [0, 1, 2, 3, 9, 4, 5, 6, 7, 8] rfl
            have hD := subD hP hD [0, 1, 2, 3, 9, 4, 5, 6, 7, 8] rfl rfl
            exact fiL hx hb hr hlk hK hP hD hS dX9_write_68 (Nat.le_of_ble_eq_true rfl) (Nat.le_of_ble_eq_true rfl) (⟨fy34, f_61, fy38, fy40, (congrArg Prod.fst (hR.symm.trans hT0)), (congrArg Prod.fst (congrArg Prod.snd (hR.symm.trans hT0))), (congrArg Prod.fst (congrArg Prod.snd (congrArg Prod.snd (hR.symm.trans hT0)))), (congrArg Prod.fst (congrArg Prod.snd (congrArg Prod.snd (congrArg Prod.snd (hR.symm.trans hT0))))), (congrArg Prod.snd (congrArg Prod.snd (congrArg Prod.snd (congrArg Prod.snd (hR.symm.trans hT0))))), rfl⟩)
          · replace hR := te hR c_55
            refine lv_ldc2 (v := (-7)) hx hb hown (hg _ q_5_189) dX9_write_44 ?_
            have hP := subP (ws' := [(y 0, .inr (9, o9_rirrrrrrrrvviii (y 1) py0_1 (y 2) (y 10) (y 19) (y 25) (y 26) (y 30) (y 31) (y 32) o10 o11 py0_12 py0_13 py0_14)), (y 30, aT V 4 (va_up (va_up (va_up (va_up (fun _ => none) 0 (some (y 33))) 1 (some (y 35))) 2 (some (y 37))) 3 (some (y 39)))), (y 33, .inr (7, o7_rii (y 34) py33_1 py33_2)), (y 34, aJ V 40 fy34), (y 35, .inr (7, o7_rii (y 36) py35_1 py35_2)), (y 36, aJ V 40 fy36), (y 37, .inr (7, o7_rii (y 38) py37_1 py37_2)), (y 38, aJ V 40 fy38), (y 39, .inr (7, o7_rii (y 40) py39_1 py39_2)), (y 40, aJ V 40 fy40)]) hP [0, 1, 2, 3, 9, 4, 5, 6, 7, 8] rfl
            have hD := subD hP hD [0, 1, 2, 3, 9, 4, 5, 6, 7, 8] rfl rfl
            exact fiL hx hb hr hlk hK hP hD hS dX9_write_47 (Nat.le_of_ble_eq_true rfl) (Nat.le_of_ble_eq_true rfl) (⟨fy34, fy36, fy38, fy40, (congrArg Prod.fst (hR.symm.trans hT0)), (congrArg Prod.fst (congrArg Prod.snd (hR.symm.trans hT0))), (congrArg Prod.fst (congrArg Prod.snd (congrArg Prod.snd (hR.symm.trans hT0)))), (congrArg Prod.fst (congrArg Prod.snd (congrArg Prod.snd (congrArg Prod.snd (hR.symm.trans hT0))))), (congrArg Prod.snd (congrArg Prod.snd (congrArg Prod.snd (congrArg Prod.snd (hR.symm.trans hT0))))), rfl⟩)
      · have hP : va_P V.1 vwCl [(y 0, .inr (9, o9_rirrrrrrrrvviii (y 1) py0_1 (y 2) (y 10) (y 19) (y 25) (y 26) (y 30) (y 31) (y 32) o10 o11 py0_12 py0_13 py0_14)), (y 30, aT V 4 (va_up (va_up (va_up (va_up (fun _ => none) 0 (some (y 33))) 1 (some (y 35))) 2 (some (y 37))) 3 (some (y 39)))), (y 33, .inr (7, o7_rii (y 34) py33_1 py33_2)), (y 34, aJ V 40 fy34), (y 36, aJ V 40 fy36), (y 37, .inr (7, o7_rii (y 38) py37_1 py37_2)), (y 38, aJ V 40 fy38), (y 39, .inr (7, o7_rii (y 40) py39_1 py39_2)), (y 40, aJ V 40 fy40), (y 35, .inr (7, o7_rii (y 36) py35_1 py35_2))] H := hP
        have hD := cpD hP hD
        replace hR := te hR (by rw [← et_48]; decide)
        have b_63 : iv (-1) (-1) py35_1 := iv_l1 (Int32.not_le.mp c_47) bpy35_1 (iv_c (0 : Int32) (a := 0) (b := 0) (by decide)) (by decide)
        refine lv_if_eq (tgt := 31) hx hb dX9_write_24 (by decide) (fun c_65 => absurd c_65 (by decide)) (fun _ => ?_)
        refine lv_ldc2 (v := (-6)) hx hb hown (hg _ q_5_188) dX9_write_27 ?_
        have hP := subP (ws' := [(y 0, .inr (9, o9_rirrrrrrrrvviii (y 1) py0_1 (y 2) (y 10) (y 19) (y 25) (y 26) (y 30) (y 31) (y 32) o10 o11 py0_12 py0_13 py0_14)), (y 30, aT V 4 (va_up (va_up (va_up (va_up (fun _ => none) 0 (some (y 33))) 1 (some (y 35))) 2 (some (y 37))) 3 (some (y 39)))), (y 33, .inr (7, o7_rii (y 34) py33_1 py33_2)), (y 34, aJ V 40 fy34), (y 35, .inr (7, o7_rii (y 36) py35_1 py35_2)), (y 36, aJ V 40 fy36), (y 37, .inr (7, o7_rii (y 38) py37_1 py37_2)), (y 38, aJ V 40 fy38), (y 39, .inr (7, o7_rii (y 40) py39_1 py39_2)), (y 40, aJ V 40 fy40)]) hP [0, 1, 2, 3, 9, 4, 5, 6, 7, 8] rfl
        have hD := subD hP hD [0, 1, 2, 3, 9, 4, 5, 6, 7, 8] rfl rfl
        exact fiL hx hb hr hlk hK hP hD hS dX9_write_30 (Nat.le_of_ble_eq_true rfl) (Nat.le_of_ble_eq_true rfl) (⟨fy34, fy36, fy38, fy40, (congrArg Prod.fst (hR.symm.trans hT0)), (congrArg Prod.fst (congrArg Prod.snd (hR.symm.trans hT0))), (congrArg Prod.fst (congrArg Prod.snd (congrArg Prod.snd (hR.symm.trans hT0)))), (congrArg Prod.fst (congrArg Prod.snd (congrArg Prod.snd (congrArg Prod.snd (hR.symm.trans hT0))))), (congrArg Prod.snd (congrArg Prod.snd (congrArg Prod.snd (congrArg Prod.snd (hR.symm.trans hT0))))), rfl⟩)
    · replace hR := te hR (by decide)
      replace hR := te hR (by decide)
      replace hR := ti hR rfl
      refine va_aldq hx hb hK hP 1 4 rfl rfl (vin (by decide +kernel)) dX9_write_16 ?_
      refine W.eq (g2 := F0 m 17 ls (.ref (y 37) :: [])) rfl ?_
      refine lv_astore (lv' := [(5, .ref (y 37)), (0, .ref (y 0)), (1, .int 2), (2, .int a2), (3, .long k3)]) hx hb dX9_write_17 hl (by decide) rfl (fun ls hl => ?_)
      refine lv_aload hx hb dX9_write_19 (lv_at hl 0 rfl) ?_
      refine jnI (wr := [(y 0, .inr (9, o9_rirrrrrrrrvviii (y 1) py0_1 (y 2) (y 10) (y 19) (y 25) (y 26) (y 30) (y 31) (y 32) o10 o11 py0_12 py0_13 py0_14)), (y 30, aT V 4 (va_up (va_up (va_up (va_up (fun _ => none) 0 (some (y 33))) 1 (some (y 35))) 2 (some (y 37))) 3 (some (y 39)))), (y 33, .inr (7, o7_rii (y 34) py33_1 py33_2)), (y 34, aJ V 40 fy34), (y 35, .inr (7, o7_rii (y 36) py35_1 py35_2)), (y 36, aJ V 40 fy36), (y 38, aJ V 40 fy38), (y 39, .inr (7, o7_rii (y 40) py39_1 py39_2)), (y 40, aJ V 40 fy40)]) (rnV (rest := []) ⟨hx, hb, hml, hown, hg⟩ (k_X7_isMissing_2 l V y py37_1 py37_2 bpy37_1) mt_X7_isMissing q_3_231 ⟨Nat.le_of_ble_eq_true rfl, Nat.le_of_ble_eq_true rfl⟩ hK hP hD hS hA hE [6] rfl rfl 6 rfl rfl rfl rfl hl.1 rfl (Nat.le_of_ble_eq_true rfl) dX9_write_21 ⟨Nat.le_of_ble_eq_true rfl, Nat.le_of_ble_eq_true rfl⟩) hP hD hS hA [6] [0, 1, 2, 3, 4, 5, 7, 8, 9] rfl rfl rfl (by decide) (fun r_66 w H locs hw hP hD hS => ?_)
      rcases hw with ⟨c_67, rfl, et_68, rfl⟩ | ⟨c_69, rfl, et_70, rfl⟩
      · have hP : va_P V.1 vwCl [(y 0, .inr (9, o9_rirrrrrrrrvviii (y 1) py0_1 (y 2) (y 10) (y 19) (y 25) (y 26) (y 30) (y 31) (y 32) o10 o11 py0_12 py0_13 py0_14)), (y 30, aT V 4 (va_up (va_up (va_up (va_up (fun _ => none) 0 (some (y 33))) 1 (some (y 35))) 2 (some (y 37))) 3 (some (y 39)))), (y 33, .inr (7, o7_rii (y 34) py33_1 py33_2)), (y 34, aJ V 40 fy34), (y 35, .inr (7, o7_rii (y 36) py35_1 py35_2)), (y 36, aJ V 40 fy36), (y 38, aJ V 40 fy38), (y 39, .inr (7, o7_rii (y 40) py39_1 py39_2)), (y 40, aJ V 40 fy40), (y 37, .inr (7, o7_rii (y 38) py37_1 py37_2))] H := hP
        have hD := cpD hP hD
        replace hR := ti hR et_68.symm
        have b_71 : iv 0 40 py37_1 := iv_e2 c_67 (iv_c (0 : Int32) (a := 0) (b := 0) (by decide)) bpy37_1 (by decide)
        refine lv_if_eq (tgt := 31) hx hb dX9_write_24 (by decide) (fun _ => ?_) (fun c_73 => absurd c_73 (by decide))
        refine lv_iload_n hx hb dX9_write_31 rfl (lv_at hl 3 rfl) ?_
        refine lv_if_lt (tgt := 44) hx hb dX9_write_32 (by decide) (fun c_74 => ?_) (fun c_74 => ?_)
        · replace hR := ti hR c_74
          have b_75 : iv (-2147483648) (-1) a2 := iv_l1 c_74 (iv_top a2) (iv_c (0 : Int32) (a := 0) (b := 0) (by decide)) (by decide)
          refine lv_ldc2 (v := (-7)) hx hb hown (hg _ q_5_189) dX9_write_44 ?_
          have hP := subP (ws' := [(y 0, .inr (9, o9_rirrrrrrrrvviii (y 1) py0_1 (y 2) (y 10) (y 19) (y 25) (y 26) (y 30) (y 31) (y 32) o10 o11 py0_12 py0_13 py0_14)), (y 30, aT V 4 (va_up (va_up (va_up (va_up (fun _ => none) 0 (some (y 33))) 1 (some (y 35))) 2 (some (y 37))) 3 (some (y 39)))), (y 33, .inr (7, o7_rii (y 34) py33_1 py33_2)), (y 34, aJ V 40 fy34), (y 35, .inr (7, o7_rii (y 36) py35_1 py35_2)), (y 36, aJ V 40 fy36), (y 37, .inr (7, o7_rii (y 38) py37_1 py37_2)), (y 38, aJ V 40 fy38), (y 39, .inr (7, o7_rii (y 40) py39_1 py39_2)), (y 40, aJ V 40 fy40)]) hP [0, 1, 2, 3, 4, 5, 9, 6, 7, 8] rfl
          have hD := subD hP hD [0, 1, 2, 3, 4, 5, 9, 6, 7, 8] rfl rfl
          exact fiL hx hb hr hlk hK hP hD hS dX9_write_47 (Nat.le_of_ble_eq_true rfl) (Nat.le_of_ble_eq_true rfl) (⟨fy34, fy36, fy38, fy40, (congrArg Prod.fst (hR.symm.trans hT0)), (congrArg Prod.fst (congrArg Prod.snd (hR.symm.trans hT0))), (congrArg Prod.fst (congrArg Prod.snd (congrArg Prod.snd (hR.symm.trans hT0)))), (congrArg Prod.fst (congrArg Prod.snd (congrArg Prod.snd (congrArg Prod.snd (hR.symm.trans hT0))))), (congrArg Prod.snd (congrArg Prod.snd (congrArg Prod.snd (congrArg Prod.snd (hR.symm.trans hT0))))), rfl⟩)
        · replace hR := te hR c_74
          have b_76 : iv 0 2147483647 a2 := iv_e2 (Int32.not_lt.mp c_74) (iv_c (0 : Int32) (a := 0) (b := 0) (by decide)) (iv_top a2) (by decide)
          refine lv_iload_n hx hb dX9_write_35 rfl (lv_at hl 3 rfl) ?_
          refine lv_aload hx hb dX9_write_36 (lv_at hl 0 rfl) ?_
          refine va_get (ci := 7) (v := .int py37_1) (C := RX7) (T := TX7) (N := 3) hx hb hg inX7 hown hK hP 9 rfl rfl 1 (by decide) (hg _ q_2_2) (fun _ h9 => h9) rfl dX9_write_38 ?_
          refine lv_icmp_lt (tgt := 48) hx hb dX9_write_41 (by decide) (fun c_77 => ?_) (fun c_77 => ?_)
          · replace hR := ti hR c_77
            have b_78 : iv 0 39 a2 := iv_l1 c_77 b_76 b_71 (by decide)
            have b_79 : iv 1 40 py37_1 := iv_l2 c_77 b_76 b_71 (by decide)
            refine lv_aload hx hb dX9_write_48 (lv_at hl 0 rfl) ?_
            refine va_get (ci := 7) (v := .ref (y 38)) (C := RX7) (T := TX7) (N := 3) hx hb hg inX7 hown hK hP 9 rfl rfl 0 (by decide) (hg _ q_1_239) (fun _ h9 => h9) rfl dX9_write_50 ?_
            refine lv_iload_n hx hb dX9_write_53 rfl (lv_at hl 3 rfl) ?_
            refine lv_aload hx hb dX9_write_54 (lv_at hl 0 rfl) ?_
            refine lv_lload_n hx hb dX9_write_56 rfl (lv_at hl 4 rfl) ?_
            refine jnL (wr := [(y 0, .inr (9, o9_rirrrrrrrrvviii (y 1) py0_1 (y 2) (y 10) (y 19) (y 25) (y 26) (y 30) (y 31) (y 32) o10 o11 py0_12 py0_13 py0_14)), (y 30, aT V 4 (va_up (va_up (va_up (va_up (fun _ => none) 0 (some (y 33))) 1 (some (y 35))) 2 (some (y 37))) 3 (some (y 39)))), (y 33, .inr (7, o7_rii (y 34) py33_1 py33_2)), (y 34, aJ V 40 fy34), (y 35, .inr (7, o7_rii (y 36) py35_1 py35_2)), (y 36, aJ V 40 fy36), (y 38, aJ V 40 fy38), (y 39, .inr (7, o7_rii (y 40) py39_1 py39_2)), (y 40, aJ V 40 fy40)]) (rnV (rest := [.int a2, .ref (y 38)]) ⟨hx, hb, hml, hown, hg⟩ (k_X7_cut_2 l V y k3 py37_1 py37_2 (iv_w b_79 (by decide))) mt_X7_cut q_5_190 ⟨Nat.le_of_ble_eq_true rfl, Nat.le_of_ble_eq_true rfl⟩ hK hP hD hS hA hE [9] rfl rfl 9 rfl rfl rfl rfl hl.1 rfl (Nat.le_of_ble_eq_true rfl) dX9_write_57 ⟨Nat.le_of_ble_eq_true rfl, Nat.le_of_ble_eq_true rfl⟩) hP hD hS hA [9] [0, 1, 2, 3, 4, 5, 6, 7, 8] rfl rfl rfl (by decide) (fun r_80 w H locs hw hP hD hS => ?_)
            obtain ⟨et_81, rfl⟩ := hw
            replace hR := tb hR et_81
            have hP : va_P V.1 vwCl [(y 0, .inr (9, o9_rirrrrrrrrvviii (y 1) py0_1 (y 2) (y 10) (y 19) (y 25) (y 26) (y 30) (y 31) (y 32) o10 o11 py0_12 py0_13 py0_14)), (y 30, aT V 4 (va_up (va_up (va_up (va_up (fun _ => none) 0 (some (y 33))) 1 (some (y 35))) 2 (some (y 37))) 3 (some (y 39)))), (y 33, .inr (7, o7_rii (y 34) py33_1 py33_2)), (y 34, aJ V 40 fy34), (y 35, .inr (7, o7_rii (y 36) py35_1 py35_2)), (y 36, aJ V 40 fy36), (y 38, aJ V 40 fy38), (y 39, .inr (7, o7_rii (y 40) py39_1 py39_2)), (y 40, aJ V 40 fy40), (y 37, .inr (7, o7_rii (y 38) py37_1 py37_2))] H := hP
            have hD := cpD hP hD
            refine va_last hx hb hK hP hD hS 6 2 rfl rfl (iv_in b_78 (by decide)) dX9_write_60 (fun H locs hP hD hS => ?_)
            obtain ⟨f_83, ef_83, hP, hD⟩ : ∃ f_83 : Nat → Int64, f_83 = (vp_updL fy38 (a2 : Int32).toNatClampNeg r_80) ∧ va_P V.1 vwCl [(y 0, .inr (9, o9_rirrrrrrrrvviii (y 1) py0_1 (y 2) (y 10) (y 19) (y 25) (y 26) (y 30) (y 31) (y 32) o10 o11 py0_12 py0_13 py0_14)), (y 30, aT V 4 (va_up (va_up (va_up (va_up (fun _ => none) 0 (some (y 33))) 1 (some (y 35))) 2 (some (y 37))) 3 (some (y 39)))), (y 33, .inr (7, o7_rii (y 34) py33_1 py33_2)), (y 34, aJ V 40 fy34), (y 35, .inr (7, o7_rii (y 36) py35_1 py35_2)), (y 36, aJ V 40 fy36), (y 38, aJ V 40 f_83), (y 39, .inr (7, o7_rii (y 40) py39_1 py39_2)), (y 40, aJ V 40 fy40), (y 37, .inr (7, o7_rii (y 38) py37_1 py37_2))] H ∧ va_D A [(y 0, .inr (9, o9_rirrrrrrrrvviii (y 1) py0_1 (y 2) (y 10) (y 19) (y 25) (y 26) (y 30) (y 31) (y 32) o10 o11 py0_12 py0_13 py0_14)), (y 30, aT V 4 (va_up (va_up (va_up (va_up (fun _ => none) 0 (some (y 33))) 1 (some (y 35))) 2 (some (y 37))) 3 (some (y 39)))), (y 33, .inr (7, o7_rii (y 34) py33_1 py33_2)), (y 34, aJ V 40 fy34), (y 35, .inr (7, o7_rii (y 36) py35_1 py35_2)), (y 36, aJ V 40 fy36), (y 38, aJ V 40 f_83), (y 39, .inr (7, o7_rii (y 40) py39_1 py39_2)), (y 40, aJ V 40 fy40), (y 37, .inr (7, o7_rii (y 38) py37_1 py37_2))] := ⟨_, rfl, hP, hD⟩
            replace hR := tb hR ef_83
            refine lv_aload hx hb dX9_write_61 (lv_at hl 0 rfl) ?_
            refine va_get (ci := 7) (v := .ref (y 38)) (C := RX7) (T := TX7) (N := 3) hx hb hg inX7 hown hK hP 9 rfl rfl 0 (by decide) (hg _ q_1_239) (fun _ h9 => h9) rfl dX9_write_63 ?_
            refine lv_iload_n hx hb dX9_write_66 rfl (lv_at hl 3 rfl) ?_
            refine va_lald hx hb hK hP 6 2 rfl rfl (iv_in b_78 (by decide)) dX9_write_67 ?_
            refine lv_topl (fun j_84 ej_84 => ?_)
            replace hR := tb hR ej_84
            have hP := subP (ws' := [(y 0, .inr (9, o9_rirrrrrrrrvviii (y 1) py0_1 (y 2) (y 10) (y 19) (y 25) (y 26) (y 30) (y 31) (y 32) o10 o11 py0_12 py0_13 py0_14)), (y 30, aT V 4 (va_up (va_up (va_up (va_up (fun _ => none) 0 (some (y 33))) 1 (some (y 35))) 2 (some (y 37))) 3 (some (y 39)))), (y 33, .inr (7, o7_rii (y 34) py33_1 py33_2)), (y 34, aJ V 40 fy34), (y 35, .inr (7, o7_rii (y 36) py35_1 py35_2)), (y 36, aJ V 40 fy36), (y 37, .inr (7, o7_rii (y 38) py37_1 py37_2)), (y 38, aJ V 40 f_83), (y 39, .inr (7, o7_rii (y 40) py39_1 py39_2)), (y 40, aJ V 40 fy40)]) hP [0, 1, 2, 3, 4, 5, 9, 6, 7, 8] rfl
            have hD := subD hP hD [0, 1, 2, 3, 4, 5, 9, 6, 7, 8] rfl rfl
            exact fiL hx hb hr hlk hK hP hD hS dX9_write_68 (Nat.le_of_ble_eq_true rfl) (Nat.le_of_ble_eq_true rfl) (⟨fy34, fy36, f_83, fy40, (congrArg Prod.fst (hR.symm.trans hT0)), (congrArg Prod.fst (congrArg Prod.snd (hR.symm.trans hT0))), (congrArg Prod.fst (congrArg Prod.snd (congrArg Prod.snd (hR.symm.trans hT0)))), (congrArg Prod.fst (congrArg Prod.snd (congrArg Prod.snd (congrArg Prod.snd (hR.symm.trans hT0))))), (congrArg Prod.snd (congrArg Prod.snd (congrArg Prod.snd (congrArg Prod.snd (hR.symm.trans hT0))))), rfl⟩)
          · replace hR := te hR c_77
            refine lv_ldc2 (v := (-7)) hx hb hown (hg _ q_5_189) dX9_write_44 ?_
            have hP := subP (ws' := [(y 0, .inr (9, o9_rirrrrrrrrvviii (y 1) py0_1 (y 2) (y 10) (y 19) (y 25) (y 26) (y 30) (y 31) (y 32) o10 o11 py0_12 py0_13 py0_14)), (y 30, aT V 4 (va_up (va_up (va_up (va_up (fun _ => none) 0 (some (y 33))) 1 (some (y 35))) 2 (some (y 37))) 3 (some (y 39)))), (y 33, .inr (7, o7_rii (y 34) py33_1 py33_2)), (y 34, aJ V 40 fy34), (y 35, .inr (7, o7_rii (y 36) py35_1 py35_2)), (y 36, aJ V 40 fy36), (y 37, .inr (7, o7_rii (y 38) py37_1 py37_2)), (y 38, aJ V 40 fy38), (y 39, .inr (7, o7_rii (y 40) py39_1 py39_2)), (y 40, aJ V 40 fy40)]) hP [0, 1, 2, 3, 4, 5, 9, 6, 7, 8] rfl
            have hD := subD hP hD [0, 1, 2, 3, 4, 5, 9, 6, 7, 8] rfl rfl
            exact fiL hx hb hr hlk hK hP hD hS dX9_write_47 (Nat.le_of_ble_eq_true rfl) (Nat.le_of_ble_eq_true rfl) (⟨fy34, fy36, fy38, fy40, (congrArg Prod.fst (hR.symm.trans hT0)), (congrArg Prod.fst (congrArg Prod.snd (hR.symm.trans hT0))), (congrArg Prod.fst (congrArg Prod.snd (congrArg Prod.snd (hR.symm.trans hT0)))), (congrArg Prod.fst (congrArg Prod.snd (congrArg Prod.snd (congrArg Prod.snd (hR.symm.trans hT0))))), (congrArg Prod.snd (congrArg Prod.snd (congrArg Prod.snd (congrArg Prod.snd (hR.symm.trans hT0))))), rfl⟩)
      · have hP : va_P V.1 vwCl [(y 0, .inr (9, o9_rirrrrrrrrvviii (y 1) py0_1 (y 2) (y 10) (y 19) (y 25) (y 26) (y 30) (y 31) (y 32) o10 o11 py0_12 py0_13 py0_14)), (y 30, aT V 4 (va_up (va_up (va_up (va_up (fun _ => none) 0 (some (y 33))) 1 (some (y 35))) 2 (some (y 37))) 3 (some (y 39)))), (y 33, .inr (7, o7_rii (y 34) py33_1 py33_2)), (y 34, aJ V 40 fy34), (y 35, .inr (7, o7_rii (y 36) py35_1 py35_2)), (y 36, aJ V 40 fy36), (y 38, aJ V 40 fy38), (y 39, .inr (7, o7_rii (y 40) py39_1 py39_2)), (y 40, aJ V 40 fy40), (y 37, .inr (7, o7_rii (y 38) py37_1 py37_2))] H := hP
        have hD := cpD hP hD
        replace hR := te hR (by rw [← et_70]; decide)
        have b_85 : iv (-1) (-1) py37_1 := iv_l1 (Int32.not_le.mp c_69) bpy37_1 (iv_c (0 : Int32) (a := 0) (b := 0) (by decide)) (by decide)
        refine lv_if_eq (tgt := 31) hx hb dX9_write_24 (by decide) (fun c_87 => absurd c_87 (by decide)) (fun _ => ?_)
        refine lv_ldc2 (v := (-6)) hx hb hown (hg _ q_5_188) dX9_write_27 ?_
        have hP := subP (ws' := [(y 0, .inr (9, o9_rirrrrrrrrvviii (y 1) py0_1 (y 2) (y 10) (y 19) (y 25) (y 26) (y 30) (y 31) (y 32) o10 o11 py0_12 py0_13 py0_14)), (y 30, aT V 4 (va_up (va_up (va_up (va_up (fun _ => none) 0 (some (y 33))) 1 (some (y 35))) 2 (some (y 37))) 3 (some (y 39)))), (y 33, .inr (7, o7_rii (y 34) py33_1 py33_2)), (y 34, aJ V 40 fy34), (y 35, .inr (7, o7_rii (y 36) py35_1 py35_2)), (y 36, aJ V 40 fy36), (y 37, .inr (7, o7_rii (y 38) py37_1 py37_2)), (y 38, aJ V 40 fy38), (y 39, .inr (7, o7_rii (y 40) py39_1 py39_2)), (y 40, aJ V 40 fy40)]) hP [0, 1, 2, 3, 4, 5, 9, 6, 7, 8] rfl
        have hD := subD hP hD [0, 1, 2, 3, 4, 5, 9, 6, 7, 8] rfl rfl
        exact fiL hx hb hr hlk hK hP hD hS dX9_write_30 (Nat.le_of_ble_eq_true rfl) (Nat.le_of_ble_eq_true rfl) (⟨fy34, fy36, fy38, fy40, (congrArg Prod.fst (hR.symm.trans hT0)), (congrArg Prod.fst (congrArg Prod.snd (hR.symm.trans hT0))), (congrArg Prod.fst (congrArg Prod.snd (congrArg Prod.snd (hR.symm.trans hT0)))), (congrArg Prod.fst (congrArg Prod.snd (congrArg Prod.snd (congrArg Prod.snd (hR.symm.trans hT0))))), (congrArg Prod.snd (congrArg Prod.snd (congrArg Prod.snd (congrArg Prod.snd (hR.symm.trans hT0))))), rfl⟩)
    · replace hR := te hR (by decide)
      replace hR := te hR (by decide)
      replace hR := te hR (by decide)
      refine va_aldq hx hb hK hP 1 4 rfl rfl (vin (by decide +kernel)) dX9_write_16 ?_
      refine W.eq (g2 := F0 m 17 ls (.ref (y 39) :: [])) rfl ?_
      refine lv_astore (lv' := [(5, .ref (y 39)), (0, .ref (y 0)), (1, .int 3), (2, .int a2), (3, .long k3)]) hx hb dX9_write_17 hl (by decide) rfl (fun ls hl => ?_)
      refine lv_aload hx hb dX9_write_19 (lv_at hl 0 rfl) ?_
      refine jnI (wr := [(y 0, .inr (9, o9_rirrrrrrrrvviii (y 1) py0_1 (y 2) (y 10) (y 19) (y 25) (y 26) (y 30) (y 31) (y 32) o10 o11 py0_12 py0_13 py0_14)), (y 30, aT V 4 (va_up (va_up (va_up (va_up (fun _ => none) 0 (some (y 33))) 1 (some (y 35))) 2 (some (y 37))) 3 (some (y 39)))), (y 33, .inr (7, o7_rii (y 34) py33_1 py33_2)), (y 34, aJ V 40 fy34), (y 35, .inr (7, o7_rii (y 36) py35_1 py35_2)), (y 36, aJ V 40 fy36), (y 37, .inr (7, o7_rii (y 38) py37_1 py37_2)), (y 38, aJ V 40 fy38), (y 40, aJ V 40 fy40)]) (rnV (rest := []) ⟨hx, hb, hml, hown, hg⟩ (k_X7_isMissing_3 l V y py39_1 py39_2 bpy39_1) mt_X7_isMissing q_3_231 ⟨Nat.le_of_ble_eq_true rfl, Nat.le_of_ble_eq_true rfl⟩ hK hP hD hS hA hE [8] rfl rfl 8 rfl rfl rfl rfl hl.1 rfl (Nat.le_of_ble_eq_true rfl) dX9_write_21 ⟨Nat.le_of_ble_eq_true rfl, Nat.le_of_ble_eq_true rfl⟩) hP hD hS hA [8] [0, 1, 2, 3, 4, 5, 6, 7, 9] rfl rfl rfl (by decide) (fun r_88 w H locs hw hP hD hS => ?_)
      rcases hw with ⟨c_89, rfl, et_90, rfl⟩ | ⟨c_91, rfl, et_92, rfl⟩
      · have hP : va_P V.1 vwCl [(y 0, .inr (9, o9_rirrrrrrrrvviii (y 1) py0_1 (y 2) (y 10) (y 19) (y 25) (y 26) (y 30) (y 31) (y 32) o10 o11 py0_12 py0_13 py0_14)), (y 30, aT V 4 (va_up (va_up (va_up (va_up (fun _ => none) 0 (some (y 33))) 1 (some (y 35))) 2 (some (y 37))) 3 (some (y 39)))), (y 33, .inr (7, o7_rii (y 34) py33_1 py33_2)), (y 34, aJ V 40 fy34), (y 35, .inr (7, o7_rii (y 36) py35_1 py35_2)), (y 36, aJ V 40 fy36), (y 37, .inr (7, o7_rii (y 38) py37_1 py37_2)), (y 38, aJ V 40 fy38), (y 40, aJ V 40 fy40), (y 39, .inr (7, o7_rii (y 40) py39_1 py39_2))] H := hP
        have hD := cpD hP hD
        replace hR := ti hR et_90.symm
        have b_93 : iv 0 40 py39_1 := iv_e2 c_89 (iv_c (0 : Int32) (a := 0) (b := 0) (by decide)) bpy39_1 (by decide)
        refine lv_if_eq (tgt := 31) hx hb dX9_write_24 (by decide) (fun _ => ?_) (fun c_95 => absurd c_95 (by decide))
        refine lv_iload_n hx hb dX9_write_31 rfl (lv_at hl 3 rfl) ?_
        refine lv_if_lt (tgt := 44) hx hb dX9_write_32 (by decide) (fun c_96 => ?_) (fun c_96 => ?_)
        · replace hR := ti hR c_96
          have b_97 : iv (-2147483648) (-1) a2 := iv_l1 c_96 (iv_top a2) (iv_c (0 : Int32) (a := 0) (b := 0) (by decide)) (by decide)
          refine lv_ldc2 (v := (-7)) hx hb hown (hg _ q_5_189) dX9_write_44 ?_
          have hP := subP (ws' := [(y 0, .inr (9, o9_rirrrrrrrrvviii (y 1) py0_1 (y 2) (y 10) (y 19) (y 25) (y 26) (y 30) (y 31) (y 32) o10 o11 py0_12 py0_13 py0_14)), (y 30, aT V 4 (va_up (va_up (va_up (va_up (fun _ => none) 0 (some (y 33))) 1 (some (y 35))) 2 (some (y 37))) 3 (some (y 39)))), (y 33, .inr (7, o7_rii (y 34) py33_1 py33_2)), (y 34, aJ V 40 fy34), (y 35, .inr (7, o7_rii (y 36) py35_1 py35_2)), (y 36, aJ V 40 fy36), (y 37, .inr (7, o7_rii (y 38) py37_1 py37_2)), (y 38, aJ V 40 fy38), (y 39, .inr (7, o7_rii (y 40) py39_1 py39_2)), (y 40, aJ V 40 fy40)]) hP [0, 1, 2, 3, 4, 5, 6, 7, 9, 8] rfl
          have hD := subD hP hD [0, 1, 2, 3, 4, 5, 6, 7, 9, 8] rfl rfl
          exact fiL hx hb hr hlk hK hP hD hS dX9_write_47 (Nat.le_of_ble_eq_true rfl) (Nat.le_of_ble_eq_true rfl) (⟨fy34, fy36, fy38, fy40, (congrArg Prod.fst (hR.symm.trans hT0)), (congrArg Prod.fst (congrArg Prod.snd (hR.symm.trans hT0))), (congrArg Prod.fst (congrArg Prod.snd (congrArg Prod.snd (hR.symm.trans hT0)))), (congrArg Prod.fst (congrArg Prod.snd (congrArg Prod.snd (congrArg Prod.snd (hR.symm.trans hT0))))), (congrArg Prod.snd (congrArg Prod.snd (congrArg Prod.snd (congrArg Prod.snd (hR.symm.trans hT0))))), rfl⟩)
        · replace hR := te hR c_96
          have b_98 : iv 0 2147483647 a2 := iv_e2 (Int32.not_lt.mp c_96) (iv_c (0 : Int32) (a := 0) (b := 0) (by decide)) (iv_top a2) (by decide)
          refine lv_iload_n hx hb dX9_write_35 rfl (lv_at hl 3 rfl) ?_
          refine lv_aload hx hb dX9_write_36 (lv_at hl 0 rfl) ?_
          refine va_get (ci := 7) (v := .int py39_1) (C := RX7) (T := TX7) (N := 3) hx hb hg inX7 hown hK hP 9 rfl rfl 1 (by decide) (hg _ q_2_2) (fun _ h9 => h9) rfl dX9_write_38 ?_
          refine lv_icmp_lt (tgt := 48) hx hb dX9_write_41 (by decide) (fun c_99 => ?_) (fun c_99 => ?_)
          · replace hR := ti hR c_99
            have b_100 : iv 0 39 a2 := iv_l1 c_99 b_98 b_93 (by decide)
            have b_101 : iv 1 40 py39_1 := iv_l2 c_99 b_98 b_93 (by decide)
            refine lv_aload hx hb dX9_write_48 (lv_at hl 0 rfl) ?_
            refine va_get (ci := 7) (v := .ref (y 40)) (C := RX7) (T := TX7) (N := 3) hx hb hg inX7 hown hK hP 9 rfl rfl 0 (by decide) (hg _ q_1_239) (fun _ h9 => h9) rfl dX9_write_50 ?_
            refine lv_iload_n hx hb dX9_write_53 rfl (lv_at hl 3 rfl) ?_
            refine lv_aload hx hb dX9_write_54 (lv_at hl 0 rfl) ?_
            refine lv_lload_n hx hb dX9_write_56 rfl (lv_at hl 4 rfl) ?_
            refine jnL (wr := [(y 0, .inr (9, o9_rirrrrrrrrvviii (y 1) py0_1 (y 2) (y 10) (y 19) (y 25) (y 26) (y 30) (y 31) (y 32) o10 o11 py0_12 py0_13 py0_14)), (y 30, aT V 4 (va_up (va_up (va_up (va_up (fun _ => none) 0 (some (y 33))) 1 (some (y 35))) 2 (some (y 37))) 3 (some (y 39)))), (y 33, .inr (7, o7_rii (y 34) py33_1 py33_2)), (y 34, aJ V 40 fy34), (y 35, .inr (7, o7_rii (y 36) py35_1 py35_2)), (y 36, aJ V 40 fy36), (y 37, .inr (7, o7_rii (y 38) py37_1 py37_2)), (y 38, aJ V 40 fy38), (y 40, aJ V 40 fy40)]) (rnV (rest := [.int a2, .ref (y 40)]) ⟨hx, hb, hml, hown, hg⟩ (k_X7_cut_3 l V y k3 py39_1 py39_2 (iv_w b_101 (by decide))) mt_X7_cut q_5_190 ⟨Nat.le_of_ble_eq_true rfl, Nat.le_of_ble_eq_true rfl⟩ hK hP hD hS hA hE [9] rfl rfl 9 rfl rfl rfl rfl hl.1 rfl (Nat.le_of_ble_eq_true rfl) dX9_write_57 ⟨Nat.le_of_ble_eq_true rfl, Nat.le_of_ble_eq_true rfl⟩) hP hD hS hA [9] [0, 1, 2, 3, 4, 5, 6, 7, 8] rfl rfl rfl (by decide) (fun r_102 w H locs hw hP hD hS => ?_)
            obtain ⟨et_103, rfl⟩ := hw
            replace hR := tb hR et_103
            have hP : va_P V.1 vwCl [(y 0, .inr (9, o9_rirrrrrrrrvviii (y 1) py0_1 (y 2) (y 10) (y 19) (y 25) (y 26) (y 30) (y 31) (y 32) o10 o11 py0_12 py0_13 py0_14)), (y 30, aT V 4 (va_up (va_up (va_up (va_up (fun _ => none) 0 (some (y 33))) 1 (some (y 35))) 2 (some (y 37))) 3 (some (y 39)))), (y 33, .inr (7, o7_rii (y 34) py33_1 py33_2)), (y 34, aJ V 40 fy34), (y 35, .inr (7, o7_rii (y 36) py35_1 py35_2)), (y 36, aJ V 40 fy36), (y 37, .inr (7, o7_rii (y 38) py37_1 py37_2)), (y 38, aJ V 40 fy38), (y 40, aJ V 40 fy40), (y 39, .inr (7, o7_rii (y 40) py39_1 py39_2))] H := hP
            have hD := cpD hP hD
            refine va_last hx hb hK hP hD hS 8 2 rfl rfl (iv_in b_100 (by decide)) dX9_write_60 (fun H locs hP hD hS => ?_)
            obtain ⟨f_105, ef_105, hP, hD⟩ : ∃ f_105 : Nat → Int64, f_105 = (vp_updL fy40 (a2 : Int32).toNatClampNeg r_102) ∧ va_P V.1 vwCl [(y 0, .inr (9, o9_rirrrrrrrrvviii (y 1) py0_1 (y 2) (y 10) (y 19) (y 25) (y 26) (y 30) (y 31) (y 32) o10 o11 py0_12 py0_13 py0_14)), (y 30, aT V 4 (va_up (va_up (va_up (va_up (fun _ => none) 0 (some (y 33))) 1 (some (y 35))) 2 (some (y 37))) 3 (some (y 39)))), (y 33, .inr (7, o7_rii (y 34) py33_1 py33_2)), (y 34, aJ V 40 fy34), (y 35, .inr (7, o7_rii (y 36) py35_1 py35_2)), (y 36, aJ V 40 fy36), (y 37, .inr (7, o7_rii (y 38) py37_1 py37_2)), (y 38, aJ V 40 fy38), (y 40, aJ V 40 f_105), (y 39, .inr (7, o7_rii (y 40) py39_1 py39_2))] H ∧ va_D A [(y 0, .inr (9, o9_rirrrrrrrrvviii (y 1) py0_1 (y 2) (y 10) (y 19) (y 25) (y 26) (y 30) (y 31) (y 32) o10 o11 py0_12 py0_13 py0_14)), (y 30, aT V 4 (va_up (va_up (va_up (va_up (fun _ => none) 0 (some (y 33))) 1 (some (y 35))) 2 (some (y 37))) 3 (some (y 39)))), (y 33, .inr (7, o7_rii (y 34) py33_1 py33_2)), (y 34, aJ V 40 fy34), (y 35, .inr (7, o7_rii (y 36) py35_1 py35_2)), (y 36, aJ V 40 fy36), (y 37, .inr (7, o7_rii (y 38) py37_1 py37_2)), (y 38, aJ V 40 fy38), (y 40, aJ V 40 f_105), (y 39, .inr (7, o7_rii (y 40) py39_1 py39_2))] := ⟨_, rfl, hP, hD⟩
            replace hR := tb hR ef_105
            refine lv_aload hx hb dX9_write_61 (lv_at hl 0 rfl) ?_
            refine va_get (ci := 7) (v := .ref (y 40)) (C := RX7) (T := TX7) (N := 3) hx hb hg inX7 hown hK hP 9 rfl rfl 0 (by decide) (hg _ q_1_239) (fun _ h9 => h9) rfl dX9_write_63 ?_
            refine lv_iload_n hx hb dX9_write_66 rfl (lv_at hl 3 rfl) ?_
            refine va_lald hx hb hK hP 8 2 rfl rfl (iv_in b_100 (by decide)) dX9_write_67 ?_
            refine lv_topl (fun j_106 ej_106 => ?_)
            replace hR := tb hR ej_106
            have hP := subP (ws' := [(y 0, .inr (9, o9_rirrrrrrrrvviii (y 1) py0_1 (y 2) (y 10) (y 19) (y 25) (y 26) (y 30) (y 31) (y 32) o10 o11 py0_12 py0_13 py0_14)), (y 30, aT V 4 (va_up (va_up (va_up (va_up (fun _ => none) 0 (some (y 33))) 1 (some (y 35))) 2 (some (y 37))) 3 (some (y 39)))), (y 33, .inr (7, o7_rii (y 34) py33_1 py33_2)), (y 34, aJ V 40 fy34), (y 35, .inr (7, o7_rii (y 36) py35_1 py35_2)), (y 36, aJ V 40 fy36), (y 37, .inr (7, o7_rii (y 38) py37_1 py37_2)), (y 38, aJ V 40 fy38), (y 39, .inr (7, o7_rii (y 40) py39_1 py39_2)), (y 40, aJ V 40 f_105)]) hP [0, 1, 2, 3, 4, 5, 6, 7, 9, 8] rfl
            have hD := subD hP hD [0, 1, 2, 3, 4, 5, 6, 7, 9, 8] rfl rfl
            exact fiL hx hb hr hlk hK hP hD hS dX9_write_68 (Nat.le_of_ble_eq_true rfl) (Nat.le_of_ble_eq_true rfl) (⟨fy34, fy36, fy38, f_105, (congrArg Prod.fst (hR.symm.trans hT0)), (congrArg Prod.fst (congrArg Prod.snd (hR.symm.trans hT0))), (congrArg Prod.fst (congrArg Prod.snd (congrArg Prod.snd (hR.symm.trans hT0)))), (congrArg Prod.fst (congrArg Prod.snd (congrArg Prod.snd (congrArg Prod.snd (hR.symm.trans hT0))))), (congrArg Prod.snd (congrArg Prod.snd (congrArg Prod.snd (congrArg Prod.snd (hR.symm.trans hT0))))), rfl⟩)
          · replace hR := te hR c_99
            refine lv_ldc2 (v := (-7)) hx hb hown (hg _ q_5_189) dX9_write_44 ?_
            have hP := subP (ws' := [(y 0, .inr (9, o9_rirrrrrrrrvviii (y 1) py0_1 (y 2) (y 10) (y 19) (y 25) (y 26) (y 30) (y 31) (y 32) o10 o11 py0_12 py0_13 py0_14)), (y 30, aT V 4 (va_up (va_up (va_up (va_up (fun _ => none) 0 (some (y 33))) 1 (some (y 35))) 2 (some (y 37))) 3 (some (y 39)))), (y 33, .inr (7, o7_rii (y 34) py33_1 py33_2)), (y 34, aJ V 40 fy34), (y 35, .inr (7, o7_rii (y 36) py35_1 py35_2)), (y 36, aJ V 40 fy36), (y 37, .inr (7, o7_rii (y 38) py37_1 py37_2)), (y 38, aJ V 40 fy38), (y 39, .inr (7, o7_rii (y 40) py39_1 py39_2)), (y 40, aJ V 40 fy40)]) hP [0, 1, 2, 3, 4, 5, 6, 7, 9, 8] rfl
            have hD := subD hP hD [0, 1, 2, 3, 4, 5, 6, 7, 9, 8] rfl rfl
            exact fiL hx hb hr hlk hK hP hD hS dX9_write_47 (Nat.le_of_ble_eq_true rfl) (Nat.le_of_ble_eq_true rfl) (⟨fy34, fy36, fy38, fy40, (congrArg Prod.fst (hR.symm.trans hT0)), (congrArg Prod.fst (congrArg Prod.snd (hR.symm.trans hT0))), (congrArg Prod.fst (congrArg Prod.snd (congrArg Prod.snd (hR.symm.trans hT0)))), (congrArg Prod.fst (congrArg Prod.snd (congrArg Prod.snd (congrArg Prod.snd (hR.symm.trans hT0))))), (congrArg Prod.snd (congrArg Prod.snd (congrArg Prod.snd (congrArg Prod.snd (hR.symm.trans hT0))))), rfl⟩)
      · have hP : va_P V.1 vwCl [(y 0, .inr (9, o9_rirrrrrrrrvviii (y 1) py0_1 (y 2) (y 10) (y 19) (y 25) (y 26) (y 30) (y 31) (y 32) o10 o11 py0_12 py0_13 py0_14)), (y 30, aT V 4 (va_up (va_up (va_up (va_up (fun _ => none) 0 (some (y 33))) 1 (some (y 35))) 2 (some (y 37))) 3 (some (y 39)))), (y 33, .inr (7, o7_rii (y 34) py33_1 py33_2)), (y 34, aJ V 40 fy34), (y 35, .inr (7, o7_rii (y 36) py35_1 py35_2)), (y 36, aJ V 40 fy36), (y 37, .inr (7, o7_rii (y 38) py37_1 py37_2)), (y 38, aJ V 40 fy38), (y 40, aJ V 40 fy40), (y 39, .inr (7, o7_rii (y 40) py39_1 py39_2))] H := hP
        have hD := cpD hP hD
        replace hR := te hR (by rw [← et_92]; decide)
        have b_107 : iv (-1) (-1) py39_1 := iv_l1 (Int32.not_le.mp c_91) bpy39_1 (iv_c (0 : Int32) (a := 0) (b := 0) (by decide)) (by decide)
        refine lv_if_eq (tgt := 31) hx hb dX9_write_24 (by decide) (fun c_109 => absurd c_109 (by decide)) (fun _ => ?_)
        refine lv_ldc2 (v := (-6)) hx hb hown (hg _ q_5_188) dX9_write_27 ?_
        have hP := subP (ws' := [(y 0, .inr (9, o9_rirrrrrrrrvviii (y 1) py0_1 (y 2) (y 10) (y 19) (y 25) (y 26) (y 30) (y 31) (y 32) o10 o11 py0_12 py0_13 py0_14)), (y 30, aT V 4 (va_up (va_up (va_up (va_up (fun _ => none) 0 (some (y 33))) 1 (some (y 35))) 2 (some (y 37))) 3 (some (y 39)))), (y 33, .inr (7, o7_rii (y 34) py33_1 py33_2)), (y 34, aJ V 40 fy34), (y 35, .inr (7, o7_rii (y 36) py35_1 py35_2)), (y 36, aJ V 40 fy36), (y 37, .inr (7, o7_rii (y 38) py37_1 py37_2)), (y 38, aJ V 40 fy38), (y 39, .inr (7, o7_rii (y 40) py39_1 py39_2)), (y 40, aJ V 40 fy40)]) hP [0, 1, 2, 3, 4, 5, 6, 7, 9, 8] rfl
        have hD := subD hP hD [0, 1, 2, 3, 4, 5, 6, 7, 9, 8] rfl rfl
        exact fiL hx hb hr hlk hK hP hD hS dX9_write_30 (Nat.le_of_ble_eq_true rfl) (Nat.le_of_ble_eq_true rfl) (⟨fy34, fy36, fy38, fy40, (congrArg Prod.fst (hR.symm.trans hT0)), (congrArg Prod.fst (congrArg Prod.snd (hR.symm.trans hT0))), (congrArg Prod.fst (congrArg Prod.snd (congrArg Prod.snd (hR.symm.trans hT0)))), (congrArg Prod.fst (congrArg Prod.snd (congrArg Prod.snd (congrArg Prod.snd (hR.symm.trans hT0))))), (congrArg Prod.snd (congrArg Prod.snd (congrArg Prod.snd (congrArg Prod.snd (hR.symm.trans hT0))))), rfl⟩)
theorem dX9_lists_0 : decode cX9_lists 0 = .ok (.iload_n 1, 1) := by decide +kernel
theorem dX9_lists_1 : decode cX9_lists 1 = .ok (.invokestatic 205, 3) := by decide +kernel
theorem dX9_lists_4 : decode cX9_lists 4 = .ok (.ifCond .eq 11, 3) := by decide +kernel
theorem dX9_lists_15 : decode cX9_lists 15 = .ok (.bipush (-2), 2) := by decide +kernel
theorem dX9_lists_17 : decode cX9_lists 17 = .ok (.ireturn, 1) := by decide +kernel
theorem dX9_lists_7 : decode cX9_lists 7 = .ok (.aload_n 0, 1) := by decide +kernel
theorem dX9_lists_8 : decode cX9_lists 8 = .ok (.iload_n 2, 1) := by decide +kernel
theorem dX9_lists_9 : decode cX9_lists 9 = .ok (.invokevirtual 128, 3) := by decide +kernel
theorem dX9_lists_12 : decode cX9_lists 12 = .ok (.ifCond .ne 6, 3) := by decide +kernel
theorem dX9_lists_18 : decode cX9_lists 18 = .ok (.aload_n 0, 1) := by decide +kernel
theorem dX9_lists_19 : decode cX9_lists 19 = .ok (.getfield 54, 3) := by decide +kernel
theorem dX9_lists_22 : decode cX9_lists 22 = .ok (.iload_n 1, 1) := by decide +kernel
theorem dX9_lists_23 : decode cX9_lists 23 = .ok (.aaload, 1) := by decide +kernel
theorem dX9_lists_24 : decode cX9_lists 24 = .ok (.astore_n 3, 1) := by decide +kernel
theorem dX9_lists_25 : decode cX9_lists 25 = .ok (.aload_n 3, 1) := by decide +kernel
theorem dX9_lists_26 : decode cX9_lists 26 = .ok (.invokevirtual 208, 3) := by decide +kernel
theorem dX9_lists_29 : decode cX9_lists 29 = .ok (.ifCond .eq 6, 3) := by decide +kernel
theorem dX9_lists_35 : decode cX9_lists 35 = .ok (.aload_n 0, 1) := by decide +kernel
theorem dX9_lists_36 : decode cX9_lists 36 = .ok (.getfield 113, 3) := by decide +kernel
theorem dX9_lists_39 : decode cX9_lists 39 = .ok (.istore 4, 2) := by decide +kernel
theorem dX9_lists_41 : decode cX9_lists 41 = .ok (.iconst 0, 1) := by decide +kernel
theorem dX9_lists_42 : decode cX9_lists 42 = .ok (.istore 5, 2) := by decide +kernel
theorem dX9_lists_44 : decode cX9_lists 44 = .ok (.iload 5, 2) := by decide +kernel
theorem dX9_lists_46 : decode cX9_lists 46 = .ok (.aload_n 3, 1) := by decide +kernel
theorem dX9_lists_47 : decode cX9_lists 47 = .ok (.getfield 200, 3) := by decide +kernel
theorem dX9_lists_50 : decode cX9_lists 50 = .ok (.if_icmp .ge 39, 3) := by decide +kernel
theorem dX9_lists_89 : decode cX9_lists 89 = .ok (.aload_n 3, 1) := by decide +kernel
theorem dX9_lists_90 : decode cX9_lists 90 = .ok (.getfield 200, 3) := by decide +kernel
theorem dX9_lists_93 : decode cX9_lists 93 = .ok (.ireturn, 1) := by decide +kernel
theorem dX9_lists_53 : decode cX9_lists 53 = .ok (.aload_n 0, 1) := by decide +kernel
theorem dX9_lists_54 : decode cX9_lists 54 = .ok (.getfield 34, 3) := by decide +kernel
theorem dX9_lists_57 : decode cX9_lists 57 = .ok (.iload 4, 2) := by decide +kernel
theorem dX9_lists_59 : decode cX9_lists 59 = .ok (.aload_n 0, 1) := by decide +kernel
theorem dX9_lists_60 : decode cX9_lists 60 = .ok (.getfield 116, 3) := by decide +kernel
theorem dX9_lists_63 : decode cX9_lists 63 = .ok (.iconst 0, 1) := by decide +kernel
theorem dX9_lists_64 : decode cX9_lists 64 = .ok (.invokevirtual 155, 3) := by decide +kernel
theorem dX9_lists_67 : decode cX9_lists 67 = .ok (.istore 4, 2) := by decide +kernel
theorem dX9_lists_69 : decode cX9_lists 69 = .ok (.aload_n 3, 1) := by decide +kernel
theorem dX9_lists_70 : decode cX9_lists 70 = .ok (.getfield 201, 3) := by decide +kernel
theorem dX9_lists_73 : decode cX9_lists 73 = .ok (.iload 5, 2) := by decide +kernel
theorem dX9_lists_75 : decode cX9_lists 75 = .ok (.iload 4, 2) := by decide +kernel
theorem dX9_lists_77 : decode cX9_lists 77 = .ok (.iload_n 2, 1) := by decide +kernel
theorem dX9_lists_78 : decode cX9_lists 78 = .ok (.invokestatic 132, 3) := by decide +kernel
theorem dX9_lists_81 : decode cX9_lists 81 = .ok (.i2l, 1) := by decide +kernel
theorem dX9_lists_82 : decode cX9_lists 82 = .ok (.lastore, 1) := by decide +kernel
theorem dX9_lists_83 : decode cX9_lists 83 = .ok (.iinc 5 1, 3) := by decide +kernel
theorem dX9_lists_86 : decode cX9_lists 86 = .ok (.goto (-42), 3) := by decide +kernel
theorem dX9_lists_32 : decode cX9_lists 32 = .ok (.bipush (-6), 2) := by decide +kernel
theorem dX9_lists_34 : decode cX9_lists 34 = .ok (.ireturn, 1) := by decide +kernel
set_option maxRecDepth 100000 in
noncomputable def B_k_X9_lists_0_1 (D9 : Nat → Int32) (a2 : Int32) (fy36 : Nat → Int64) (fy38 : Nat → Int64) (fy40 : Nat → Int64) (py0_13 : Int32) (py2_1 : Int32) (py33_1 : Int32) (u_50 : Int32) (u_51 : Int32) (f_55 : Nat → Int64) : (Int32 × Int32 × (Nat → Int64)) ⊕ (Int32 × (Nat → Int64) × (Nat → Int64) × (Nat → Int64) × (Nat → Int64)) := if py33_1 ≤ u_50 then (Sum.inr ((py33_1, f_55, fy36, fy38, fy40))) else (bnd (bhS D9 u_51 py0_13 (0 : Int32) (py2_1 : Int32).toNatClampNeg : Int32) fun (r_60 : Int32) => bnd (F_k_X9_stackIn_0 r_60 a2 : Int32) fun (r_66 : Int32) => bnd (r_66.toInt64 : Int64) fun (j_69 : Int64) => bnd ((vp_updL f_55 (u_50 : Int32).toNatClampNeg j_69) : Nat → Int64) fun (f_70 : Nat → Int64) => bnd (u_50 + 1 : Int32) fun (x_71 : Int32) => Sum.inl (x_71, r_60, f_70))
noncomputable def L_k_X9_lists_0_1 (D9 : Nat → Int32) (a2 : Int32) (fy36 : Nat → Int64) (fy38 : Nat → Int64) (fy40 : Nat → Int64) (py0_13 : Int32) (py2_1 : Int32) (py33_1 : Int32) (q9 : Int32 × Int32 × (Nat → Int64)) : (Int32 × Int32 × (Nat → Int64)) ⊕ (Int32 × (Nat → Int64) × (Nat → Int64) × (Nat → Int64) × (Nat → Int64)) := B_k_X9_lists_0_1 D9 a2 fy36 fy38 fy40 py0_13 py2_1 py33_1 q9.1 q9.2.1 q9.2.2
set_option maxRecDepth 100000 in
noncomputable def B_k_X9_lists_0_2 (D9 : Nat → Int32) (a2 : Int32) (fy34 : Nat → Int64) (fy38 : Nat → Int64) (fy40 : Nat → Int64) (py0_13 : Int32) (py2_1 : Int32) (py35_1 : Int32) (u_83 : Int32) (u_84 : Int32) (f_88 : Nat → Int64) : (Int32 × Int32 × (Nat → Int64)) ⊕ (Int32 × (Nat → Int64) × (Nat → Int64) × (Nat → Int64) × (Nat → Int64)) := if py35_1 ≤ u_83 then (Sum.inr ((py35_1, fy34, f_88, fy38, fy40))) else (bnd (bhS D9 u_84 py0_13 (0 : Int32) (py2_1 : Int32).toNatClampNeg : Int32) fun (r_93 : Int32) => bnd (F_k_X9_stackIn_0 r_93 a2 : Int32) fun (r_99 : Int32) => bnd (r_99.toInt64 : Int64) fun (j_102 : Int64) => bnd ((vp_updL f_88 (u_83 : Int32).toNatClampNeg j_102) : Nat → Int64) fun (f_103 : Nat → Int64) => bnd (u_83 + 1 : Int32) fun (x_104 : Int32) => Sum.inl (x_104, r_93, f_103))
noncomputable def L_k_X9_lists_0_2 (D9 : Nat → Int32) (a2 : Int32) (fy34 : Nat → Int64) (fy38 : Nat → Int64) (fy40 : Nat → Int64) (py0_13 : Int32) (py2_1 : Int32) (py35_1 : Int32) (q9 : Int32 × Int32 × (Nat → Int64)) : (Int32 × Int32 × (Nat → Int64)) ⊕ (Int32 × (Nat → Int64) × (Nat → Int64) × (Nat → Int64) × (Nat → Int64)) := B_k_X9_lists_0_2 D9 a2 fy34 fy38 fy40 py0_13 py2_1 py35_1 q9.1 q9.2.1 q9.2.2
set_option maxRecDepth 100000 in
noncomputable def B_k_X9_lists_0_3 (D9 : Nat → Int32) (a2 : Int32) (fy34 : Nat → Int64) (fy36 : Nat → Int64) (fy40 : Nat → Int64) (py0_13 : Int32) (py2_1 : Int32) (py37_1 : Int32) (u_116 : Int32) (u_117 : Int32) (f_121 : Nat → Int64) : (Int32 × Int32 × (Nat → Int64)) ⊕ (Int32 × (Nat → Int64) × (Nat → Int64) × (Nat → Int64) × (Nat → Int64)) := if py37_1 ≤ u_116 then (Sum.inr ((py37_1, fy34, fy36, f_121, fy40))) else (bnd (bhS D9 u_117 py0_13 (0 : Int32) (py2_1 : Int32).toNatClampNeg : Int32) fun (r_126 : Int32) => bnd (F_k_X9_stackIn_0 r_126 a2 : Int32) fun (r_132 : Int32) => bnd (r_132.toInt64 : Int64) fun (j_135 : Int64) => bnd ((vp_updL f_121 (u_116 : Int32).toNatClampNeg j_135) : Nat → Int64) fun (f_136 : Nat → Int64) => bnd (u_116 + 1 : Int32) fun (x_137 : Int32) => Sum.inl (x_137, r_126, f_136))
noncomputable def L_k_X9_lists_0_3 (D9 : Nat → Int32) (a2 : Int32) (fy34 : Nat → Int64) (fy36 : Nat → Int64) (fy40 : Nat → Int64) (py0_13 : Int32) (py2_1 : Int32) (py37_1 : Int32) (q9 : Int32 × Int32 × (Nat → Int64)) : (Int32 × Int32 × (Nat → Int64)) ⊕ (Int32 × (Nat → Int64) × (Nat → Int64) × (Nat → Int64) × (Nat → Int64)) := B_k_X9_lists_0_3 D9 a2 fy34 fy36 fy40 py0_13 py2_1 py37_1 q9.1 q9.2.1 q9.2.2
set_option maxRecDepth 100000 in
noncomputable def B_k_X9_lists_0_4 (D9 : Nat → Int32) (a2 : Int32) (fy34 : Nat → Int64) (fy36 : Nat → Int64) (fy38 : Nat → Int64) (py0_13 : Int32) (py2_1 : Int32) (py39_1 : Int32) (u_149 : Int32) (u_150 : Int32) (f_154 : Nat → Int64) : (Int32 × Int32 × (Nat → Int64)) ⊕ (Int32 × (Nat → Int64) × (Nat → Int64) × (Nat → Int64) × (Nat → Int64)) := if py39_1 ≤ u_149 then (Sum.inr ((py39_1, fy34, fy36, fy38, f_154))) else (bnd (bhS D9 u_150 py0_13 (0 : Int32) (py2_1 : Int32).toNatClampNeg : Int32) fun (r_159 : Int32) => bnd (F_k_X9_stackIn_0 r_159 a2 : Int32) fun (r_165 : Int32) => bnd (r_165.toInt64 : Int64) fun (j_168 : Int64) => bnd ((vp_updL f_154 (u_149 : Int32).toNatClampNeg j_168) : Nat → Int64) fun (f_169 : Nat → Int64) => bnd (u_149 + 1 : Int32) fun (x_170 : Int32) => Sum.inl (x_170, r_159, f_169))
noncomputable def L_k_X9_lists_0_4 (D9 : Nat → Int32) (a2 : Int32) (fy34 : Nat → Int64) (fy36 : Nat → Int64) (fy38 : Nat → Int64) (py0_13 : Int32) (py2_1 : Int32) (py39_1 : Int32) (q9 : Int32 × Int32 × (Nat → Int64)) : (Int32 × Int32 × (Nat → Int64)) ⊕ (Int32 × (Nat → Int64) × (Nat → Int64) × (Nat → Int64) × (Nat → Int64)) := B_k_X9_lists_0_4 D9 a2 fy34 fy36 fy38 py0_13 py2_1 py39_1 q9.1 q9.2.1 q9.2.2
set_option maxRecDepth 100000 in
noncomputable def F_k_X9_lists_0 (D9 : Nat → Int32) (a1 : Int32) (a2 : Int32) (py0_12 : Int32) (py0_13 : Int32) (py2_1 : Int32) (py33_1 : Int32) (fy34 : Nat → Int64) (py35_1 : Int32) (fy36 : Nat → Int64) (py37_1 : Int32) (fy38 : Nat → Int64) (py39_1 : Int32) (fy40 : Nat → Int64) : Int32 × (Nat → Int64) × (Nat → Int64) × (Nat → Int64) × (Nat → Int64) := if F_k_X9_isTray_0 a1 = 0 then ((((-2) : Int32), fy34, fy36, fy38, fy40)) else (if F_k_X9_isTray_0 a1 = 1 then ((((-2) : Int32), fy34, fy36, fy38, fy40)) else (if F_k_X9_isHill_0 a2 py2_1 = 0 then ((((-2) : Int32), fy34, fy36, fy38, fy40)) else (if F_k_X9_isHill_0 a2 py2_1 = 1 then ((((-2) : Int32), fy34, fy36, fy38, fy40)) else (if a1 = 0 then (if F_k_X7_isMissing_0 py33_1 = 0 then (W9 (L_k_X9_lists_0_1 D9 a2 fy36 fy38 fy40 py0_13 py2_1 py33_1) (0, py0_12, fy34)) else ((((-6) : Int32), fy34, fy36, fy38, fy40))) else (if a1 = 1 then (if F_k_X7_isMissing_1 py35_1 = 0 then (W9 (L_k_X9_lists_0_2 D9 a2 fy34 fy38 fy40 py0_13 py2_1 py35_1) (0, py0_12, fy36)) else ((((-6) : Int32), fy34, fy36, fy38, fy40))) else (if a1 = 2 then (if F_k_X7_isMissing_2 py37_1 = 0 then (W9 (L_k_X9_lists_0_3 D9 a2 fy34 fy36 fy40 py0_13 py2_1 py37_1) (0, py0_12, fy38)) else ((((-6) : Int32), fy34, fy36, fy38, fy40))) else (if F_k_X7_isMissing_3 py39_1 = 0 then (W9 (L_k_X9_lists_0_4 D9 a2 fy34 fy36 fy38 py0_13 py2_1 py39_1) (0, py0_12, fy40)) else ((((-6) : Int32), fy34, fy36, fy38, fy40)))))))))
set_option maxHeartbeats 4000000 in
set_option maxRecDepth 100000 in
theorem k_X9_lists_0 (l : Launch) (V : GV) (y : Nat → Nat) (D9 : Nat → Int32) (a1 : Int32) (a2 : Int32) (py0_1 : Int32) (o10 : Value) (o11 : Value) (py0_12 : Int32) (py0_13 : Int32) (py0_14 : Int32) (py2_0 : Int32) (py2_1 : Int32) (py2_2 : Int32) (py2_3 : Int32) (py2_4 : Int32) (py2_5 : Int32) (py2_13 : Int32) (py2_14 : Int32) (py2_15 : Int32) (py2_16 : Int32) (py2_17 : Int32) (fy3 : Nat → Int32) (fy9 : Nat → Int32) (fy20 : Nat → Int32) (fy21 : Nat → Int32) (fy22 : Nat → Int32) (py33_1 : Int32) (py33_2 : Int32) (fy34 : Nat → Int64) (py35_1 : Int32) (py35_2 : Int32) (fy36 : Nat → Int64) (py37_1 : Int32) (py37_2 : Int32) (fy38 : Nat → Int64) (py39_1 : Int32) (py39_2 : Int32) (fy40 : Nat → Int64) (bpy0_1 : iv 0 900 py0_1) (bpy0_12 : iv 0 9999 py0_12) (bpy0_13 : iv 0 9 py0_13) (bpy2_1 : iv 0 4 py2_1) (bpy2_2 : iv 0 4 py2_2) (bpy2_3 : iv 0 8 py2_3) (bpy2_4 : iv 0 9999 py2_4) (bpy2_5 : iv 0 9 py2_5) (bpy2_13 : iv 0 900 py2_13) (bpy2_14 : iv 0 900 py2_14) (bpy2_15 : iv 0 900 py2_15) (bpy2_16 : iv 0 900 py2_16) (bpy2_17 : iv 0 900 py2_17) (tfy20 : ∀ j, iv 0 10 (fy20 j)) (bpy33_1 : iv (-1) 40 py33_1) (bpy35_1 : iv (-1) 40 py35_1) (bpy37_1 : iv (-1) 40 py37_1) (bpy39_1 : iv (-1) 40 py39_1) (hL9 : LW D9 fy3 fy9 py2_14 py2_15 py2_16 py2_17) (hK9 : KN D9 fy20) : Ct l V yX9_lists (.code yX9_lists cX9_lists 6 (some .int)) 6 [.ref (y 0), .int a1, .int a2] [(y 0, .inr (9, o9_rirrrrrrrrvviii (y 1) py0_1 (y 2) (y 10) (y 19) (y 25) (y 26) (y 30) (y 31) (y 32) o10 o11 py0_12 py0_13 py0_14)), (y 2, .inr (1, o1_iiiiiirrrrrrriiiii py2_0 py2_1 py2_2 py2_3 py2_4 py2_5 (y 3) (y 4) (y 5) (y 6) (y 7) (y 8) (y 9) py2_13 py2_14 py2_15 py2_16 py2_17)), (y 3, aI V 4 fy3), (y 9, aI V 900 fy9), (y 19, .inr (4, o4_rrrrrr (y 2) (y 20) (y 21) (y 22) (y 23) (y 24))), (y 20, aI V 2000 fy20), (y 21, aI V 6 fy21), (y 22, aI V 64 fy22), (y 30, aT V 4 (va_up (va_up (va_up (va_up (fun _ => none) 0 (some (y 33))) 1 (some (y 35))) 2 (some (y 37))) 3 (some (y 39)))), (y 33, .inr (7, o7_rii (y 34) py33_1 py33_2)), (y 34, aJ V 40 fy34), (y 35, .inr (7, o7_rii (y 36) py35_1 py35_2)), (y 36, aJ V 40 fy36), (y 37, .inr (7, o7_rii (y 38) py37_1 py37_2)), (y 38, aJ V 40 fy38), (y 39, .inr (7, o7_rii (y 40) py39_1 py39_2)), (y 40, aJ V 40 fy40)] 0 0 (QI V (fun (r : Int32) (w : va_W) => ∃ (g0 : Nat → Int32) (g1 : Nat → Int32) (g2 : Nat → Int32) (g3 : Nat → Int64) (g4 : Nat → Int64) (g5 : Nat → Int64) (g6 : Nat → Int64), (∀ j, iv 0 10 (g0 j)) ∧ iv (-6) 40 r ∧ r = (F_k_X9_lists_0 D9 a1 a2 py0_12 py0_13 py2_1 py33_1 fy34 py35_1 fy36 py37_1 fy38 py39_1 fy40).1 ∧ g3 = (F_k_X9_lists_0 D9 a1 a2 py0_12 py0_13 py2_1 py33_1 fy34 py35_1 fy36 py37_1 fy38 py39_1 fy40).2.1 ∧ g4 = (F_k_X9_lists_0 D9 a1 a2 py0_12 py0_13 py2_1 py33_1 fy34 py35_1 fy36 py37_1 fy38 py39_1 fy40).2.2.1 ∧ g5 = (F_k_X9_lists_0 D9 a1 a2 py0_12 py0_13 py2_1 py33_1 fy34 py35_1 fy36 py37_1 fy38 py39_1 fy40).2.2.2.1 ∧ g6 = (F_k_X9_lists_0 D9 a1 a2 py0_12 py0_13 py2_1 py33_1 fy34 py35_1 fy36 py37_1 fy38 py39_1 fy40).2.2.2.2 ∧ KN D9 g0 ∧ w = [(y 0, .inr (9, o9_rirrrrrrrrvviii (y 1) py0_1 (y 2) (y 10) (y 19) (y 25) (y 26) (y 30) (y 31) (y 32) o10 o11 py0_12 py0_13 py0_14)), (y 2, .inr (1, o1_iiiiiirrrrrrriiiii py2_0 py2_1 py2_2 py2_3 py2_4 py2_5 (y 3) (y 4) (y 5) (y 6) (y 7) (y 8) (y 9) py2_13 py2_14 py2_15 py2_16 py2_17)), (y 3, aI V 4 fy3), (y 9, aI V 900 fy9), (y 19, .inr (4, o4_rrrrrr (y 2) (y 20) (y 21) (y 22) (y 23) (y 24))), (y 20, aI V 2000 g0), (y 21, aI V 6 g1), (y 22, aI V 64 g2), (y 30, aT V 4 (va_up (va_up (va_up (va_up (fun _ => none) 0 (some (y 33))) 1 (some (y 35))) 2 (some (y 37))) 3 (some (y 39)))), (y 33, .inr (7, o7_rii (y 34) py33_1 py33_2)), (y 34, aJ V 40 g3), (y 35, .inr (7, o7_rii (y 36) py35_1 py35_2)), (y 36, aJ V 40 g4), (y 37, .inr (7, o7_rii (y 38) py37_1 py37_2)), (y 38, aJ V 40 g5), (y 39, .inr (7, o7_rii (y 40) py39_1 py39_2)), (y 40, aJ V 40 g6)])) := by
  refine Ct.of (by decide) (Nat.le_of_ble_eq_true rfl) (fun p e s m below meth c A ls hx hb hr hml hown hlk hnm hg hP hK hD hE hA hS hl => ?_)
  have hl : lv_has ls 6 [(0, .ref (y 0)), (1, .int a1), (2, .int a2)] := hl
  obtain ⟨T0, hT0⟩ : ∃ T9, T9 = F_k_X9_lists_0 D9 a1 a2 py0_12 py0_13 py2_1 py33_1 fy34 py35_1 fy36 py37_1 fy38 py39_1 fy40 := ⟨_, rfl⟩
  have hR := hT0.trans (F_k_X9_lists_0.eq_1 ..)
  refine lv_iload_n hx hb dX9_lists_0 rfl (lv_at hl 1 rfl) ?_
  refine jnI (wr := [(y 0, .inr (9, o9_rirrrrrrrrvviii (y 1) py0_1 (y 2) (y 10) (y 19) (y 25) (y 26) (y 30) (y 31) (y 32) o10 o11 py0_12 py0_13 py0_14)), (y 2, .inr (1, o1_iiiiiirrrrrrriiiii py2_0 py2_1 py2_2 py2_3 py2_4 py2_5 (y 3) (y 4) (y 5) (y 6) (y 7) (y 8) (y 9) py2_13 py2_14 py2_15 py2_16 py2_17)), (y 3, aI V 4 fy3), (y 9, aI V 900 fy9), (y 19, .inr (4, o4_rrrrrr (y 2) (y 20) (y 21) (y 22) (y 23) (y 24))), (y 20, aI V 2000 fy20), (y 21, aI V 6 fy21), (y 22, aI V 64 fy22), (y 30, aT V 4 (va_up (va_up (va_up (va_up (fun _ => none) 0 (some (y 33))) 1 (some (y 35))) 2 (some (y 37))) 3 (some (y 39)))), (y 33, .inr (7, o7_rii (y 34) py33_1 py33_2)), (y 34, aJ V 40 fy34), (y 35, .inr (7, o7_rii (y 36) py35_1 py35_2)), (y 36, aJ V 40 fy36), (y 37, .inr (7, o7_rii (y 38) py37_1 py37_2)), (y 38, aJ V 40 fy38), (y 39, .inr (7, o7_rii (y 40) py39_1 py39_2)), (y 40, aJ V 40 fy40)]) (rnS (rest := []) ⟨hx, hb, hml, hown, hg⟩ (k_X9_isTray_0 l V a1) mt_X9_isTray q_3_228 ⟨Nat.le_of_ble_eq_true rfl, Nat.le_of_ble_eq_true rfl⟩ hK hP hD hS hA hE [] rfl rfl rfl hl.1 rfl (Nat.le_of_ble_eq_true rfl) dX9_lists_1 ⟨Nat.le_of_ble_eq_true rfl, Nat.le_of_ble_eq_true rfl⟩) hP hD hS hA [] [0, 1, 2, 3, 4, 5, 6, 7, 8, 9, 10, 11, 12, 13, 14, 15, 16] rfl rfl rfl (by decide) (fun r_1 w H locs hw hP hD hS => ?_)
  rcases hw with ⟨c_2, rfl, et_3, rfl⟩ | ⟨c_4, c_5, rfl, et_6, rfl⟩ | ⟨c_7, c_8, rfl, et_9, rfl⟩
  · have hP : va_P V.1 vwCl [(y 0, .inr (9, o9_rirrrrrrrrvviii (y 1) py0_1 (y 2) (y 10) (y 19) (y 25) (y 26) (y 30) (y 31) (y 32) o10 o11 py0_12 py0_13 py0_14)), (y 2, .inr (1, o1_iiiiiirrrrrrriiiii py2_0 py2_1 py2_2 py2_3 py2_4 py2_5 (y 3) (y 4) (y 5) (y 6) (y 7) (y 8) (y 9) py2_13 py2_14 py2_15 py2_16 py2_17)), (y 3, aI V 4 fy3), (y 9, aI V 900 fy9), (y 19, .inr (4, o4_rrrrrr (y 2) (y 20) (y 21) (y 22) (y 23) (y 24))), (y 20, aI V 2000 fy20), (y 21, aI V 6 fy21), (y 22, aI V 64 fy22), (y 30, aT V 4 (va_up (va_up (va_up (va_up (fun _ => none) 0 (some (y 33))) 1 (some (y 35))) 2 (some (y 37))) 3 (some (y 39)))), (y 33, .inr (7, o7_rii (y 34) py33_1 py33_2)), (y 34, aJ V 40 fy34), (y 35, .inr (7, o7_rii (y 36) py35_1 py35_2)), (y 36, aJ V 40 fy36), (y 37, .inr (7, o7_rii (y 38) py37_1 py37_2)), (y 38, aJ V 40 fy38), (y 39, .inr (7, o7_rii (y 40) py39_1 py39_2)), (y 40, aJ V 40 fy40)] H := hP
    have hD := cpD hP hD
    replace hR := ti hR et_3.symm
    have b_10 : iv (-2147483648) (-1) a1 := iv_l1 c_2 (iv_top a1) (iv_c (0 : Int32) (a := 0) (b := 0) (by decide)) (by decide)
    refine lv_if_eq (tgt := 15) hx hb dX9_lists_4 (by decide) (fun _ => ?_) (fun c_12 => absurd c_12 (by decide))
    refine lv_bipush (v := (-2)) hx hb dX9_lists_15 (by decide) ?_
    exact fiI hx hb hr hlk hK hP hD hS dX9_lists_17 (Nat.le_of_ble_eq_true rfl) (Nat.le_of_ble_eq_true rfl) (⟨fy20, fy21, fy22, fy34, fy36, fy38, fy40, tfy20, (iv_c ((-2) : Int32) (by decide)), (congrArg Prod.fst (hR.symm.trans hT0)), (congrArg Prod.fst (congrArg Prod.snd (hR.symm.trans hT0))), (congrArg Prod.fst (congrArg Prod.snd (congrArg Prod.snd (hR.symm.trans hT0)))), (congrArg Prod.fst (congrArg Prod.snd (congrArg Prod.snd (congrArg Prod.snd (hR.symm.trans hT0))))), (congrArg Prod.snd (congrArg Prod.snd (congrArg Prod.snd (congrArg Prod.snd (hR.symm.trans hT0))))), hK9, rfl⟩)
  · have hP : va_P V.1 vwCl [(y 0, .inr (9, o9_rirrrrrrrrvviii (y 1) py0_1 (y 2) (y 10) (y 19) (y 25) (y 26) (y 30) (y 31) (y 32) o10 o11 py0_12 py0_13 py0_14)), (y 2, .inr (1, o1_iiiiiirrrrrrriiiii py2_0 py2_1 py2_2 py2_3 py2_4 py2_5 (y 3) (y 4) (y 5) (y 6) (y 7) (y 8) (y 9) py2_13 py2_14 py2_15 py2_16 py2_17)), (y 3, aI V 4 fy3), (y 9, aI V 900 fy9), (y 19, .inr (4, o4_rrrrrr (y 2) (y 20) (y 21) (y 22) (y 23) (y 24))), (y 20, aI V 2000 fy20), (y 21, aI V 6 fy21), (y 22, aI V 64 fy22), (y 30, aT V 4 (va_up (va_up (va_up (va_up (fun _ => none) 0 (some (y 33))) 1 (some (y 35))) 2 (some (y 37))) 3 (some (y 39)))), (y 33, .inr (7, o7_rii (y 34) py33_1 py33_2)), (y 34, aJ V 40 fy34), (y 35, .inr (7, o7_rii (y 36) py35_1 py35_2)), (y 36, aJ V 40 fy36), (y 37, .inr (7, o7_rii (y 38) py37_1 py37_2)), (y 38, aJ V 40 fy38), (y 39, .inr (7, o7_rii (y 40) py39_1 py39_2)), (y 40, aJ V 40 fy40)] H := hP
    have hD := cpD hP hD
    replace hR := te hR (by rw [← et_6]; decide)
    replace hR := ti hR et_6.symm
    have b_13 : iv 0 2147483647 a1 := iv_e2 (Int32.not_lt.mp c_4) (iv_c (0 : Int32) (a := 0) (b := 0) (by decide)) (iv_top a1) (by decide)
    have b_14 : iv 4 2147483647 a1 := iv_e2 c_5 (iv_c (4 : Int32) (a := 4) (b := 4) (by decide)) b_13 (by decide)
    refine lv_if_eq (tgt := 15) hx hb dX9_lists_4 (by decide) (fun _ => ?_) (fun c_16 => absurd c_16 (by decide))
    refine lv_bipush (v := (-2)) hx hb dX9_lists_15 (by decide) ?_
    exact fiI hx hb hr hlk hK hP hD hS dX9_lists_17 (Nat.le_of_ble_eq_true rfl) (Nat.le_of_ble_eq_true rfl) (⟨fy20, fy21, fy22, fy34, fy36, fy38, fy40, tfy20, (iv_c ((-2) : Int32) (by decide)), (congrArg Prod.fst (hR.symm.trans hT0)), (congrArg Prod.fst (congrArg Prod.snd (hR.symm.trans hT0))), (congrArg Prod.fst (congrArg Prod.snd (congrArg Prod.snd (hR.symm.trans hT0)))), (congrArg Prod.fst (congrArg Prod.snd (congrArg Prod.snd (congrArg Prod.snd (hR.symm.trans hT0))))), (congrArg Prod.snd (congrArg Prod.snd (congrArg Prod.snd (congrArg Prod.snd (hR.symm.trans hT0))))), hK9, rfl⟩)
  · have hP : va_P V.1 vwCl [(y 0, .inr (9, o9_rirrrrrrrrvviii (y 1) py0_1 (y 2) (y 10) (y 19) (y 25) (y 26) (y 30) (y 31) (y 32) o10 o11 py0_12 py0_13 py0_14)), (y 2, .inr (1, o1_iiiiiirrrrrrriiiii py2_0 py2_1 py2_2 py2_3 py2_4 py2_5 (y 3) (y 4) (y 5) (y 6) (y 7) (y 8) (y 9) py2_13 py2_14 py2_15 py2_16 py2_17)), (y 3, aI V 4 fy3), (y 9, aI V 900 fy9), (y 19, .inr (4, o4_rrrrrr (y 2) (y 20) (y 21) (y 22) (y 23) (y 24))), (y 20, aI V 2000 fy20), (y 21, aI V 6 fy21), (y 22, aI V 64 fy22), (y 30, aT V 4 (va_up (va_up (va_up (va_up (fun _ => none) 0 (some (y 33))) 1 (some (y 35))) 2 (some (y 37))) 3 (some (y 39)))), (y 33, .inr (7, o7_rii (y 34) py33_1 py33_2)), (y 34, aJ V 40 fy34), (y 35, .inr (7, o7_rii (y 36) py35_1 py35_2)), (y 36, aJ V 40 fy36), (y 37, .inr (7, o7_rii (y 38) py37_1 py37_2)), (y 38, aJ V 40 fy38), (y 39, .inr (7, o7_rii (y 40) py39_1 py39_2)), (y 40, aJ V 40 fy40)] H := hP
    have hD := cpD hP hD
    replace hR := te hR (by rw [← et_9]; decide)
    replace hR := te hR (by rw [← et_9]; decide)
    have b_17 : iv 0 2147483647 a1 := iv_e2 (Int32.not_lt.mp c_7) (iv_c (0 : Int32) (a := 0) (b := 0) (by decide)) (iv_top a1) (by decide)
    have b_18 : iv 0 3 a1 := iv_l1 (Int32.not_le.mp c_8) b_17 (iv_c (4 : Int32) (a := 4) (b := 4) (by decide)) (by decide)
    refine lv_if_eq (tgt := 15) hx hb dX9_lists_4 (by decide) (fun c_20 => absurd c_20 (by decide)) (fun _ => ?_)
    refine lv_aload_n hx hb dX9_lists_7 rfl (lv_at hl 0 rfl) ?_
    refine lv_iload_n hx hb dX9_lists_8 rfl (lv_at hl 2 rfl) ?_
    refine jnI (wr := [(y 3, aI V 4 fy3), (y 9, aI V 900 fy9), (y 19, .inr (4, o4_rrrrrr (y 2) (y 20) (y 21) (y 22) (y 23) (y 24))), (y 20, aI V 2000 fy20), (y 21, aI V 6 fy21), (y 22, aI V 64 fy22), (y 30, aT V 4 (va_up (va_up (va_up (va_up (fun _ => none) 0 (some (y 33))) 1 (some (y 35))) 2 (some (y 37))) 3 (some (y 39)))), (y 33, .inr (7, o7_rii (y 34) py33_1 py33_2)), (y 34, aJ V 40 fy34), (y 35, .inr (7, o7_rii (y 36) py35_1 py35_2)), (y 36, aJ V 40 fy36), (y 37, .inr (7, o7_rii (y 38) py37_1 py37_2)), (y 38, aJ V 40 fy38), (y 39, .inr (7, o7_rii (y 40) py39_1 py39_2)), (y 40, aJ V 40 fy40)]) (rnV (rest := []) ⟨hx, hb, hml, hown, hg⟩ (k_X9_isHill_0 l V y a2 py0_1 o10 o11 py0_12 py0_13 py0_14 py2_0 py2_1 py2_2 py2_3 py2_4 py2_5 py2_13 py2_14 py2_15 py2_16 py2_17 bpy0_1 bpy0_12 bpy0_13 bpy2_1 bpy2_2 bpy2_3 bpy2_4 bpy2_5 bpy2_13 bpy2_14 bpy2_15 bpy2_16 bpy2_17) mt_X9_isHill q_3_122 ⟨Nat.le_of_ble_eq_true rfl, Nat.le_of_ble_eq_true rfl⟩ hK hP hD hS hA hE [0, 1] rfl rfl 0 rfl rfl rfl rfl hl.1 rfl (Nat.le_of_ble_eq_true rfl) dX9_lists_9 ⟨Nat.le_of_ble_eq_true rfl, Nat.le_of_ble_eq_true rfl⟩) hP hD hS hA [0, 1] [2, 3, 4, 5, 6, 7, 8, 9, 10, 11, 12, 13, 14, 15, 16] rfl rfl rfl (by decide) (fun r_21 w H locs hw hP hD hS => ?_)
    rcases hw with ⟨c_22, rfl, et_23, rfl⟩ | ⟨c_24, c_25, rfl, et_26, rfl⟩ | ⟨c_27, c_28, rfl, et_29, rfl⟩
    · have hP : va_P V.1 vwCl [(y 3, aI V 4 fy3), (y 9, aI V 900 fy9), (y 19, .inr (4, o4_rrrrrr (y 2) (y 20) (y 21) (y 22) (y 23) (y 24))), (y 20, aI V 2000 fy20), (y 21, aI V 6 fy21), (y 22, aI V 64 fy22), (y 30, aT V 4 (va_up (va_up (va_up (va_up (fun _ => none) 0 (some (y 33))) 1 (some (y 35))) 2 (some (y 37))) 3 (some (y 39)))), (y 33, .inr (7, o7_rii (y 34) py33_1 py33_2)), (y 34, aJ V 40 fy34), (y 35, .inr (7, o7_rii (y 36) py35_1 py35_2)), (y 36, aJ V 40 fy36), (y 37, .inr (7, o7_rii (y 38) py37_1 py37_2)), (y 38, aJ V 40 fy38), (y 39, .inr (7, o7_rii (y 40) py39_1 py39_2)), (y 40, aJ V 40 fy40), (y 0, .inr (9, o9_rirrrrrrrrvviii (y 1) py0_1 (y 2) (y 10) (y 19) (y 25) (y 26) (y 30) (y 31) (y 32) o10 o11 py0_12 py0_13 py0_14)), (y 2, .inr (1, o1_iiiiiirrrrrrriiiii py2_0 py2_1 py2_2 py2_3 py2_4 py2_5 (y 3) (y 4) (y 5) (y 6) (y 7) (y 8) (y 9) py2_13 py2_14 py2_15 py2_16 py2_17))] H := hP
      have hD := cpD hP hD
      replace hR := ti hR et_23.symm
      have b_30 : iv (-2147483648) (-1) a2 := iv_l1 c_22 (iv_top a2) (iv_c (0 : Int32) (a := 0) (b := 0) (by decide)) (by decide)
      refine lv_if_ne (tgt := 18) hx hb dX9_lists_12 (by decide) (fun c_32 => absurd c_32 (by decide)) (fun _ => ?_)
      refine lv_bipush (v := (-2)) hx hb dX9_lists_15 (by decide) ?_
      have hP := subP (ws' := [(y 0, .inr (9, o9_rirrrrrrrrvviii (y 1) py0_1 (y 2) (y 10) (y 19) (y 25) (y 26) (y 30) (y 31) (y 32) o10 o11 py0_12 py0_13 py0_14)), (y 2, .inr (1, o1_iiiiiirrrrrrriiiii py2_0 py2_1 py2_2 py2_3 py2_4 py2_5 (y 3) (y 4) (y 5) (y 6) (y 7) (y 8) (y 9) py2_13 py2_14 py2_15 py2_16 py2_17)), (y 3, aI V 4 fy3), (y 9, aI V 900 fy9), (y 19, .inr (4, o4_rrrrrr (y 2) (y 20) (y 21) (y 22) (y 23) (y 24))), (y 20, aI V 2000 fy20), (y 21, aI V 6 fy21), (y 22, aI V 64 fy22), (y 30, aT V 4 (va_up (va_up (va_up (va_up (fun _ => none) 0 (some (y 33))) 1 (some (y 35))) 2 (some (y 37))) 3 (some (y 39)))), (y 33, .inr (7, o7_rii (y 34) py33_1 py33_2)), (y 34, aJ V 40 fy34), (y 35, .inr (7, o7_rii (y 36) py35_1 py35_2)), (y 36, aJ V 40 fy36), (y 37, .inr (7, o7_rii (y 38) py37_1 py37_2)), (y 38, aJ V 40 fy38), (y 39, .inr (7, o7_rii (y 40) py39_1 py39_2)), (y 40, aJ V 40 fy40)]) hP [15, 16, 0, 1, 2, 3, 4, 5, 6, 7, 8, 9, 10, 11, 12, 13, 14] rfl
      have hD := subD hP hD [15, 16, 0, 1, 2, 3, 4, 5, 6, 7, 8, 9, 10, 11, 12, 13, 14] rfl rfl
      exact fiI hx hb hr hlk hK hP hD hS dX9_lists_17 (Nat.le_of_ble_eq_true rfl) (Nat.le_of_ble_eq_true rfl) (⟨fy20, fy21, fy22, fy34, fy36, fy38, fy40, tfy20, (iv_c ((-2) : Int32) (by decide)), (congrArg Prod.fst (hR.symm.trans hT0)), (congrArg Prod.fst (congrArg Prod.snd (hR.symm.trans hT0))), (congrArg Prod.fst (congrArg Prod.snd (congrArg Prod.snd (hR.symm.trans hT0)))), (congrArg Prod.fst (congrArg Prod.snd (congrArg Prod.snd (congrArg Prod.snd (hR.symm.trans hT0))))), (congrArg Prod.snd (congrArg Prod.snd (congrArg Prod.snd (congrArg Prod.snd (hR.symm.trans hT0))))), hK9, rfl⟩)
    · have hP : va_P V.1 vwCl [(y 3, aI V 4 fy3), (y 9, aI V 900 fy9), (y 19, .inr (4, o4_rrrrrr (y 2) (y 20) (y 21) (y 22) (y 23) (y 24))), (y 20, aI V 2000 fy20), (y 21, aI V 6 fy21), (y 22, aI V 64 fy22), (y 30, aT V 4 (va_up (va_up (va_up (va_up (fun _ => none) 0 (some (y 33))) 1 (some (y 35))) 2 (some (y 37))) 3 (some (y 39)))), (y 33, .inr (7, o7_rii (y 34) py33_1 py33_2)), (y 34, aJ V 40 fy34), (y 35, .inr (7, o7_rii (y 36) py35_1 py35_2)), (y 36, aJ V 40 fy36), (y 37, .inr (7, o7_rii (y 38) py37_1 py37_2)), (y 38, aJ V 40 fy38), (y 39, .inr (7, o7_rii (y 40) py39_1 py39_2)), (y 40, aJ V 40 fy40), (y 0, .inr (9, o9_rirrrrrrrrvviii (y 1) py0_1 (y 2) (y 10) (y 19) (y 25) (y 26) (y 30) (y 31) (y 32) o10 o11 py0_12 py0_13 py0_14)), (y 2, .inr (1, o1_iiiiiirrrrrrriiiii py2_0 py2_1 py2_2 py2_3 py2_4 py2_5 (y 3) (y 4) (y 5) (y 6) (y 7) (y 8) (y 9) py2_13 py2_14 py2_15 py2_16 py2_17))] H := hP
      have hD := cpD hP hD
      replace hR := te hR (by rw [← et_26]; decide)
      replace hR := ti hR et_26.symm
      have b_33 : iv 0 2147483647 a2 := iv_e2 (Int32.not_lt.mp c_24) (iv_c (0 : Int32) (a := 0) (b := 0) (by decide)) (iv_top a2) (by decide)
      refine lv_if_ne (tgt := 18) hx hb dX9_lists_12 (by decide) (fun c_35 => absurd c_35 (by decide)) (fun _ => ?_)
      refine lv_bipush (v := (-2)) hx hb dX9_lists_15 (by decide) ?_
      have hP := subP (ws' := [(y 0, .inr (9, o9_rirrrrrrrrvviii (y 1) py0_1 (y 2) (y 10) (y 19) (y 25) (y 26) (y 30) (y 31) (y 32) o10 o11 py0_12 py0_13 py0_14)), (y 2, .inr (1, o1_iiiiiirrrrrrriiiii py2_0 py2_1 py2_2 py2_3 py2_4 py2_5 (y 3) (y 4) (y 5) (y 6) (y 7) (y 8) (y 9) py2_13 py2_14 py2_15 py2_16 py2_17)), (y 3, aI V 4 fy3), (y 9, aI V 900 fy9), (y 19, .inr (4, o4_rrrrrr (y 2) (y 20) (y 21) (y 22) (y 23) (y 24))), (y 20, aI V 2000 fy20), (y 21, aI V 6 fy21), (y 22, aI V 64 fy22), (y 30, aT V 4 (va_up (va_up (va_up (va_up (fun _ => none) 0 (some (y 33))) 1 (some (y 35))) 2 (some (y 37))) 3 (some (y 39)))), (y 33, .inr (7, o7_rii (y 34) py33_1 py33_2)), (y 34, aJ V 40 fy34), (y 35, .inr (7, o7_rii (y 36) py35_1 py35_2)), (y 36, aJ V 40 fy36), (y 37, .inr (7, o7_rii (y 38) py37_1 py37_2)), (y 38, aJ V 40 fy38), (y 39, .inr (7, o7_rii (y 40) py39_1 py39_2)), (y 40, aJ V 40 fy40)]) hP [15, 16, 0, 1, 2, 3, 4, 5, 6, 7, 8, 9, 10, 11, 12, 13, 14] rfl
      have hD := subD hP hD [15, 16, 0, 1, 2, 3, 4, 5, 6, 7, 8, 9, 10, 11, 12, 13, 14] rfl rfl
      exact fiI hx hb hr hlk hK hP hD hS dX9_lists_17 (Nat.le_of_ble_eq_true rfl) (Nat.le_of_ble_eq_true rfl) (⟨fy20, fy21, fy22, fy34, fy36, fy38, fy40, tfy20, (iv_c ((-2) : Int32) (by decide)), (congrArg Prod.fst (hR.symm.trans hT0)), (congrArg Prod.fst (congrArg Prod.snd (hR.symm.trans hT0))), (congrArg Prod.fst (congrArg Prod.snd (congrArg Prod.snd (hR.symm.trans hT0)))), (congrArg Prod.fst (congrArg Prod.snd (congrArg Prod.snd (congrArg Prod.snd (hR.symm.trans hT0))))), (congrArg Prod.snd (congrArg Prod.snd (congrArg Prod.snd (congrArg Prod.snd (hR.symm.trans hT0))))), hK9, rfl⟩)
    · have hP : va_P V.1 vwCl [(y 3, aI V 4 fy3), (y 9, aI V 900 fy9), (y 19, .inr (4, o4_rrrrrr (y 2) (y 20) (y 21) (y 22) (y 23) (y 24))), (y 20, aI V 2000 fy20), (y 21, aI V 6 fy21), (y 22, aI V 64 fy22), (y 30, aT V 4 (va_up (va_up (va_up (va_up (fun _ => none) 0 (some (y 33))) 1 (some (y 35))) 2 (some (y 37))) 3 (some (y 39)))), (y 33, .inr (7, o7_rii (y 34) py33_1 py33_2)), (y 34, aJ V 40 fy34), (y 35, .inr (7, o7_rii (y 36) py35_1 py35_2)), (y 36, aJ V 40 fy36), (y 37, .inr (7, o7_rii (y 38) py37_1 py37_2)), (y 38, aJ V 40 fy38), (y 39, .inr (7, o7_rii (y 40) py39_1 py39_2)), (y 40, aJ V 40 fy40), (y 0, .inr (9, o9_rirrrrrrrrvviii (y 1) py0_1 (y 2) (y 10) (y 19) (y 25) (y 26) (y 30) (y 31) (y 32) o10 o11 py0_12 py0_13 py0_14)), (y 2, .inr (1, o1_iiiiiirrrrrrriiiii py2_0 py2_1 py2_2 py2_3 py2_4 py2_5 (y 3) (y 4) (y 5) (y 6) (y 7) (y 8) (y 9) py2_13 py2_14 py2_15 py2_16 py2_17))] H := hP
      have hD := cpD hP hD
      replace hR := te hR (by rw [← et_29]; decide)
      replace hR := te hR (by rw [← et_29]; decide)
      have b_36 : iv 0 2147483647 a2 := iv_e2 (Int32.not_lt.mp c_27) (iv_c (0 : Int32) (a := 0) (b := 0) (by decide)) (iv_top a2) (by decide)
      have b_37 : iv 0 3 a2 := iv_l1 (Int32.not_le.mp c_28) b_36 bpy2_1 (by decide)
      have b_38 : iv 1 4 py2_1 := iv_l2 (Int32.not_le.mp c_28) b_36 bpy2_1 (by decide)
      refine lv_if_ne (tgt := 18) hx hb dX9_lists_12 (by decide) (fun _ => ?_) (fun c_40 => absurd c_40 (by decide))
      refine lv_aload_n hx hb dX9_lists_18 rfl (lv_at hl 0 rfl) ?_
      refine va_get (ci := 9) (v := .ref (y 30)) (C := RX9) (T := TX9) (N := 15) hx hb hg inX9 hown hK hP 15 rfl rfl 7 (by decide) (hg _ q_2_43) (fun _ h9 => h9) rfl dX9_lists_19 ?_
      refine lv_iload_n hx hb dX9_lists_22 rfl (lv_at hl 1 rfl) ?_
      have c_41 : a1 = 0 ∨ a1 = 1 ∨ a1 = 2 ∨ a1 = 3 := by have q9 := b_18; unfold iv at q9; simp only [tI_eq, (by decide : (0 : Int32).toInt = 0), (by decide : (1 : Int32).toInt = 1), (by decide : (2 : Int32).toInt = 2), (by decide : (3 : Int32).toInt = 3)]; omega
      rcases c_41 with rfl | rfl | rfl | rfl
      · replace hR := ti hR rfl
        refine va_aldq hx hb hK hP 6 4 rfl rfl (vin (by decide +kernel)) dX9_lists_23 ?_
        refine W.eq (g2 := F0 m 24 ls (.ref (y 33) :: [])) rfl ?_
        refine lv_astore_n (lv' := [(3, .ref (y 33)), (0, .ref (y 0)), (1, .int 0), (2, .int a2)]) hx hb dX9_lists_24 rfl hl (by decide) rfl (fun ls hl => ?_)
        refine lv_aload_n hx hb dX9_lists_25 rfl (lv_at hl 0 rfl) ?_
        refine jnI (wr := [(y 3, aI V 4 fy3), (y 9, aI V 900 fy9), (y 19, .inr (4, o4_rrrrrr (y 2) (y 20) (y 21) (y 22) (y 23) (y 24))), (y 20, aI V 2000 fy20), (y 21, aI V 6 fy21), (y 22, aI V 64 fy22), (y 30, aT V 4 (va_up (va_up (va_up (va_up (fun _ => none) 0 (some (y 33))) 1 (some (y 35))) 2 (some (y 37))) 3 (some (y 39)))), (y 34, aJ V 40 fy34), (y 35, .inr (7, o7_rii (y 36) py35_1 py35_2)), (y 36, aJ V 40 fy36), (y 37, .inr (7, o7_rii (y 38) py37_1 py37_2)), (y 38, aJ V 40 fy38), (y 39, .inr (7, o7_rii (y 40) py39_1 py39_2)), (y 40, aJ V 40 fy40), (y 0, .inr (9, o9_rirrrrrrrrvviii (y 1) py0_1 (y 2) (y 10) (y 19) (y 25) (y 26) (y 30) (y 31) (y 32) o10 o11 py0_12 py0_13 py0_14)), (y 2, .inr (1, o1_iiiiiirrrrrrriiiii py2_0 py2_1 py2_2 py2_3 py2_4 py2_5 (y 3) (y 4) (y 5) (y 6) (y 7) (y 8) (y 9) py2_13 py2_14 py2_15 py2_16 py2_17))]) (rnV (rest := []) ⟨hx, hb, hml, hown, hg⟩ (k_X7_isMissing_0 l V y py33_1 py33_2 bpy33_1) mt_X7_isMissing q_3_231 ⟨Nat.le_of_ble_eq_true rfl, Nat.le_of_ble_eq_true rfl⟩ hK hP hD hS hA hE [7] rfl rfl 7 rfl rfl rfl rfl hl.1 rfl (Nat.le_of_ble_eq_true rfl) dX9_lists_26 ⟨Nat.le_of_ble_eq_true rfl, Nat.le_of_ble_eq_true rfl⟩) hP hD hS hA [7] [0, 1, 2, 3, 4, 5, 6, 8, 9, 10, 11, 12, 13, 14, 15, 16] rfl rfl rfl (by decide) (fun r_42 w H locs hw hP hD hS => ?_)
        rcases hw with ⟨c_43, rfl, et_44, rfl⟩ | ⟨c_45, rfl, et_46, rfl⟩
        · have hP : va_P V.1 vwCl [(y 3, aI V 4 fy3), (y 9, aI V 900 fy9), (y 19, .inr (4, o4_rrrrrr (y 2) (y 20) (y 21) (y 22) (y 23) (y 24))), (y 20, aI V 2000 fy20), (y 21, aI V 6 fy21), (y 22, aI V 64 fy22), (y 30, aT V 4 (va_up (va_up (va_up (va_up (fun _ => none) 0 (some (y 33))) 1 (some (y 35))) 2 (some (y 37))) 3 (some (y 39)))), (y 34, aJ V 40 fy34), (y 35, .inr (7, o7_rii (y 36) py35_1 py35_2)), (y 36, aJ V 40 fy36), (y 37, .inr (7, o7_rii (y 38) py37_1 py37_2)), (y 38, aJ V 40 fy38), (y 39, .inr (7, o7_rii (y 40) py39_1 py39_2)), (y 40, aJ V 40 fy40), (y 0, .inr (9, o9_rirrrrrrrrvviii (y 1) py0_1 (y 2) (y 10) (y 19) (y 25) (y 26) (y 30) (y 31) (y 32) o10 o11 py0_12 py0_13 py0_14)), (y 2, .inr (1, o1_iiiiiirrrrrrriiiii py2_0 py2_1 py2_2 py2_3 py2_4 py2_5 (y 3) (y 4) (y 5) (y 6) (y 7) (y 8) (y 9) py2_13 py2_14 py2_15 py2_16 py2_17)), (y 33, .inr (7, o7_rii (y 34) py33_1 py33_2))] H := hP
          have hD := cpD hP hD
          replace hR := ti hR et_44.symm
          have b_47 : iv 0 40 py33_1 := iv_e2 c_43 (iv_c (0 : Int32) (a := 0) (b := 0) (by decide)) bpy33_1 (by decide)
          refine lv_if_eq (tgt := 35) hx hb dX9_lists_29 (by decide) (fun _ => ?_) (fun c_49 => absurd c_49 (by decide))
          refine lv_aload_n hx hb dX9_lists_35 rfl (lv_at hl 1 rfl) ?_
          refine va_get (ci := 9) (v := .int py0_12) (C := RX9) (T := TX9) (N := 15) hx hb hg inX9 hown hK hP 14 rfl rfl 12 (by decide) (hg _ q_2_48) (fun _ h9 => h9) rfl dX9_lists_36 ?_
          refine lv_istore (lv' := [(4, .int py0_12), (3, .ref (y 33)), (0, .ref (y 0)), (1, .int 0), (2, .int a2)]) hx hb dX9_lists_39 hl (by decide) rfl (fun ls hl => ?_)
          refine lv_iconst (v := 0) hx hb dX9_lists_41 (by decide) ?_
          refine lv_istore (lv' := [(5, .int 0), (4, .int py0_12), (3, .ref (y 33)), (0, .ref (y 0)), (1, .int 0), (2, .int a2)]) hx hb dX9_lists_42 hl (by decide) rfl (fun ls hl => ?_)
          refine loopF (X := fun (n_56 : Nat) (H : Heap) (locs : List Loc) (ls : Array Slot) => ∃ (u_50 : Int32) (u_51 : Int32) (f_52 : Nat → Int32) (f_53 : Nat → Int32) (f_54 : Nat → Int32) (f_55 : Nat → Int64), (iv 0 2147483647 u_50) ∧ (iv 0 9999 u_51) ∧ (∀ j, iv 0 10 (f_52 j)) ∧ KN D9 f_52 ∧ T0 = W9 (L_k_X9_lists_0_1 D9 a2 fy36 fy38 fy40 py0_13 py2_1 py33_1) (u_50, u_51, f_55) ∧ n_56 = (2147483647 - (u_50 : Int32).toInt).toNat ∧ va_P V.1 vwCl [(y 3, aI V 4 fy3), (y 9, aI V 900 fy9), (y 19, .inr (4, o4_rrrrrr (y 2) (y 20) (y 21) (y 22) (y 23) (y 24))), (y 20, aI V 2000 f_52), (y 21, aI V 6 f_53), (y 22, aI V 64 f_54), (y 30, aT V 4 (va_up (va_up (va_up (va_up (fun _ => none) 0 (some (y 33))) 1 (some (y 35))) 2 (some (y 37))) 3 (some (y 39)))), (y 34, aJ V 40 f_55), (y 35, .inr (7, o7_rii (y 36) py35_1 py35_2)), (y 36, aJ V 40 fy36), (y 37, .inr (7, o7_rii (y 38) py37_1 py37_2)), (y 38, aJ V 40 fy38), (y 39, .inr (7, o7_rii (y 40) py39_1 py39_2)), (y 40, aJ V 40 fy40), (y 0, .inr (9, o9_rirrrrrrrrvviii (y 1) py0_1 (y 2) (y 10) (y 19) (y 25) (y 26) (y 30) (y 31) (y 32) o10 o11 py0_12 py0_13 py0_14)), (y 2, .inr (1, o1_iiiiiirrrrrrriiiii py2_0 py2_1 py2_2 py2_3 py2_4 py2_5 (y 3) (y 4) (y 5) (y 6) (y 7) (y 8) (y 9) py2_13 py2_14 py2_15 py2_16 py2_17)), (y 33, .inr (7, o7_rii (y 34) py33_1 py33_2))] H ∧ va_D A [(y 3, aI V 4 fy3), (y 9, aI V 900 fy9), (y 19, .inr (4, o4_rrrrrr (y 2) (y 20) (y 21) (y 22) (y 23) (y 24))), (y 20, aI V 2000 f_52), (y 21, aI V 6 f_53), (y 22, aI V 64 f_54), (y 30, aT V 4 (va_up (va_up (va_up (va_up (fun _ => none) 0 (some (y 33))) 1 (some (y 35))) 2 (some (y 37))) 3 (some (y 39)))), (y 34, aJ V 40 f_55), (y 35, .inr (7, o7_rii (y 36) py35_1 py35_2)), (y 36, aJ V 40 fy36), (y 37, .inr (7, o7_rii (y 38) py37_1 py37_2)), (y 38, aJ V 40 fy38), (y 39, .inr (7, o7_rii (y 40) py39_1 py39_2)), (y 40, aJ V 40 fy40), (y 0, .inr (9, o9_rirrrrrrrrvviii (y 1) py0_1 (y 2) (y 10) (y 19) (y 25) (y 26) (y 30) (y 31) (y 32) o10 o11 py0_12 py0_13 py0_14)), (y 2, .inr (1, o1_iiiiiirrrrrrriiiii py2_0 py2_1 py2_2 py2_3 py2_4 py2_5 (y 3) (y 4) (y 5) (y 6) (y 7) (y 8) (y 9) py2_13 py2_14 py2_15 py2_16 py2_17)), (y 33, .inr (7, o7_rii (y 34) py33_1 py33_2))] ∧ va_S A s.heap H locs ∧ lv_has ls 6 [(5, .int u_50), (4, .int u_51), (3, .ref (y 33)), (0, .ref (y 0)), (1, .int 0), (2, .int a2)]) (g := fun ls => F0 m 44 ls []) (fun n_56 H locs ls hX ihn_56 => ?_) _ ⟨0, py0_12, fy20, fy21, fy22, fy34, (iv_c (0 : Int32) (by decide)), bpy0_12, tfy20, hK9, hR, rfl, hP, hD, hS, lv_sub hl [0, 1, 2, 3, 4, 5] rfl⟩
          obtain ⟨u_50, u_51, f_52, f_53, f_54, f_55, bu_50, bu_51, tf_52, knn_56, hR, en_56, hP, hD, hS, hl⟩ := hX
          obtain ⟨Tn_56, hR, hAn_56⟩ := tw hR
          replace hR : Tn_56 = B_k_X9_lists_0_1 D9 a2 fy36 fy38 fy40 py0_13 py2_1 py33_1 u_50 u_51 f_55 := hR
          replace hR := hR.trans (B_k_X9_lists_0_1.eq_1 ..)
          refine lv_iload hx hb dX9_lists_44 (lv_at hl 0 rfl) ?_
          refine lv_aload_n hx hb dX9_lists_46 rfl (lv_at hl 2 rfl) ?_
          refine va_get (ci := 7) (v := .int py33_1) (C := RX7) (T := TX7) (N := 3) hx hb hg inX7 hown hK hP 16 rfl rfl 1 (by decide) (hg _ q_2_2) (fun _ h9 => h9) rfl dX9_lists_47 ?_
          refine lv_icmp_ge (tgt := 89) hx hb dX9_lists_50 (by decide) (fun c_57 => ?_) (fun c_57 => ?_)
          · replace hR := ti hR c_57
            refine lv_aload_n hx hb dX9_lists_89 rfl (lv_at hl 2 rfl) ?_
            refine va_get (ci := 7) (v := .int py33_1) (C := RX7) (T := TX7) (N := 3) hx hb hg inX7 hown hK hP 16 rfl rfl 1 (by decide) (hg _ q_2_2) (fun _ h9 => h9) rfl dX9_lists_90 ?_
            have hP := subP (ws' := [(y 0, .inr (9, o9_rirrrrrrrrvviii (y 1) py0_1 (y 2) (y 10) (y 19) (y 25) (y 26) (y 30) (y 31) (y 32) o10 o11 py0_12 py0_13 py0_14)), (y 2, .inr (1, o1_iiiiiirrrrrrriiiii py2_0 py2_1 py2_2 py2_3 py2_4 py2_5 (y 3) (y 4) (y 5) (y 6) (y 7) (y 8) (y 9) py2_13 py2_14 py2_15 py2_16 py2_17)), (y 3, aI V 4 fy3), (y 9, aI V 900 fy9), (y 19, .inr (4, o4_rrrrrr (y 2) (y 20) (y 21) (y 22) (y 23) (y 24))), (y 20, aI V 2000 f_52), (y 21, aI V 6 f_53), (y 22, aI V 64 f_54), (y 30, aT V 4 (va_up (va_up (va_up (va_up (fun _ => none) 0 (some (y 33))) 1 (some (y 35))) 2 (some (y 37))) 3 (some (y 39)))), (y 33, .inr (7, o7_rii (y 34) py33_1 py33_2)), (y 34, aJ V 40 f_55), (y 35, .inr (7, o7_rii (y 36) py35_1 py35_2)), (y 36, aJ V 40 fy36), (y 37, .inr (7, o7_rii (y 38) py37_1 py37_2)), (y 38, aJ V 40 fy38), (y 39, .inr (7, o7_rii (y 40) py39_1 py39_2)), (y 40, aJ V 40 fy40)]) hP [14, 15, 0, 1, 2, 3, 4, 5, 6, 16, 7, 8, 9, 10, 11, 12, 13] rfl
            have hD := subD hP hD [14, 15, 0, 1, 2, 3, 4, 5, 6, 16, 7, 8, 9, 10, 11, 12, 13] rfl rfl
            exact fiI hx hb hr hlk hK hP hD hS dX9_lists_93 (Nat.le_of_ble_eq_true rfl) (Nat.le_of_ble_eq_true rfl) (⟨f_52, f_53, f_54, f_55, fy36, fy38, fy40, tf_52, (iv_w b_47 (by decide)), (congrArg Prod.fst ((tx hAn_56 hR).symm.trans hT0)), (congrArg Prod.fst (congrArg Prod.snd ((tx hAn_56 hR).symm.trans hT0))), (congrArg Prod.fst (congrArg Prod.snd (congrArg Prod.snd ((tx hAn_56 hR).symm.trans hT0)))), (congrArg Prod.fst (congrArg Prod.snd (congrArg Prod.snd (congrArg Prod.snd ((tx hAn_56 hR).symm.trans hT0))))), (congrArg Prod.snd (congrArg Prod.snd (congrArg Prod.snd (congrArg Prod.snd ((tx hAn_56 hR).symm.trans hT0))))), knn_56, rfl⟩)
          · replace hR := te hR c_57
            have b_58 : iv 0 39 u_50 := iv_l1 (Int32.not_le.mp c_57) bu_50 b_47 (by decide)
            have b_59 : iv 1 40 py33_1 := iv_l2 (Int32.not_le.mp c_57) bu_50 b_47 (by decide)
            refine lv_aload_n hx hb dX9_lists_53 rfl (lv_at hl 3 rfl) ?_
            refine va_get (ci := 9) (v := .ref (y 19)) (C := RX9) (T := TX9) (N := 15) hx hb hg inX9 hown hK hP 14 rfl rfl 4 (by decide) (hg _ q_2_40) (fun _ h9 => h9) rfl dX9_lists_54 ?_
            refine lv_iload hx hb dX9_lists_57 (lv_at hl 1 rfl) ?_
            refine lv_aload_n hx hb dX9_lists_59 rfl (lv_at hl 3 rfl) ?_
            refine va_get (ci := 9) (v := .int py0_13) (C := RX9) (T := TX9) (N := 15) hx hb hg inX9 hown hK hP 14 rfl rfl 13 (by decide) (hg _ q_2_49) (fun _ h9 => h9) rfl dX9_lists_60 ?_
            refine lv_iconst (v := 0) hx hb dX9_lists_63 (by decide) ?_
            refine jnI (wr := [(y 30, aT V 4 (va_up (va_up (va_up (va_up (fun _ => none) 0 (some (y 33))) 1 (some (y 35))) 2 (some (y 37))) 3 (some (y 39)))), (y 34, aJ V 40 f_55), (y 35, .inr (7, o7_rii (y 36) py35_1 py35_2)), (y 36, aJ V 40 fy36), (y 37, .inr (7, o7_rii (y 38) py37_1 py37_2)), (y 38, aJ V 40 fy38), (y 39, .inr (7, o7_rii (y 40) py39_1 py39_2)), (y 40, aJ V 40 fy40), (y 0, .inr (9, o9_rirrrrrrrrvviii (y 1) py0_1 (y 2) (y 10) (y 19) (y 25) (y 26) (y 30) (y 31) (y 32) o10 o11 py0_12 py0_13 py0_14)), (y 33, .inr (7, o7_rii (y 34) py33_1 py33_2))]) (rnV (rest := []) ⟨hx, hb, hml, hown, hg⟩ (k_X4_behind_0 l V y u_51 py0_13 0 fy3 fy9 f_52 f_53 f_54 py2_0 py2_1 py2_2 py2_3 py2_4 py2_5 py2_13 py2_14 py2_15 py2_16 py2_17 bu_51 bpy0_13 tf_52 (iv_w b_38 (by decide)) bpy2_2 bpy2_3 bpy2_4 bpy2_5 bpy2_13 bpy2_14 bpy2_15 bpy2_16 bpy2_17) mt_X4_behind q_3_145 ⟨Nat.le_of_ble_eq_true rfl, Nat.le_of_ble_eq_true rfl⟩ hK hP hD hS hA hE [0, 1, 2, 3, 4, 5, 15] rfl rfl 2 rfl rfl rfl rfl hl.1 rfl (Nat.le_of_ble_eq_true rfl) dX9_lists_64 ⟨Nat.le_of_ble_eq_true rfl, Nat.le_of_ble_eq_true rfl⟩) hP hD hS hA [0, 1, 2, 3, 4, 5, 15] [6, 7, 8, 9, 10, 11, 12, 13, 14, 16] rfl rfl rfl (by decide) (fun r_60 w H locs hw hP hD hS => ?_)
            obtain ⟨f_61, f_62, f_63, tf_61, br_60, g_64, rfl⟩ := hw
            have qkn_65 := g_64 D9 hL9 knn_56
            have er_60 : r_60 = bhS D9 u_51 py0_13 (0 : Int32) (py2_1 : Int32).toNatClampNeg := qkn_65.1
            have kn_65 := qkn_65.2
            replace hR := tb hR er_60
            have hP : va_P V.1 vwCl [(y 30, aT V 4 (va_up (va_up (va_up (va_up (fun _ => none) 0 (some (y 33))) 1 (some (y 35))) 2 (some (y 37))) 3 (some (y 39)))), (y 34, aJ V 40 f_55), (y 35, .inr (7, o7_rii (y 36) py35_1 py35_2)), (y 36, aJ V 40 fy36), (y 37, .inr (7, o7_rii (y 38) py37_1 py37_2)), (y 38, aJ V 40 fy38), (y 39, .inr (7, o7_rii (y 40) py39_1 py39_2)), (y 40, aJ V 40 fy40), (y 0, .inr (9, o9_rirrrrrrrrvviii (y 1) py0_1 (y 2) (y 10) (y 19) (y 25) (y 26) (y 30) (y 31) (y 32) o10 o11 py0_12 py0_13 py0_14)), (y 33, .inr (7, o7_rii (y 34) py33_1 py33_2)), (y 3, aI V 4 fy3), (y 9, aI V 900 fy9), (y 19, .inr (4, o4_rrrrrr (y 2) (y 20) (y 21) (y 22) (y 23) (y 24))), (y 20, aI V 2000 f_61), (y 21, aI V 6 f_62), (y 22, aI V 64 f_63), (y 2, .inr (1, o1_iiiiiirrrrrrriiiii py2_0 py2_1 py2_2 py2_3 py2_4 py2_5 (y 3) (y 4) (y 5) (y 6) (y 7) (y 8) (y 9) py2_13 py2_14 py2_15 py2_16 py2_17))] H := hP
            have hD := cpD hP hD
            refine lv_istore (lv' := [(4, .int r_60), (5, .int u_50), (3, .ref (y 33)), (0, .ref (y 0)), (1, .int 0), (2, .int a2)]) hx hb dX9_lists_67 hl (by decide) rfl (fun ls hl => ?_)
            refine lv_aload_n hx hb dX9_lists_69 rfl (lv_at hl 2 rfl) ?_
            refine va_get (ci := 7) (v := .ref (y 34)) (C := RX7) (T := TX7) (N := 3) hx hb hg inX7 hown hK hP 9 rfl rfl 0 (by decide) (hg _ q_1_239) (fun _ h9 => h9) rfl dX9_lists_70 ?_
            refine lv_iload hx hb dX9_lists_73 (lv_at hl 1 rfl) ?_
            refine lv_iload hx hb dX9_lists_75 (lv_at hl 0 rfl) ?_
            refine lv_iload_n hx hb dX9_lists_77 rfl (lv_at hl 5 rfl) ?_
            refine jnI (wr := [(y 30, aT V 4 (va_up (va_up (va_up (va_up (fun _ => none) 0 (some (y 33))) 1 (some (y 35))) 2 (some (y 37))) 3 (some (y 39)))), (y 34, aJ V 40 f_55), (y 35, .inr (7, o7_rii (y 36) py35_1 py35_2)), (y 36, aJ V 40 fy36), (y 37, .inr (7, o7_rii (y 38) py37_1 py37_2)), (y 38, aJ V 40 fy38), (y 39, .inr (7, o7_rii (y 40) py39_1 py39_2)), (y 40, aJ V 40 fy40), (y 0, .inr (9, o9_rirrrrrrrrvviii (y 1) py0_1 (y 2) (y 10) (y 19) (y 25) (y 26) (y 30) (y 31) (y 32) o10 o11 py0_12 py0_13 py0_14)), (y 33, .inr (7, o7_rii (y 34) py33_1 py33_2)), (y 3, aI V 4 fy3), (y 9, aI V 900 fy9), (y 19, .inr (4, o4_rrrrrr (y 2) (y 20) (y 21) (y 22) (y 23) (y 24))), (y 20, aI V 2000 f_61), (y 21, aI V 6 f_62), (y 22, aI V 64 f_63), (y 2, .inr (1, o1_iiiiiirrrrrrriiiii py2_0 py2_1 py2_2 py2_3 py2_4 py2_5 (y 3) (y 4) (y 5) (y 6) (y 7) (y 8) (y 9) py2_13 py2_14 py2_15 py2_16 py2_17))]) (rnS (rest := [.int u_50, .ref (y 34)]) ⟨hx, hb, hml, hown, hg⟩ (k_X9_stackIn_0 l V r_60 a2 br_60 (iv_w b_37 (by decide))) mt_X9_stackIn q_3_126 ⟨Nat.le_of_ble_eq_true rfl, Nat.le_of_ble_eq_true rfl⟩ hK hP hD hS hA hE [] rfl rfl rfl hl.1 rfl (Nat.le_of_ble_eq_true rfl) dX9_lists_78 ⟨Nat.le_of_ble_eq_true rfl, Nat.le_of_ble_eq_true rfl⟩) hP hD hS hA [] [0, 1, 2, 3, 4, 5, 6, 7, 8, 9, 10, 11, 12, 13, 14, 15, 16] rfl rfl rfl (by decide) (fun r_66 w H locs hw hP hD hS => ?_)
            obtain ⟨br_66, er_66, et_67, rfl⟩ := hw
            replace hR := tb hR et_67
            have hP : va_P V.1 vwCl [(y 30, aT V 4 (va_up (va_up (va_up (va_up (fun _ => none) 0 (some (y 33))) 1 (some (y 35))) 2 (some (y 37))) 3 (some (y 39)))), (y 34, aJ V 40 f_55), (y 35, .inr (7, o7_rii (y 36) py35_1 py35_2)), (y 36, aJ V 40 fy36), (y 37, .inr (7, o7_rii (y 38) py37_1 py37_2)), (y 38, aJ V 40 fy38), (y 39, .inr (7, o7_rii (y 40) py39_1 py39_2)), (y 40, aJ V 40 fy40), (y 0, .inr (9, o9_rirrrrrrrrvviii (y 1) py0_1 (y 2) (y 10) (y 19) (y 25) (y 26) (y 30) (y 31) (y 32) o10 o11 py0_12 py0_13 py0_14)), (y 33, .inr (7, o7_rii (y 34) py33_1 py33_2)), (y 3, aI V 4 fy3), (y 9, aI V 900 fy9), (y 19, .inr (4, o4_rrrrrr (y 2) (y 20) (y 21) (y 22) (y 23) (y 24))), (y 20, aI V 2000 f_61), (y 21, aI V 6 f_62), (y 22, aI V 64 f_63), (y 2, .inr (1, o1_iiiiiirrrrrrriiiii py2_0 py2_1 py2_2 py2_3 py2_4 py2_5 (y 3) (y 4) (y 5) (y 6) (y 7) (y 8) (y 9) py2_13 py2_14 py2_15 py2_16 py2_17))] H := hP
            have hD := cpD hP hD
            refine lv_i2l hx hb dX9_lists_81 rfl ?_
            refine lv_topl (fun j_69 ej_69 => ?_)
            replace hR := tb hR ej_69
            refine va_last hx hb hK hP hD hS 1 2 rfl rfl (iv_in b_58 (by decide)) dX9_lists_82 (fun H locs hP hD hS => ?_)
            obtain ⟨f_70, ef_70, hP, hD⟩ : ∃ f_70 : Nat → Int64, f_70 = (vp_updL f_55 (u_50 : Int32).toNatClampNeg j_69) ∧ va_P V.1 vwCl [(y 30, aT V 4 (va_up (va_up (va_up (va_up (fun _ => none) 0 (some (y 33))) 1 (some (y 35))) 2 (some (y 37))) 3 (some (y 39)))), (y 34, aJ V 40 f_70), (y 35, .inr (7, o7_rii (y 36) py35_1 py35_2)), (y 36, aJ V 40 fy36), (y 37, .inr (7, o7_rii (y 38) py37_1 py37_2)), (y 38, aJ V 40 fy38), (y 39, .inr (7, o7_rii (y 40) py39_1 py39_2)), (y 40, aJ V 40 fy40), (y 0, .inr (9, o9_rirrrrrrrrvviii (y 1) py0_1 (y 2) (y 10) (y 19) (y 25) (y 26) (y 30) (y 31) (y 32) o10 o11 py0_12 py0_13 py0_14)), (y 33, .inr (7, o7_rii (y 34) py33_1 py33_2)), (y 3, aI V 4 fy3), (y 9, aI V 900 fy9), (y 19, .inr (4, o4_rrrrrr (y 2) (y 20) (y 21) (y 22) (y 23) (y 24))), (y 20, aI V 2000 f_61), (y 21, aI V 6 f_62), (y 22, aI V 64 f_63), (y 2, .inr (1, o1_iiiiiirrrrrrriiiii py2_0 py2_1 py2_2 py2_3 py2_4 py2_5 (y 3) (y 4) (y 5) (y 6) (y 7) (y 8) (y 9) py2_13 py2_14 py2_15 py2_16 py2_17))] H ∧ va_D A [(y 30, aT V 4 (va_up (va_up (va_up (va_up (fun _ => none) 0 (some (y 33))) 1 (some (y 35))) 2 (some (y 37))) 3 (some (y 39)))), (y 34, aJ V 40 f_70), (y 35, .inr (7, o7_rii (y 36) py35_1 py35_2)), (y 36, aJ V 40 fy36), (y 37, .inr (7, o7_rii (y 38) py37_1 py37_2)), (y 38, aJ V 40 fy38), (y 39, .inr (7, o7_rii (y 40) py39_1 py39_2)), (y 40, aJ V 40 fy40), (y 0, .inr (9, o9_rirrrrrrrrvviii (y 1) py0_1 (y 2) (y 10) (y 19) (y 25) (y 26) (y 30) (y 31) (y 32) o10 o11 py0_12 py0_13 py0_14)), (y 33, .inr (7, o7_rii (y 34) py33_1 py33_2)), (y 3, aI V 4 fy3), (y 9, aI V 900 fy9), (y 19, .inr (4, o4_rrrrrr (y 2) (y 20) (y 21) (y 22) (y 23) (y 24))), (y 20, aI V 2000 f_61), (y 21, aI V 6 f_62), (y 22, aI V 64 f_63), (y 2, .inr (1, o1_iiiiiirrrrrrriiiii py2_0 py2_1 py2_2 py2_3 py2_4 py2_5 (y 3) (y 4) (y 5) (y 6) (y 7) (y 8) (y 9) py2_13 py2_14 py2_15 py2_16 py2_17))] := ⟨_, rfl, hP, hD⟩
            replace hR := tb hR ef_70
            obtain ⟨x_71, ex_71⟩ : ∃ z9 : Int32, z9 = u_50 + 1 := ⟨_, rfl⟩
            have bx_71 : iv 1 40 x_71 := by rw [ex_71]; exact iv_add b_58 (iv_c (1 : Int32) (a := 1) (b := 1) (by decide)) (by decide)
            replace hR := tb hR ex_71
            refine lv_iinc (v := x_71) (lv' := [(5, .int x_71), (4, .int r_60), (3, .ref (y 33)), (0, .ref (y 0)), (1, .int 0), (2, .int a2)]) hx hb dX9_lists_83 hl (k := 1) rfl (by rw [ex_71]; rfl) (by decide) rfl (fun ls hl => ?_)
            refine lv_goto (tgt := 44) hx hb dX9_lists_86 (by decide) ?_
            have hP := subP (ws' := [(y 3, aI V 4 fy3), (y 9, aI V 900 fy9), (y 19, .inr (4, o4_rrrrrr (y 2) (y 20) (y 21) (y 22) (y 23) (y 24))), (y 20, aI V 2000 f_61), (y 21, aI V 6 f_62), (y 22, aI V 64 f_63), (y 30, aT V 4 (va_up (va_up (va_up (va_up (fun _ => none) 0 (some (y 33))) 1 (some (y 35))) 2 (some (y 37))) 3 (some (y 39)))), (y 34, aJ V 40 f_70), (y 35, .inr (7, o7_rii (y 36) py35_1 py35_2)), (y 36, aJ V 40 fy36), (y 37, .inr (7, o7_rii (y 38) py37_1 py37_2)), (y 38, aJ V 40 fy38), (y 39, .inr (7, o7_rii (y 40) py39_1 py39_2)), (y 40, aJ V 40 fy40), (y 0, .inr (9, o9_rirrrrrrrrvviii (y 1) py0_1 (y 2) (y 10) (y 19) (y 25) (y 26) (y 30) (y 31) (y 32) o10 o11 py0_12 py0_13 py0_14)), (y 2, .inr (1, o1_iiiiiirrrrrrriiiii py2_0 py2_1 py2_2 py2_3 py2_4 py2_5 (y 3) (y 4) (y 5) (y 6) (y 7) (y 8) (y 9) py2_13 py2_14 py2_15 py2_16 py2_17)), (y 33, .inr (7, o7_rii (y 34) py33_1 py33_2))]) hP [10, 11, 12, 13, 14, 15, 0, 1, 2, 3, 4, 5, 6, 7, 8, 16, 9] rfl
            have hD := subD hP hD [10, 11, 12, 13, 14, 15, 0, 1, 2, 3, 4, 5, 6, 7, 8, 16, 9] rfl rfl
            exact ihn_56 _ _ _ _ (by rw [en_56, ex_71]; exact mu_up b_58 (by decide)) ⟨x_71, r_60, f_61, f_62, f_63, f_70, (iv_w bx_71 (by decide)), br_60, tf_61, kn_65, (tbk hAn_56 hR), rfl, hP, hD, hS, lv_sub hl [0, 1, 2, 3, 4, 5] rfl⟩
        · have hP : va_P V.1 vwCl [(y 3, aI V 4 fy3), (y 9, aI V 900 fy9), (y 19, .inr (4, o4_rrrrrr (y 2) (y 20) (y 21) (y 22) (y 23) (y 24))), (y 20, aI V 2000 fy20), (y 21, aI V 6 fy21), (y 22, aI V 64 fy22), (y 30, aT V 4 (va_up (va_up (va_up (va_up (fun _ => none) 0 (some (y 33))) 1 (some (y 35))) 2 (some (y 37))) 3 (some (y 39)))), (y 34, aJ V 40 fy34), (y 35, .inr (7, o7_rii (y 36) py35_1 py35_2)), (y 36, aJ V 40 fy36), (y 37, .inr (7, o7_rii (y 38) py37_1 py37_2)), (y 38, aJ V 40 fy38), (y 39, .inr (7, o7_rii (y 40) py39_1 py39_2)), (y 40, aJ V 40 fy40), (y 0, .inr (9, o9_rirrrrrrrrvviii (y 1) py0_1 (y 2) (y 10) (y 19) (y 25) (y 26) (y 30) (y 31) (y 32) o10 o11 py0_12 py0_13 py0_14)), (y 2, .inr (1, o1_iiiiiirrrrrrriiiii py2_0 py2_1 py2_2 py2_3 py2_4 py2_5 (y 3) (y 4) (y 5) (y 6) (y 7) (y 8) (y 9) py2_13 py2_14 py2_15 py2_16 py2_17)), (y 33, .inr (7, o7_rii (y 34) py33_1 py33_2))] H := hP
          have hD := cpD hP hD
          replace hR := te hR (by rw [← et_46]; decide)
          have b_72 : iv (-1) (-1) py33_1 := iv_l1 (Int32.not_le.mp c_45) bpy33_1 (iv_c (0 : Int32) (a := 0) (b := 0) (by decide)) (by decide)
          refine lv_if_eq (tgt := 35) hx hb dX9_lists_29 (by decide) (fun c_74 => absurd c_74 (by decide)) (fun _ => ?_)
          refine lv_bipush (v := (-6)) hx hb dX9_lists_32 (by decide) ?_
          have hP := subP (ws' := [(y 0, .inr (9, o9_rirrrrrrrrvviii (y 1) py0_1 (y 2) (y 10) (y 19) (y 25) (y 26) (y 30) (y 31) (y 32) o10 o11 py0_12 py0_13 py0_14)), (y 2, .inr (1, o1_iiiiiirrrrrrriiiii py2_0 py2_1 py2_2 py2_3 py2_4 py2_5 (y 3) (y 4) (y 5) (y 6) (y 7) (y 8) (y 9) py2_13 py2_14 py2_15 py2_16 py2_17)), (y 3, aI V 4 fy3), (y 9, aI V 900 fy9), (y 19, .inr (4, o4_rrrrrr (y 2) (y 20) (y 21) (y 22) (y 23) (y 24))), (y 20, aI V 2000 fy20), (y 21, aI V 6 fy21), (y 22, aI V 64 fy22), (y 30, aT V 4 (va_up (va_up (va_up (va_up (fun _ => none) 0 (some (y 33))) 1 (some (y 35))) 2 (some (y 37))) 3 (some (y 39)))), (y 33, .inr (7, o7_rii (y 34) py33_1 py33_2)), (y 34, aJ V 40 fy34), (y 35, .inr (7, o7_rii (y 36) py35_1 py35_2)), (y 36, aJ V 40 fy36), (y 37, .inr (7, o7_rii (y 38) py37_1 py37_2)), (y 38, aJ V 40 fy38), (y 39, .inr (7, o7_rii (y 40) py39_1 py39_2)), (y 40, aJ V 40 fy40)]) hP [14, 15, 0, 1, 2, 3, 4, 5, 6, 16, 7, 8, 9, 10, 11, 12, 13] rfl
          have hD := subD hP hD [14, 15, 0, 1, 2, 3, 4, 5, 6, 16, 7, 8, 9, 10, 11, 12, 13] rfl rfl
          exact fiI hx hb hr hlk hK hP hD hS dX9_lists_34 (Nat.le_of_ble_eq_true rfl) (Nat.le_of_ble_eq_true rfl) (⟨fy20, fy21, fy22, fy34, fy36, fy38, fy40, tfy20, (iv_c ((-6) : Int32) (by decide)), (congrArg Prod.fst (hR.symm.trans hT0)), (congrArg Prod.fst (congrArg Prod.snd (hR.symm.trans hT0))), (congrArg Prod.fst (congrArg Prod.snd (congrArg Prod.snd (hR.symm.trans hT0)))), (congrArg Prod.fst (congrArg Prod.snd (congrArg Prod.snd (congrArg Prod.snd (hR.symm.trans hT0))))), (congrArg Prod.snd (congrArg Prod.snd (congrArg Prod.snd (congrArg Prod.snd (hR.symm.trans hT0))))), hK9, rfl⟩)
      · replace hR := te hR (by decide)
        replace hR := ti hR rfl
        refine va_aldq hx hb hK hP 6 4 rfl rfl (vin (by decide +kernel)) dX9_lists_23 ?_
        refine W.eq (g2 := F0 m 24 ls (.ref (y 35) :: [])) rfl ?_
        refine lv_astore_n (lv' := [(3, .ref (y 35)), (0, .ref (y 0)), (1, .int 1), (2, .int a2)]) hx hb dX9_lists_24 rfl hl (by decide) rfl (fun ls hl => ?_)
        refine lv_aload_n hx hb dX9_lists_25 rfl (lv_at hl 0 rfl) ?_
        refine jnI (wr := [(y 3, aI V 4 fy3), (y 9, aI V 900 fy9), (y 19, .inr (4, o4_rrrrrr (y 2) (y 20) (y 21) (y 22) (y 23) (y 24))), (y 20, aI V 2000 fy20), (y 21, aI V 6 fy21), (y 22, aI V 64 fy22), (y 30, aT V 4 (va_up (va_up (va_up (va_up (fun _ => none) 0 (some (y 33))) 1 (some (y 35))) 2 (some (y 37))) 3 (some (y 39)))), (y 33, .inr (7, o7_rii (y 34) py33_1 py33_2)), (y 34, aJ V 40 fy34), (y 36, aJ V 40 fy36), (y 37, .inr (7, o7_rii (y 38) py37_1 py37_2)), (y 38, aJ V 40 fy38), (y 39, .inr (7, o7_rii (y 40) py39_1 py39_2)), (y 40, aJ V 40 fy40), (y 0, .inr (9, o9_rirrrrrrrrvviii (y 1) py0_1 (y 2) (y 10) (y 19) (y 25) (y 26) (y 30) (y 31) (y 32) o10 o11 py0_12 py0_13 py0_14)), (y 2, .inr (1, o1_iiiiiirrrrrrriiiii py2_0 py2_1 py2_2 py2_3 py2_4 py2_5 (y 3) (y 4) (y 5) (y 6) (y 7) (y 8) (y 9) py2_13 py2_14 py2_15 py2_16 py2_17))]) (rnV (rest := []) ⟨hx, hb, hml, hown, hg⟩ (k_X7_isMissing_1 l V y py35_1 py35_2 bpy35_1) mt_X7_isMissing q_3_231 ⟨Nat.le_of_ble_eq_true rfl, Nat.le_of_ble_eq_true rfl⟩ hK hP hD hS hA hE [9] rfl rfl 9 rfl rfl rfl rfl hl.1 rfl (Nat.le_of_ble_eq_true rfl) dX9_lists_26 ⟨Nat.le_of_ble_eq_true rfl, Nat.le_of_ble_eq_true rfl⟩) hP hD hS hA [9] [0, 1, 2, 3, 4, 5, 6, 7, 8, 10, 11, 12, 13, 14, 15, 16] rfl rfl rfl (by decide) (fun r_75 w H locs hw hP hD hS => ?_)
        rcases hw with ⟨c_76, rfl, et_77, rfl⟩ | ⟨c_78, rfl, et_79, rfl⟩
        · have hP : va_P V.1 vwCl [(y 3, aI V 4 fy3), (y 9, aI V 900 fy9), (y 19, .inr (4, o4_rrrrrr (y 2) (y 20) (y 21) (y 22) (y 23) (y 24))), (y 20, aI V 2000 fy20), (y 21, aI V 6 fy21), (y 22, aI V 64 fy22), (y 30, aT V 4 (va_up (va_up (va_up (va_up (fun _ => none) 0 (some (y 33))) 1 (some (y 35))) 2 (some (y 37))) 3 (some (y 39)))), (y 33, .inr (7, o7_rii (y 34) py33_1 py33_2)), (y 34, aJ V 40 fy34), (y 36, aJ V 40 fy36), (y 37, .inr (7, o7_rii (y 38) py37_1 py37_2)), (y 38, aJ V 40 fy38), (y 39, .inr (7, o7_rii (y 40) py39_1 py39_2)), (y 40, aJ V 40 fy40), (y 0, .inr (9, o9_rirrrrrrrrvviii (y 1) py0_1 (y 2) (y 10) (y 19) (y 25) (y 26) (y 30) (y 31) (y 32) o10 o11 py0_12 py0_13 py0_14)), (y 2, .inr (1, o1_iiiiiirrrrrrriiiii py2_0 py2_1 py2_2 py2_3 py2_4 py2_5 (y 3) (y 4) (y 5) (y 6) (y 7) (y 8) (y 9) py2_13 py2_14 py2_15 py2_16 py2_17)), (y 35, .inr (7, o7_rii (y 36) py35_1 py35_2))] H := hP
          have hD := cpD hP hD
          replace hR := ti hR et_77.symm
          have b_80 : iv 0 40 py35_1 := iv_e2 c_76 (iv_c (0 : Int32) (a := 0) (b := 0) (by decide)) bpy35_1 (by decide)
          refine lv_if_eq (tgt := 35) hx hb dX9_lists_29 (by decide) (fun _ => ?_) (fun c_82 => absurd c_82 (by decide))
          refine lv_aload_n hx hb dX9_lists_35 rfl (lv_at hl 1 rfl) ?_
          refine va_get (ci := 9) (v := .int py0_12) (C := RX9) (T := TX9) (N := 15) hx hb hg inX9 hown hK hP 14 rfl rfl 12 (by decide) (hg _ q_2_48) (fun _ h9 => h9) rfl dX9_lists_36 ?_
          refine lv_istore (lv' := [(4, .int py0_12), (3, .ref (y 35)), (0, .ref (y 0)), (1, .int 1), (2, .int a2)]) hx hb dX9_lists_39 hl (by decide) rfl (fun ls hl => ?_)
          refine lv_iconst (v := 0) hx hb dX9_lists_41 (by decide) ?_
          refine lv_istore (lv' := [(5, .int 0), (4, .int py0_12), (3, .ref (y 35)), (0, .ref (y 0)), (1, .int 1), (2, .int a2)]) hx hb dX9_lists_42 hl (by decide) rfl (fun ls hl => ?_)
          refine loopF (X := fun (n_89 : Nat) (H : Heap) (locs : List Loc) (ls : Array Slot) => ∃ (u_83 : Int32) (u_84 : Int32) (f_85 : Nat → Int32) (f_86 : Nat → Int32) (f_87 : Nat → Int32) (f_88 : Nat → Int64), (iv 0 2147483647 u_83) ∧ (iv 0 9999 u_84) ∧ (∀ j, iv 0 10 (f_85 j)) ∧ KN D9 f_85 ∧ T0 = W9 (L_k_X9_lists_0_2 D9 a2 fy34 fy38 fy40 py0_13 py2_1 py35_1) (u_83, u_84, f_88) ∧ n_89 = (2147483647 - (u_83 : Int32).toInt).toNat ∧ va_P V.1 vwCl [(y 3, aI V 4 fy3), (y 9, aI V 900 fy9), (y 19, .inr (4, o4_rrrrrr (y 2) (y 20) (y 21) (y 22) (y 23) (y 24))), (y 20, aI V 2000 f_85), (y 21, aI V 6 f_86), (y 22, aI V 64 f_87), (y 30, aT V 4 (va_up (va_up (va_up (va_up (fun _ => none) 0 (some (y 33))) 1 (some (y 35))) 2 (some (y 37))) 3 (some (y 39)))), (y 33, .inr (7, o7_rii (y 34) py33_1 py33_2)), (y 34, aJ V 40 fy34), (y 36, aJ V 40 f_88), (y 37, .inr (7, o7_rii (y 38) py37_1 py37_2)), (y 38, aJ V 40 fy38), (y 39, .inr (7, o7_rii (y 40) py39_1 py39_2)), (y 40, aJ V 40 fy40), (y 0, .inr (9, o9_rirrrrrrrrvviii (y 1) py0_1 (y 2) (y 10) (y 19) (y 25) (y 26) (y 30) (y 31) (y 32) o10 o11 py0_12 py0_13 py0_14)), (y 2, .inr (1, o1_iiiiiirrrrrrriiiii py2_0 py2_1 py2_2 py2_3 py2_4 py2_5 (y 3) (y 4) (y 5) (y 6) (y 7) (y 8) (y 9) py2_13 py2_14 py2_15 py2_16 py2_17)), (y 35, .inr (7, o7_rii (y 36) py35_1 py35_2))] H ∧ va_D A [(y 3, aI V 4 fy3), (y 9, aI V 900 fy9), (y 19, .inr (4, o4_rrrrrr (y 2) (y 20) (y 21) (y 22) (y 23) (y 24))), (y 20, aI V 2000 f_85), (y 21, aI V 6 f_86), (y 22, aI V 64 f_87), (y 30, aT V 4 (va_up (va_up (va_up (va_up (fun _ => none) 0 (some (y 33))) 1 (some (y 35))) 2 (some (y 37))) 3 (some (y 39)))), (y 33, .inr (7, o7_rii (y 34) py33_1 py33_2)), (y 34, aJ V 40 fy34), (y 36, aJ V 40 f_88), (y 37, .inr (7, o7_rii (y 38) py37_1 py37_2)), (y 38, aJ V 40 fy38), (y 39, .inr (7, o7_rii (y 40) py39_1 py39_2)), (y 40, aJ V 40 fy40), (y 0, .inr (9, o9_rirrrrrrrrvviii (y 1) py0_1 (y 2) (y 10) (y 19) (y 25) (y 26) (y 30) (y 31) (y 32) o10 o11 py0_12 py0_13 py0_14)), (y 2, .inr (1, o1_iiiiiirrrrrrriiiii py2_0 py2_1 py2_2 py2_3 py2_4 py2_5 (y 3) (y 4) (y 5) (y 6) (y 7) (y 8) (y 9) py2_13 py2_14 py2_15 py2_16 py2_17)), (y 35, .inr (7, o7_rii (y 36) py35_1 py35_2))] ∧ va_S A s.heap H locs ∧ lv_has ls 6 [(5, .int u_83), (4, .int u_84), (3, .ref (y 35)), (0, .ref (y 0)), (1, .int 1), (2, .int a2)]) (g := fun ls => F0 m 44 ls []) (fun n_89 H locs ls hX ihn_89 => ?_) _ ⟨0, py0_12, fy20, fy21, fy22, fy36, (iv_c (0 : Int32) (by decide)), bpy0_12, tfy20, hK9, hR, rfl, hP, hD, hS, lv_sub hl [0, 1, 2, 3, 4, 5] rfl⟩
          obtain ⟨u_83, u_84, f_85, f_86, f_87, f_88, bu_83, bu_84, tf_85, knn_89, hR, en_89, hP, hD, hS, hl⟩ := hX
          obtain ⟨Tn_89, hR, hAn_89⟩ := tw hR
          replace hR : Tn_89 = B_k_X9_lists_0_2 D9 a2 fy34 fy38 fy40 py0_13 py2_1 py35_1 u_83 u_84 f_88 := hR
          replace hR := hR.trans (B_k_X9_lists_0_2.eq_1 ..)
          refine lv_iload hx hb dX9_lists_44 (lv_at hl 0 rfl) ?_
          refine lv_aload_n hx hb dX9_lists_46 rfl (lv_at hl 2 rfl) ?_
          refine va_get (ci := 7) (v := .int py35_1) (C := RX7) (T := TX7) (N := 3) hx hb hg inX7 hown hK hP 16 rfl rfl 1 (by decide) (hg _ q_2_2) (fun _ h9 => h9) rfl dX9_lists_47 ?_
          refine lv_icmp_ge (tgt := 89) hx hb dX9_lists_50 (by decide) (fun c_90 => ?_) (fun c_90 => ?_)
          · replace hR := ti hR c_90
            refine lv_aload_n hx hb dX9_lists_89 rfl (lv_at hl 2 rfl) ?_
            refine va_get (ci := 7) (v := .int py35_1) (C := RX7) (T := TX7) (N := 3) hx hb hg inX7 hown hK hP 16 rfl rfl 1 (by decide) (hg _ q_2_2) (fun _ h9 => h9) rfl dX9_lists_90 ?_
            have hP := subP (ws' := [(y 0, .inr (9, o9_rirrrrrrrrvviii (y 1) py0_1 (y 2) (y 10) (y 19) (y 25) (y 26) (y 30) (y 31) (y 32) o10 o11 py0_12 py0_13 py0_14)), (y 2, .inr (1, o1_iiiiiirrrrrrriiiii py2_0 py2_1 py2_2 py2_3 py2_4 py2_5 (y 3) (y 4) (y 5) (y 6) (y 7) (y 8) (y 9) py2_13 py2_14 py2_15 py2_16 py2_17)), (y 3, aI V 4 fy3), (y 9, aI V 900 fy9), (y 19, .inr (4, o4_rrrrrr (y 2) (y 20) (y 21) (y 22) (y 23) (y 24))), (y 20, aI V 2000 f_85), (y 21, aI V 6 f_86), (y 22, aI V 64 f_87), (y 30, aT V 4 (va_up (va_up (va_up (va_up (fun _ => none) 0 (some (y 33))) 1 (some (y 35))) 2 (some (y 37))) 3 (some (y 39)))), (y 33, .inr (7, o7_rii (y 34) py33_1 py33_2)), (y 34, aJ V 40 fy34), (y 35, .inr (7, o7_rii (y 36) py35_1 py35_2)), (y 36, aJ V 40 f_88), (y 37, .inr (7, o7_rii (y 38) py37_1 py37_2)), (y 38, aJ V 40 fy38), (y 39, .inr (7, o7_rii (y 40) py39_1 py39_2)), (y 40, aJ V 40 fy40)]) hP [14, 15, 0, 1, 2, 3, 4, 5, 6, 7, 8, 16, 9, 10, 11, 12, 13] rfl
            have hD := subD hP hD [14, 15, 0, 1, 2, 3, 4, 5, 6, 7, 8, 16, 9, 10, 11, 12, 13] rfl rfl
            exact fiI hx hb hr hlk hK hP hD hS dX9_lists_93 (Nat.le_of_ble_eq_true rfl) (Nat.le_of_ble_eq_true rfl) (⟨f_85, f_86, f_87, fy34, f_88, fy38, fy40, tf_85, (iv_w b_80 (by decide)), (congrArg Prod.fst ((tx hAn_89 hR).symm.trans hT0)), (congrArg Prod.fst (congrArg Prod.snd ((tx hAn_89 hR).symm.trans hT0))), (congrArg Prod.fst (congrArg Prod.snd (congrArg Prod.snd ((tx hAn_89 hR).symm.trans hT0)))), (congrArg Prod.fst (congrArg Prod.snd (congrArg Prod.snd (congrArg Prod.snd ((tx hAn_89 hR).symm.trans hT0))))), (congrArg Prod.snd (congrArg Prod.snd (congrArg Prod.snd (congrArg Prod.snd ((tx hAn_89 hR).symm.trans hT0))))), knn_89, rfl⟩)
          · replace hR := te hR c_90
            have b_91 : iv 0 39 u_83 := iv_l1 (Int32.not_le.mp c_90) bu_83 b_80 (by decide)
            have b_92 : iv 1 40 py35_1 := iv_l2 (Int32.not_le.mp c_90) bu_83 b_80 (by decide)
            refine lv_aload_n hx hb dX9_lists_53 rfl (lv_at hl 3 rfl) ?_
            refine va_get (ci := 9) (v := .ref (y 19)) (C := RX9) (T := TX9) (N := 15) hx hb hg inX9 hown hK hP 14 rfl rfl 4 (by decide) (hg _ q_2_40) (fun _ h9 => h9) rfl dX9_lists_54 ?_
            refine lv_iload hx hb dX9_lists_57 (lv_at hl 1 rfl) ?_
            refine lv_aload_n hx hb dX9_lists_59 rfl (lv_at hl 3 rfl) ?_
            refine va_get (ci := 9) (v := .int py0_13) (C := RX9) (T := TX9) (N := 15) hx hb hg inX9 hown hK hP 14 rfl rfl 13 (by decide) (hg _ q_2_49) (fun _ h9 => h9) rfl dX9_lists_60 ?_
            refine lv_iconst (v := 0) hx hb dX9_lists_63 (by decide) ?_
            refine jnI (wr := [(y 30, aT V 4 (va_up (va_up (va_up (va_up (fun _ => none) 0 (some (y 33))) 1 (some (y 35))) 2 (some (y 37))) 3 (some (y 39)))), (y 33, .inr (7, o7_rii (y 34) py33_1 py33_2)), (y 34, aJ V 40 fy34), (y 36, aJ V 40 f_88), (y 37, .inr (7, o7_rii (y 38) py37_1 py37_2)), (y 38, aJ V 40 fy38), (y 39, .inr (7, o7_rii (y 40) py39_1 py39_2)), (y 40, aJ V 40 fy40), (y 0, .inr (9, o9_rirrrrrrrrvviii (y 1) py0_1 (y 2) (y 10) (y 19) (y 25) (y 26) (y 30) (y 31) (y 32) o10 o11 py0_12 py0_13 py0_14)), (y 35, .inr (7, o7_rii (y 36) py35_1 py35_2))]) (rnV (rest := []) ⟨hx, hb, hml, hown, hg⟩ (k_X4_behind_0 l V y u_84 py0_13 0 fy3 fy9 f_85 f_86 f_87 py2_0 py2_1 py2_2 py2_3 py2_4 py2_5 py2_13 py2_14 py2_15 py2_16 py2_17 bu_84 bpy0_13 tf_85 (iv_w b_38 (by decide)) bpy2_2 bpy2_3 bpy2_4 bpy2_5 bpy2_13 bpy2_14 bpy2_15 bpy2_16 bpy2_17) mt_X4_behind q_3_145 ⟨Nat.le_of_ble_eq_true rfl, Nat.le_of_ble_eq_true rfl⟩ hK hP hD hS hA hE [0, 1, 2, 3, 4, 5, 15] rfl rfl 2 rfl rfl rfl rfl hl.1 rfl (Nat.le_of_ble_eq_true rfl) dX9_lists_64 ⟨Nat.le_of_ble_eq_true rfl, Nat.le_of_ble_eq_true rfl⟩) hP hD hS hA [0, 1, 2, 3, 4, 5, 15] [6, 7, 8, 9, 10, 11, 12, 13, 14, 16] rfl rfl rfl (by decide) (fun r_93 w H locs hw hP hD hS => ?_)
            obtain ⟨f_94, f_95, f_96, tf_94, br_93, g_97, rfl⟩ := hw
            have qkn_98 := g_97 D9 hL9 knn_89
            have er_93 : r_93 = bhS D9 u_84 py0_13 (0 : Int32) (py2_1 : Int32).toNatClampNeg := qkn_98.1
            have kn_98 := qkn_98.2
            replace hR := tb hR er_93
            have hP : va_P V.1 vwCl [(y 30, aT V 4 (va_up (va_up (va_up (va_up (fun _ => none) 0 (some (y 33))) 1 (some (y 35))) 2 (some (y 37))) 3 (some (y 39)))), (y 33, .inr (7, o7_rii (y 34) py33_1 py33_2)), (y 34, aJ V 40 fy34), (y 36, aJ V 40 f_88), (y 37, .inr (7, o7_rii (y 38) py37_1 py37_2)), (y 38, aJ V 40 fy38), (y 39, .inr (7, o7_rii (y 40) py39_1 py39_2)), (y 40, aJ V 40 fy40), (y 0, .inr (9, o9_rirrrrrrrrvviii (y 1) py0_1 (y 2) (y 10) (y 19) (y 25) (y 26) (y 30) (y 31) (y 32) o10 o11 py0_12 py0_13 py0_14)), (y 35, .inr (7, o7_rii (y 36) py35_1 py35_2)), (y 3, aI V 4 fy3), (y 9, aI V 900 fy9), (y 19, .inr (4, o4_rrrrrr (y 2) (y 20) (y 21) (y 22) (y 23) (y 24))), (y 20, aI V 2000 f_94), (y 21, aI V 6 f_95), (y 22, aI V 64 f_96), (y 2, .inr (1, o1_iiiiiirrrrrrriiiii py2_0 py2_1 py2_2 py2_3 py2_4 py2_5 (y 3) (y 4) (y 5) (y 6) (y 7) (y 8) (y 9) py2_13 py2_14 py2_15 py2_16 py2_17))] H := hP
            have hD := cpD hP hD
            refine lv_istore (lv' := [(4, .int r_93), (5, .int u_83), (3, .ref (y 35)), (0, .ref (y 0)), (1, .int 1), (2, .int a2)]) hx hb dX9_lists_67 hl (by decide) rfl (fun ls hl => ?_)
            refine lv_aload_n hx hb dX9_lists_69 rfl (lv_at hl 2 rfl) ?_
            refine va_get (ci := 7) (v := .ref (y 36)) (C := RX7) (T := TX7) (N := 3) hx hb hg inX7 hown hK hP 9 rfl rfl 0 (by decide) (hg _ q_1_239) (fun _ h9 => h9) rfl dX9_lists_70 ?_
            refine lv_iload hx hb dX9_lists_73 (lv_at hl 1 rfl) ?_
            refine lv_iload hx hb dX9_lists_75 (lv_at hl 0 rfl) ?_
            refine lv_iload_n hx hb dX9_lists_77 rfl (lv_at hl 5 rfl) ?_
            refine jnI (wr := [(y 30, aT V 4 (va_up (va_up (va_up (va_up (fun _ => none) 0 (some (y 33))) 1 (some (y 35))) 2 (some (y 37))) 3 (some (y 39)))), (y 33, .inr (7, o7_rii (y 34) py33_1 py33_2)), (y 34, aJ V 40 fy34), (y 36, aJ V 40 f_88), (y 37, .inr (7, o7_rii (y 38) py37_1 py37_2)), (y 38, aJ V 40 fy38), (y 39, .inr (7, o7_rii (y 40) py39_1 py39_2)), (y 40, aJ V 40 fy40), (y 0, .inr (9, o9_rirrrrrrrrvviii (y 1) py0_1 (y 2) (y 10) (y 19) (y 25) (y 26) (y 30) (y 31) (y 32) o10 o11 py0_12 py0_13 py0_14)), (y 35, .inr (7, o7_rii (y 36) py35_1 py35_2)), (y 3, aI V 4 fy3), (y 9, aI V 900 fy9), (y 19, .inr (4, o4_rrrrrr (y 2) (y 20) (y 21) (y 22) (y 23) (y 24))), (y 20, aI V 2000 f_94), (y 21, aI V 6 f_95), (y 22, aI V 64 f_96), (y 2, .inr (1, o1_iiiiiirrrrrrriiiii py2_0 py2_1 py2_2 py2_3 py2_4 py2_5 (y 3) (y 4) (y 5) (y 6) (y 7) (y 8) (y 9) py2_13 py2_14 py2_15 py2_16 py2_17))]) (rnS (rest := [.int u_83, .ref (y 36)]) ⟨hx, hb, hml, hown, hg⟩ (k_X9_stackIn_0 l V r_93 a2 br_93 (iv_w b_37 (by decide))) mt_X9_stackIn q_3_126 ⟨Nat.le_of_ble_eq_true rfl, Nat.le_of_ble_eq_true rfl⟩ hK hP hD hS hA hE [] rfl rfl rfl hl.1 rfl (Nat.le_of_ble_eq_true rfl) dX9_lists_78 ⟨Nat.le_of_ble_eq_true rfl, Nat.le_of_ble_eq_true rfl⟩) hP hD hS hA [] [0, 1, 2, 3, 4, 5, 6, 7, 8, 9, 10, 11, 12, 13, 14, 15, 16] rfl rfl rfl (by decide) (fun r_99 w H locs hw hP hD hS => ?_)
            obtain ⟨br_99, er_99, et_100, rfl⟩ := hw
            replace hR := tb hR et_100
            have hP : va_P V.1 vwCl [(y 30, aT V 4 (va_up (va_up (va_up (va_up (fun _ => none) 0 (some (y 33))) 1 (some (y 35))) 2 (some (y 37))) 3 (some (y 39)))), (y 33, .inr (7, o7_rii (y 34) py33_1 py33_2)), (y 34, aJ V 40 fy34), (y 36, aJ V 40 f_88), (y 37, .inr (7, o7_rii (y 38) py37_1 py37_2)), (y 38, aJ V 40 fy38), (y 39, .inr (7, o7_rii (y 40) py39_1 py39_2)), (y 40, aJ V 40 fy40), (y 0, .inr (9, o9_rirrrrrrrrvviii (y 1) py0_1 (y 2) (y 10) (y 19) (y 25) (y 26) (y 30) (y 31) (y 32) o10 o11 py0_12 py0_13 py0_14)), (y 35, .inr (7, o7_rii (y 36) py35_1 py35_2)), (y 3, aI V 4 fy3), (y 9, aI V 900 fy9), (y 19, .inr (4, o4_rrrrrr (y 2) (y 20) (y 21) (y 22) (y 23) (y 24))), (y 20, aI V 2000 f_94), (y 21, aI V 6 f_95), (y 22, aI V 64 f_96), (y 2, .inr (1, o1_iiiiiirrrrrrriiiii py2_0 py2_1 py2_2 py2_3 py2_4 py2_5 (y 3) (y 4) (y 5) (y 6) (y 7) (y 8) (y 9) py2_13 py2_14 py2_15 py2_16 py2_17))] H := hP
            have hD := cpD hP hD
            refine lv_i2l hx hb dX9_lists_81 rfl ?_
            refine lv_topl (fun j_102 ej_102 => ?_)
            replace hR := tb hR ej_102
            refine va_last hx hb hK hP hD hS 3 2 rfl rfl (iv_in b_91 (by decide)) dX9_lists_82 (fun H locs hP hD hS => ?_)
            obtain ⟨f_103, ef_103, hP, hD⟩ : ∃ f_103 : Nat → Int64, f_103 = (vp_updL f_88 (u_83 : Int32).toNatClampNeg j_102) ∧ va_P V.1 vwCl [(y 30, aT V 4 (va_up (va_up (va_up (va_up (fun _ => none) 0 (some (y 33))) 1 (some (y 35))) 2 (some (y 37))) 3 (some (y 39)))), (y 33, .inr (7, o7_rii (y 34) py33_1 py33_2)), (y 34, aJ V 40 fy34), (y 36, aJ V 40 f_103), (y 37, .inr (7, o7_rii (y 38) py37_1 py37_2)), (y 38, aJ V 40 fy38), (y 39, .inr (7, o7_rii (y 40) py39_1 py39_2)), (y 40, aJ V 40 fy40), (y 0, .inr (9, o9_rirrrrrrrrvviii (y 1) py0_1 (y 2) (y 10) (y 19) (y 25) (y 26) (y 30) (y 31) (y 32) o10 o11 py0_12 py0_13 py0_14)), (y 35, .inr (7, o7_rii (y 36) py35_1 py35_2)), (y 3, aI V 4 fy3), (y 9, aI V 900 fy9), (y 19, .inr (4, o4_rrrrrr (y 2) (y 20) (y 21) (y 22) (y 23) (y 24))), (y 20, aI V 2000 f_94), (y 21, aI V 6 f_95), (y 22, aI V 64 f_96), (y 2, .inr (1, o1_iiiiiirrrrrrriiiii py2_0 py2_1 py2_2 py2_3 py2_4 py2_5 (y 3) (y 4) (y 5) (y 6) (y 7) (y 8) (y 9) py2_13 py2_14 py2_15 py2_16 py2_17))] H ∧ va_D A [(y 30, aT V 4 (va_up (va_up (va_up (va_up (fun _ => none) 0 (some (y 33))) 1 (some (y 35))) 2 (some (y 37))) 3 (some (y 39)))), (y 33, .inr (7, o7_rii (y 34) py33_1 py33_2)), (y 34, aJ V 40 fy34), (y 36, aJ V 40 f_103), (y 37, .inr (7, o7_rii (y 38) py37_1 py37_2)), (y 38, aJ V 40 fy38), (y 39, .inr (7, o7_rii (y 40) py39_1 py39_2)), (y 40, aJ V 40 fy40), (y 0, .inr (9, o9_rirrrrrrrrvviii (y 1) py0_1 (y 2) (y 10) (y 19) (y 25) (y 26) (y 30) (y 31) (y 32) o10 o11 py0_12 py0_13 py0_14)), (y 35, .inr (7, o7_rii (y 36) py35_1 py35_2)), (y 3, aI V 4 fy3), (y 9, aI V 900 fy9), (y 19, .inr (4, o4_rrrrrr (y 2) (y 20) (y 21) (y 22) (y 23) (y 24))), (y 20, aI V 2000 f_94), (y 21, aI V 6 f_95), (y 22, aI V 64 f_96), (y 2, .inr (1, o1_iiiiiirrrrrrriiiii py2_0 py2_1 py2_2 py2_3 py2_4 py2_5 (y 3) (y 4) (y 5) (y 6) (y 7) (y 8) (y 9) py2_13 py2_14 py2_15 py2_16 py2_17))] := ⟨_, rfl, hP, hD⟩
            replace hR := tb hR ef_103
            obtain ⟨x_104, ex_104⟩ : ∃ z9 : Int32, z9 = u_83 + 1 := ⟨_, rfl⟩
            have bx_104 : iv 1 40 x_104 := by rw [ex_104]; exact iv_add b_91 (iv_c (1 : Int32) (a := 1) (b := 1) (by decide)) (by decide)
            replace hR := tb hR ex_104
            refine lv_iinc (v := x_104) (lv' := [(5, .int x_104), (4, .int r_93), (3, .ref (y 35)), (0, .ref (y 0)), (1, .int 1), (2, .int a2)]) hx hb dX9_lists_83 hl (k := 1) rfl (by rw [ex_104]; rfl) (by decide) rfl (fun ls hl => ?_)
            refine lv_goto (tgt := 44) hx hb dX9_lists_86 (by decide) ?_
            have hP := subP (ws' := [(y 3, aI V 4 fy3), (y 9, aI V 900 fy9), (y 19, .inr (4, o4_rrrrrr (y 2) (y 20) (y 21) (y 22) (y 23) (y 24))), (y 20, aI V 2000 f_94), (y 21, aI V 6 f_95), (y 22, aI V 64 f_96), (y 30, aT V 4 (va_up (va_up (va_up (va_up (fun _ => none) 0 (some (y 33))) 1 (some (y 35))) 2 (some (y 37))) 3 (some (y 39)))), (y 33, .inr (7, o7_rii (y 34) py33_1 py33_2)), (y 34, aJ V 40 fy34), (y 36, aJ V 40 f_103), (y 37, .inr (7, o7_rii (y 38) py37_1 py37_2)), (y 38, aJ V 40 fy38), (y 39, .inr (7, o7_rii (y 40) py39_1 py39_2)), (y 40, aJ V 40 fy40), (y 0, .inr (9, o9_rirrrrrrrrvviii (y 1) py0_1 (y 2) (y 10) (y 19) (y 25) (y 26) (y 30) (y 31) (y 32) o10 o11 py0_12 py0_13 py0_14)), (y 2, .inr (1, o1_iiiiiirrrrrrriiiii py2_0 py2_1 py2_2 py2_3 py2_4 py2_5 (y 3) (y 4) (y 5) (y 6) (y 7) (y 8) (y 9) py2_13 py2_14 py2_15 py2_16 py2_17)), (y 35, .inr (7, o7_rii (y 36) py35_1 py35_2))]) hP [10, 11, 12, 13, 14, 15, 0, 1, 2, 3, 4, 5, 6, 7, 8, 16, 9] rfl
            have hD := subD hP hD [10, 11, 12, 13, 14, 15, 0, 1, 2, 3, 4, 5, 6, 7, 8, 16, 9] rfl rfl
            exact ihn_89 _ _ _ _ (by rw [en_89, ex_104]; exact mu_up b_91 (by decide)) ⟨x_104, r_93, f_94, f_95, f_96, f_103, (iv_w bx_104 (by decide)), br_93, tf_94, kn_98, (tbk hAn_89 hR), rfl, hP, hD, hS, lv_sub hl [0, 1, 2, 3, 4, 5] rfl⟩
        · have hP : va_P V.1 vwCl [(y 3, aI V 4 fy3), (y 9, aI V 900 fy9), (y 19, .inr (4, o4_rrrrrr (y 2) (y 20) (y 21) (y 22) (y 23) (y 24))), (y 20, aI V 2000 fy20), (y 21, aI V 6 fy21), (y 22, aI V 64 fy22), (y 30, aT V 4 (va_up (va_up (va_up (va_up (fun _ => none) 0 (some (y 33))) 1 (some (y 35))) 2 (some (y 37))) 3 (some (y 39)))), (y 33, .inr (7, o7_rii (y 34) py33_1 py33_2)), (y 34, aJ V 40 fy34), (y 36, aJ V 40 fy36), (y 37, .inr (7, o7_rii (y 38) py37_1 py37_2)), (y 38, aJ V 40 fy38), (y 39, .inr (7, o7_rii (y 40) py39_1 py39_2)), (y 40, aJ V 40 fy40), (y 0, .inr (9, o9_rirrrrrrrrvviii (y 1) py0_1 (y 2) (y 10) (y 19) (y 25) (y 26) (y 30) (y 31) (y 32) o10 o11 py0_12 py0_13 py0_14)), (y 2, .inr (1, o1_iiiiiirrrrrrriiiii py2_0 py2_1 py2_2 py2_3 py2_4 py2_5 (y 3) (y 4) (y 5) (y 6) (y 7) (y 8) (y 9) py2_13 py2_14 py2_15 py2_16 py2_17)), (y 35, .inr (7, o7_rii (y 36) py35_1 py35_2))] H := hP
          have hD := cpD hP hD
          replace hR := te hR (by rw [← et_79]; decide)
          have b_105 : iv (-1) (-1) py35_1 := iv_l1 (Int32.not_le.mp c_78) bpy35_1 (iv_c (0 : Int32) (a := 0) (b := 0) (by decide)) (by decide)
          refine lv_if_eq (tgt := 35) hx hb dX9_lists_29 (by decide) (fun c_107 => absurd c_107 (by decide)) (fun _ => ?_)
          refine lv_bipush (v := (-6)) hx hb dX9_lists_32 (by decide) ?_
          have hP := subP (ws' := [(y 0, .inr (9, o9_rirrrrrrrrvviii (y 1) py0_1 (y 2) (y 10) (y 19) (y 25) (y 26) (y 30) (y 31) (y 32) o10 o11 py0_12 py0_13 py0_14)), (y 2, .inr (1, o1_iiiiiirrrrrrriiiii py2_0 py2_1 py2_2 py2_3 py2_4 py2_5 (y 3) (y 4) (y 5) (y 6) (y 7) (y 8) (y 9) py2_13 py2_14 py2_15 py2_16 py2_17)), (y 3, aI V 4 fy3), (y 9, aI V 900 fy9), (y 19, .inr (4, o4_rrrrrr (y 2) (y 20) (y 21) (y 22) (y 23) (y 24))), (y 20, aI V 2000 fy20), (y 21, aI V 6 fy21), (y 22, aI V 64 fy22), (y 30, aT V 4 (va_up (va_up (va_up (va_up (fun _ => none) 0 (some (y 33))) 1 (some (y 35))) 2 (some (y 37))) 3 (some (y 39)))), (y 33, .inr (7, o7_rii (y 34) py33_1 py33_2)), (y 34, aJ V 40 fy34), (y 35, .inr (7, o7_rii (y 36) py35_1 py35_2)), (y 36, aJ V 40 fy36), (y 37, .inr (7, o7_rii (y 38) py37_1 py37_2)), (y 38, aJ V 40 fy38), (y 39, .inr (7, o7_rii (y 40) py39_1 py39_2)), (y 40, aJ V 40 fy40)]) hP [14, 15, 0, 1, 2, 3, 4, 5, 6, 7, 8, 16, 9, 10, 11, 12, 13] rfl
          have hD := subD hP hD [14, 15, 0, 1, 2, 3, 4, 5, 6, 7, 8, 16, 9, 10, 11, 12, 13] rfl rfl
          exact fiI hx hb hr hlk hK hP hD hS dX9_lists_34 (Nat.le_of_ble_eq_true rfl) (Nat.le_of_ble_eq_true rfl) (⟨fy20, fy21, fy22, fy34, fy36, fy38, fy40, tfy20, (iv_c ((-6) : Int32) (by decide)), (congrArg Prod.fst (hR.symm.trans hT0)), (congrArg Prod.fst (congrArg Prod.snd (hR.symm.trans hT0))), (congrArg Prod.fst (congrArg Prod.snd (congrArg Prod.snd (hR.symm.trans hT0)))), (congrArg Prod.fst (congrArg Prod.snd (congrArg Prod.snd (congrArg Prod.snd (hR.symm.trans hT0))))), (congrArg Prod.snd (congrArg Prod.snd (congrArg Prod.snd (congrArg Prod.snd (hR.symm.trans hT0))))), hK9, rfl⟩)
      · replace hR := te hR (by decide)
        replace hR := te hR (by decide)
        replace hR := ti hR rfl
        refine va_aldq hx hb hK hP 6 4 rfl rfl (vin (by decide +kernel)) dX9_lists_23 ?_
        refine W.eq (g2 := F0 m 24 ls (.ref (y 37) :: [])) rfl ?_
        refine lv_astore_n (lv' := [(3, .ref (y 37)), (0, .ref (y 0)), (1, .int 2), (2, .int a2)]) hx hb dX9_lists_24 rfl hl (by decide) rfl (fun ls hl => ?_)
        refine lv_aload_n hx hb dX9_lists_25 rfl (lv_at hl 0 rfl) ?_
        refine jnI (wr := [(y 3, aI V 4 fy3), (y 9, aI V 900 fy9), (y 19, .inr (4, o4_rrrrrr (y 2) (y 20) (y 21) (y 22) (y 23) (y 24))), (y 20, aI V 2000 fy20), (y 21, aI V 6 fy21), (y 22, aI V 64 fy22), (y 30, aT V 4 (va_up (va_up (va_up (va_up (fun _ => none) 0 (some (y 33))) 1 (some (y 35))) 2 (some (y 37))) 3 (some (y 39)))), (y 33, .inr (7, o7_rii (y 34) py33_1 py33_2)), (y 34, aJ V 40 fy34), (y 35, .inr (7, o7_rii (y 36) py35_1 py35_2)), (y 36, aJ V 40 fy36), (y 38, aJ V 40 fy38), (y 39, .inr (7, o7_rii (y 40) py39_1 py39_2)), (y 40, aJ V 40 fy40), (y 0, .inr (9, o9_rirrrrrrrrvviii (y 1) py0_1 (y 2) (y 10) (y 19) (y 25) (y 26) (y 30) (y 31) (y 32) o10 o11 py0_12 py0_13 py0_14)), (y 2, .inr (1, o1_iiiiiirrrrrrriiiii py2_0 py2_1 py2_2 py2_3 py2_4 py2_5 (y 3) (y 4) (y 5) (y 6) (y 7) (y 8) (y 9) py2_13 py2_14 py2_15 py2_16 py2_17))]) (rnV (rest := []) ⟨hx, hb, hml, hown, hg⟩ (k_X7_isMissing_2 l V y py37_1 py37_2 bpy37_1) mt_X7_isMissing q_3_231 ⟨Nat.le_of_ble_eq_true rfl, Nat.le_of_ble_eq_true rfl⟩ hK hP hD hS hA hE [11] rfl rfl 11 rfl rfl rfl rfl hl.1 rfl (Nat.le_of_ble_eq_true rfl) dX9_lists_26 ⟨Nat.le_of_ble_eq_true rfl, Nat.le_of_ble_eq_true rfl⟩) hP hD hS hA [11] [0, 1, 2, 3, 4, 5, 6, 7, 8, 9, 10, 12, 13, 14, 15, 16] rfl rfl rfl (by decide) (fun r_108 w H locs hw hP hD hS => ?_)
        rcases hw with ⟨c_109, rfl, et_110, rfl⟩ | ⟨c_111, rfl, et_112, rfl⟩
        · have hP : va_P V.1 vwCl [(y 3, aI V 4 fy3), (y 9, aI V 900 fy9), (y 19, .inr (4, o4_rrrrrr (y 2) (y 20) (y 21) (y 22) (y 23) (y 24))), (y 20, aI V 2000 fy20), (y 21, aI V 6 fy21), (y 22, aI V 64 fy22), (y 30, aT V 4 (va_up (va_up (va_up (va_up (fun _ => none) 0 (some (y 33))) 1 (some (y 35))) 2 (some (y 37))) 3 (some (y 39)))), (y 33, .inr (7, o7_rii (y 34) py33_1 py33_2)), (y 34, aJ V 40 fy34), (y 35, .inr (7, o7_rii (y 36) py35_1 py35_2)), (y 36, aJ V 40 fy36), (y 38, aJ V 40 fy38), (y 39, .inr (7, o7_rii (y 40) py39_1 py39_2)), (y 40, aJ V 40 fy40), (y 0, .inr (9, o9_rirrrrrrrrvviii (y 1) py0_1 (y 2) (y 10) (y 19) (y 25) (y 26) (y 30) (y 31) (y 32) o10 o11 py0_12 py0_13 py0_14)), (y 2, .inr (1, o1_iiiiiirrrrrrriiiii py2_0 py2_1 py2_2 py2_3 py2_4 py2_5 (y 3) (y 4) (y 5) (y 6) (y 7) (y 8) (y 9) py2_13 py2_14 py2_15 py2_16 py2_17)), (y 37, .inr (7, o7_rii (y 38) py37_1 py37_2))] H := hP
          have hD := cpD hP hD
          replace hR := ti hR et_110.symm
          have b_113 : iv 0 40 py37_1 := iv_e2 c_109 (iv_c (0 : Int32) (a := 0) (b := 0) (by decide)) bpy37_1 (by decide)
          refine lv_if_eq (tgt := 35) hx hb dX9_lists_29 (by decide) (fun _ => ?_) (fun c_115 => absurd c_115 (by decide))
          refine lv_aload_n hx hb dX9_lists_35 rfl (lv_at hl 1 rfl) ?_
          refine va_get (ci := 9) (v := .int py0_12) (C := RX9) (T := TX9) (N := 15) hx hb hg inX9 hown hK hP 14 rfl rfl 12 (by decide) (hg _ q_2_48) (fun _ h9 => h9) rfl dX9_lists_36 ?_
          refine lv_istore (lv' := [(4, .int py0_12), (3, .ref (y 37)), (0, .ref (y 0)), (1, .int 2), (2, .int a2)]) hx hb dX9_lists_39 hl (by decide) rfl (fun ls hl => ?_)
          refine lv_iconst (v := 0) hx hb dX9_lists_41 (by decide) ?_
          refine lv_istore (lv' := [(5, .int 0), (4, .int py0_12), (3, .ref (y 37)), (0, .ref (y 0)), (1, .int 2), (2, .int a2)]) hx hb dX9_lists_42 hl (by decide) rfl (fun ls hl => ?_)
          refine loopF (X := fun (n_122 : Nat) (H : Heap) (locs : List Loc) (ls : Array Slot) => ∃ (u_116 : Int32) (u_117 : Int32) (f_118 : Nat → Int32) (f_119 : Nat → Int32) (f_120 : Nat → Int32) (f_121 : Nat → Int64), (iv 0 2147483647 u_116) ∧ (iv 0 9999 u_117) ∧ (∀ j, iv 0 10 (f_118 j)) ∧ KN D9 f_118 ∧ T0 = W9 (L_k_X9_lists_0_3 D9 a2 fy34 fy36 fy40 py0_13 py2_1 py37_1) (u_116, u_117, f_121) ∧ n_122 = (2147483647 - (u_116 : Int32).toInt).toNat ∧ va_P V.1 vwCl [(y 3, aI V 4 fy3), (y 9, aI V 900 fy9), (y 19, .inr (4, o4_rrrrrr (y 2) (y 20) (y 21) (y 22) (y 23) (y 24))), (y 20, aI V 2000 f_118), (y 21, aI V 6 f_119), (y 22, aI V 64 f_120), (y 30, aT V 4 (va_up (va_up (va_up (va_up (fun _ => none) 0 (some (y 33))) 1 (some (y 35))) 2 (some (y 37))) 3 (some (y 39)))), (y 33, .inr (7, o7_rii (y 34) py33_1 py33_2)), (y 34, aJ V 40 fy34), (y 35, .inr (7, o7_rii (y 36) py35_1 py35_2)), (y 36, aJ V 40 fy36), (y 38, aJ V 40 f_121), (y 39, .inr (7, o7_rii (y 40) py39_1 py39_2)), (y 40, aJ V 40 fy40), (y 0, .inr (9, o9_rirrrrrrrrvviii (y 1) py0_1 (y 2) (y 10) (y 19) (y 25) (y 26) (y 30) (y 31) (y 32) o10 o11 py0_12 py0_13 py0_14)), (y 2, .inr (1, o1_iiiiiirrrrrrriiiii py2_0 py2_1 py2_2 py2_3 py2_4 py2_5 (y 3) (y 4) (y 5) (y 6) (y 7) (y 8) (y 9) py2_13 py2_14 py2_15 py2_16 py2_17)), (y 37, .inr (7, o7_rii (y 38) py37_1 py37_2))] H ∧ va_D A [(y 3, aI V 4 fy3), (y 9, aI V 900 fy9), (y 19, .inr (4, o4_rrrrrr (y 2) (y 20) (y 21) (y 22) (y 23) (y 24))), (y 20, aI V 2000 f_118), (y 21, aI V 6 f_119), (y 22, aI V 64 f_120), (y 30, aT V 4 (va_up (va_up (va_up (va_up (fun _ => none) 0 (some (y 33))) 1 (some (y 35))) 2 (some (y 37))) 3 (some (y 39)))), (y 33, .inr (7, o7_rii (y 34) py33_1 py33_2)), (y 34, aJ V 40 fy34), (y 35, .inr (7, o7_rii (y 36) py35_1 py35_2)), (y 36, aJ V 40 fy36), (y 38, aJ V 40 f_121), (y 39, .inr (7, o7_rii (y 40) py39_1 py39_2)), (y 40, aJ V 40 fy40), (y 0, .inr (9, o9_rirrrrrrrrvviii (y 1) py0_1 (y 2) (y 10) (y 19) (y 25) (y 26) (y 30) (y 31) (y 32) o10 o11 py0_12 py0_13 py0_14)), (y 2, .inr (1, o1_iiiiiirrrrrrriiiii py2_0 py2_1 py2_2 py2_3 py2_4 py2_5 (y 3) (y 4) (y 5) (y 6) (y 7) (y 8) (y 9) py2_13 py2_14 py2_15 py2_16 py2_17)), (y 37, .inr (7, o7_rii (y 38) py37_1 py37_2))] ∧ va_S A s.heap H locs ∧ lv_has ls 6 [(5, .int u_116), (4, .int u_117), (3, .ref (y 37)), (0, .ref (y 0)), (1, .int 2), (2, .int a2)]) (g := fun ls => F0 m 44 ls []) (fun n_122 H locs ls hX ihn_122 => ?_) _ ⟨0, py0_12, fy20, fy21, fy22, fy38, (iv_c (0 : Int32) (by decide)), bpy0_12, tfy20, hK9, hR, rfl, hP, hD, hS, lv_sub hl [0, 1, 2, 3, 4, 5] rfl⟩
          obtain ⟨u_116, u_117, f_118, f_119, f_120, f_121, bu_116, bu_117, tf_118, knn_122, hR, en_122, hP, hD, hS, hl⟩ := hX
          obtain ⟨Tn_122, hR, hAn_122⟩ := tw hR
          replace hR : Tn_122 = B_k_X9_lists_0_3 D9 a2 fy34 fy36 fy40 py0_13 py2_1 py37_1 u_116 u_117 f_121 := hR
          replace hR := hR.trans (B_k_X9_lists_0_3.eq_1 ..)
          refine lv_iload hx hb dX9_lists_44 (lv_at hl 0 rfl) ?_
          refine lv_aload_n hx hb dX9_lists_46 rfl (lv_at hl 2 rfl) ?_
          refine va_get (ci := 7) (v := .int py37_1) (C := RX7) (T := TX7) (N := 3) hx hb hg inX7 hown hK hP 16 rfl rfl 1 (by decide) (hg _ q_2_2) (fun _ h9 => h9) rfl dX9_lists_47 ?_
          refine lv_icmp_ge (tgt := 89) hx hb dX9_lists_50 (by decide) (fun c_123 => ?_) (fun c_123 => ?_)
          · replace hR := ti hR c_123
            refine lv_aload_n hx hb dX9_lists_89 rfl (lv_at hl 2 rfl) ?_
            refine va_get (ci := 7) (v := .int py37_1) (C := RX7) (T := TX7) (N := 3) hx hb hg inX7 hown hK hP 16 rfl rfl 1 (by decide) (hg _ q_2_2) (fun _ h9 => h9) rfl dX9_lists_90 ?_
            have hP := subP (ws' := [(y 0, .inr (9, o9_rirrrrrrrrvviii (y 1) py0_1 (y 2) (y 10) (y 19) (y 25) (y 26) (y 30) (y 31) (y 32) o10 o11 py0_12 py0_13 py0_14)), (y 2, .inr (1, o1_iiiiiirrrrrrriiiii py2_0 py2_1 py2_2 py2_3 py2_4 py2_5 (y 3) (y 4) (y 5) (y 6) (y 7) (y 8) (y 9) py2_13 py2_14 py2_15 py2_16 py2_17)), (y 3, aI V 4 fy3), (y 9, aI V 900 fy9), (y 19, .inr (4, o4_rrrrrr (y 2) (y 20) (y 21) (y 22) (y 23) (y 24))), (y 20, aI V 2000 f_118), (y 21, aI V 6 f_119), (y 22, aI V 64 f_120), (y 30, aT V 4 (va_up (va_up (va_up (va_up (fun _ => none) 0 (some (y 33))) 1 (some (y 35))) 2 (some (y 37))) 3 (some (y 39)))), (y 33, .inr (7, o7_rii (y 34) py33_1 py33_2)), (y 34, aJ V 40 fy34), (y 35, .inr (7, o7_rii (y 36) py35_1 py35_2)), (y 36, aJ V 40 fy36), (y 37, .inr (7, o7_rii (y 38) py37_1 py37_2)), (y 38, aJ V 40 f_121), (y 39, .inr (7, o7_rii (y 40) py39_1 py39_2)), (y 40, aJ V 40 fy40)]) hP [14, 15, 0, 1, 2, 3, 4, 5, 6, 7, 8, 9, 10, 16, 11, 12, 13] rfl
            have hD := subD hP hD [14, 15, 0, 1, 2, 3, 4, 5, 6, 7, 8, 9, 10, 16, 11, 12, 13] rfl rfl
            exact fiI hx hb hr hlk hK hP hD hS dX9_lists_93 (Nat.le_of_ble_eq_true rfl) (Nat.le_of_ble_eq_true rfl) (⟨f_118, f_119, f_120, fy34, fy36, f_121, fy40, tf_118, (iv_w b_113 (by decide)), (congrArg Prod.fst ((tx hAn_122 hR).symm.trans hT0)), (congrArg Prod.fst (congrArg Prod.snd ((tx hAn_122 hR).symm.trans hT0))), (congrArg Prod.fst (congrArg Prod.snd (congrArg Prod.snd ((tx hAn_122 hR).symm.trans hT0)))), (congrArg Prod.fst (congrArg Prod.snd (congrArg Prod.snd (congrArg Prod.snd ((tx hAn_122 hR).symm.trans hT0))))), (congrArg Prod.snd (congrArg Prod.snd (congrArg Prod.snd (congrArg Prod.snd ((tx hAn_122 hR).symm.trans hT0))))), knn_122, rfl⟩)
          · replace hR := te hR c_123
            have b_124 : iv 0 39 u_116 := iv_l1 (Int32.not_le.mp c_123) bu_116 b_113 (by decide)
            have b_125 : iv 1 40 py37_1 := iv_l2 (Int32.not_le.mp c_123) bu_116 b_113 (by decide)
            refine lv_aload_n hx hb dX9_lists_53 rfl (lv_at hl 3 rfl) ?_
            refine va_get (ci := 9) (v := .ref (y 19)) (C := RX9) (T := TX9) (N := 15) hx hb hg inX9 hown hK hP 14 rfl rfl 4 (by decide) (hg _ q_2_40) (fun _ h9 => h9) rfl dX9_lists_54 ?_
            refine lv_iload hx hb dX9_lists_57 (lv_at hl 1 rfl) ?_
            refine lv_aload_n hx hb dX9_lists_59 rfl (lv_at hl 3 rfl) ?_
            refine va_get (ci := 9) (v := .int py0_13) (C := RX9) (T := TX9) (N := 15) hx hb hg inX9 hown hK hP 14 rfl rfl 13 (by decide) (hg _ q_2_49) (fun _ h9 => h9) rfl dX9_lists_60 ?_
            refine lv_iconst (v := 0) hx hb dX9_lists_63 (by decide) ?_
            refine jnI (wr := [(y 30, aT V 4 (va_up (va_up (va_up (va_up (fun _ => none) 0 (some (y 33))) 1 (some (y 35))) 2 (some (y 37))) 3 (some (y 39)))), (y 33, .inr (7, o7_rii (y 34) py33_1 py33_2)), (y 34, aJ V 40 fy34), (y 35, .inr (7, o7_rii (y 36) py35_1 py35_2)), (y 36, aJ V 40 fy36), (y 38, aJ V 40 f_121), (y 39, .inr (7, o7_rii (y 40) py39_1 py39_2)), (y 40, aJ V 40 fy40), (y 0, .inr (9, o9_rirrrrrrrrvviii (y 1) py0_1 (y 2) (y 10) (y 19) (y 25) (y 26) (y 30) (y 31) (y 32) o10 o11 py0_12 py0_13 py0_14)), (y 37, .inr (7, o7_rii (y 38) py37_1 py37_2))]) (rnV (rest := []) ⟨hx, hb, hml, hown, hg⟩ (k_X4_behind_0 l V y u_117 py0_13 0 fy3 fy9 f_118 f_119 f_120 py2_0 py2_1 py2_2 py2_3 py2_4 py2_5 py2_13 py2_14 py2_15 py2_16 py2_17 bu_117 bpy0_13 tf_118 (iv_w b_38 (by decide)) bpy2_2 bpy2_3 bpy2_4 bpy2_5 bpy2_13 bpy2_14 bpy2_15 bpy2_16 bpy2_17) mt_X4_behind q_3_145 ⟨Nat.le_of_ble_eq_true rfl, Nat.le_of_ble_eq_true rfl⟩ hK hP hD hS hA hE [0, 1, 2, 3, 4, 5, 15] rfl rfl 2 rfl rfl rfl rfl hl.1 rfl (Nat.le_of_ble_eq_true rfl) dX9_lists_64 ⟨Nat.le_of_ble_eq_true rfl, Nat.le_of_ble_eq_true rfl⟩) hP hD hS hA [0, 1, 2, 3, 4, 5, 15] [6, 7, 8, 9, 10, 11, 12, 13, 14, 16] rfl rfl rfl (by decide) (fun r_126 w H locs hw hP hD hS => ?_)
            obtain ⟨f_127, f_128, f_129, tf_127, br_126, g_130, rfl⟩ := hw
            have qkn_131 := g_130 D9 hL9 knn_122
            have er_126 : r_126 = bhS D9 u_117 py0_13 (0 : Int32) (py2_1 : Int32).toNatClampNeg := qkn_131.1
            have kn_131 := qkn_131.2
            replace hR := tb hR er_126
            have hP : va_P V.1 vwCl [(y 30, aT V 4 (va_up (va_up (va_up (va_up (fun _ => none) 0 (some (y 33))) 1 (some (y 35))) 2 (some (y 37))) 3 (some (y 39)))), (y 33, .inr (7, o7_rii (y 34) py33_1 py33_2)), (y 34, aJ V 40 fy34), (y 35, .inr (7, o7_rii (y 36) py35_1 py35_2)), (y 36, aJ V 40 fy36), (y 38, aJ V 40 f_121), (y 39, .inr (7, o7_rii (y 40) py39_1 py39_2)), (y 40, aJ V 40 fy40), (y 0, .inr (9, o9_rirrrrrrrrvviii (y 1) py0_1 (y 2) (y 10) (y 19) (y 25) (y 26) (y 30) (y 31) (y 32) o10 o11 py0_12 py0_13 py0_14)), (y 37, .inr (7, o7_rii (y 38) py37_1 py37_2)), (y 3, aI V 4 fy3), (y 9, aI V 900 fy9), (y 19, .inr (4, o4_rrrrrr (y 2) (y 20) (y 21) (y 22) (y 23) (y 24))), (y 20, aI V 2000 f_127), (y 21, aI V 6 f_128), (y 22, aI V 64 f_129), (y 2, .inr (1, o1_iiiiiirrrrrrriiiii py2_0 py2_1 py2_2 py2_3 py2_4 py2_5 (y 3) (y 4) (y 5) (y 6) (y 7) (y 8) (y 9) py2_13 py2_14 py2_15 py2_16 py2_17))] H := hP
            have hD := cpD hP hD
            refine lv_istore (lv' := [(4, .int r_126), (5, .int u_116), (3, .ref (y 37)), (0, .ref (y 0)), (1, .int 2), (2, .int a2)]) hx hb dX9_lists_67 hl (by decide) rfl (fun ls hl => ?_)
            refine lv_aload_n hx hb dX9_lists_69 rfl (lv_at hl 2 rfl) ?_
            refine va_get (ci := 7) (v := .ref (y 38)) (C := RX7) (T := TX7) (N := 3) hx hb hg inX7 hown hK hP 9 rfl rfl 0 (by decide) (hg _ q_1_239) (fun _ h9 => h9) rfl dX9_lists_70 ?_
            refine lv_iload hx hb dX9_lists_73 (lv_at hl 1 rfl) ?_
            refine lv_iload hx hb dX9_lists_75 (lv_at hl 0 rfl) ?_
            refine lv_iload_n hx hb dX9_lists_77 rfl (lv_at hl 5 rfl) ?_
            refine jnI (wr := [(y 30, aT V 4 (va_up (va_up (va_up (va_up (fun _ => none) 0 (some (y 33))) 1 (some (y 35))) 2 (some (y 37))) 3 (some (y 39)))), (y 33, .inr (7, o7_rii (y 34) py33_1 py33_2)), (y 34, aJ V 40 fy34), (y 35, .inr (7, o7_rii (y 36) py35_1 py35_2)), (y 36, aJ V 40 fy36), (y 38, aJ V 40 f_121), (y 39, .inr (7, o7_rii (y 40) py39_1 py39_2)), (y 40, aJ V 40 fy40), (y 0, .inr (9, o9_rirrrrrrrrvviii (y 1) py0_1 (y 2) (y 10) (y 19) (y 25) (y 26) (y 30) (y 31) (y 32) o10 o11 py0_12 py0_13 py0_14)), (y 37, .inr (7, o7_rii (y 38) py37_1 py37_2)), (y 3, aI V 4 fy3), (y 9, aI V 900 fy9), (y 19, .inr (4, o4_rrrrrr (y 2) (y 20) (y 21) (y 22) (y 23) (y 24))), (y 20, aI V 2000 f_127), (y 21, aI V 6 f_128), (y 22, aI V 64 f_129), (y 2, .inr (1, o1_iiiiiirrrrrrriiiii py2_0 py2_1 py2_2 py2_3 py2_4 py2_5 (y 3) (y 4) (y 5) (y 6) (y 7) (y 8) (y 9) py2_13 py2_14 py2_15 py2_16 py2_17))]) (rnS (rest := [.int u_116, .ref (y 38)]) ⟨hx, hb, hml, hown, hg⟩ (k_X9_stackIn_0 l V r_126 a2 br_126 (iv_w b_37 (by decide))) mt_X9_stackIn q_3_126 ⟨Nat.le_of_ble_eq_true rfl, Nat.le_of_ble_eq_true rfl⟩ hK hP hD hS hA hE [] rfl rfl rfl hl.1 rfl (Nat.le_of_ble_eq_true rfl) dX9_lists_78 ⟨Nat.le_of_ble_eq_true rfl, Nat.le_of_ble_eq_true rfl⟩) hP hD hS hA [] [0, 1, 2, 3, 4, 5, 6, 7, 8, 9, 10, 11, 12, 13, 14, 15, 16] rfl rfl rfl (by decide) (fun r_132 w H locs hw hP hD hS => ?_)
            obtain ⟨br_132, er_132, et_133, rfl⟩ := hw
            replace hR := tb hR et_133
            have hP : va_P V.1 vwCl [(y 30, aT V 4 (va_up (va_up (va_up (va_up (fun _ => none) 0 (some (y 33))) 1 (some (y 35))) 2 (some (y 37))) 3 (some (y 39)))), (y 33, .inr (7, o7_rii (y 34) py33_1 py33_2)), (y 34, aJ V 40 fy34), (y 35, .inr (7, o7_rii (y 36) py35_1 py35_2)), (y 36, aJ V 40 fy36), (y 38, aJ V 40 f_121), (y 39, .inr (7, o7_rii (y 40) py39_1 py39_2)), (y 40, aJ V 40 fy40), (y 0, .inr (9, o9_rirrrrrrrrvviii (y 1) py0_1 (y 2) (y 10) (y 19) (y 25) (y 26) (y 30) (y 31) (y 32) o10 o11 py0_12 py0_13 py0_14)), (y 37, .inr (7, o7_rii (y 38) py37_1 py37_2)), (y 3, aI V 4 fy3), (y 9, aI V 900 fy9), (y 19, .inr (4, o4_rrrrrr (y 2) (y 20) (y 21) (y 22) (y 23) (y 24))), (y 20, aI V 2000 f_127), (y 21, aI V 6 f_128), (y 22, aI V 64 f_129), (y 2, .inr (1, o1_iiiiiirrrrrrriiiii py2_0 py2_1 py2_2 py2_3 py2_4 py2_5 (y 3) (y 4) (y 5) (y 6) (y 7) (y 8) (y 9) py2_13 py2_14 py2_15 py2_16 py2_17))] H := hP
            have hD := cpD hP hD
            refine lv_i2l hx hb dX9_lists_81 rfl ?_
            refine lv_topl (fun j_135 ej_135 => ?_)
            replace hR := tb hR ej_135
            refine va_last hx hb hK hP hD hS 5 2 rfl rfl (iv_in b_124 (by decide)) dX9_lists_82 (fun H locs hP hD hS => ?_)
            obtain ⟨f_136, ef_136, hP, hD⟩ : ∃ f_136 : Nat → Int64, f_136 = (vp_updL f_121 (u_116 : Int32).toNatClampNeg j_135) ∧ va_P V.1 vwCl [(y 30, aT V 4 (va_up (va_up (va_up (va_up (fun _ => none) 0 (some (y 33))) 1 (some (y 35))) 2 (some (y 37))) 3 (some (y 39)))), (y 33, .inr (7, o7_rii (y 34) py33_1 py33_2)), (y 34, aJ V 40 fy34), (y 35, .inr (7, o7_rii (y 36) py35_1 py35_2)), (y 36, aJ V 40 fy36), (y 38, aJ V 40 f_136), (y 39, .inr (7, o7_rii (y 40) py39_1 py39_2)), (y 40, aJ V 40 fy40), (y 0, .inr (9, o9_rirrrrrrrrvviii (y 1) py0_1 (y 2) (y 10) (y 19) (y 25) (y 26) (y 30) (y 31) (y 32) o10 o11 py0_12 py0_13 py0_14)), (y 37, .inr (7, o7_rii (y 38) py37_1 py37_2)), (y 3, aI V 4 fy3), (y 9, aI V 900 fy9), (y 19, .inr (4, o4_rrrrrr (y 2) (y 20) (y 21) (y 22) (y 23) (y 24))), (y 20, aI V 2000 f_127), (y 21, aI V 6 f_128), (y 22, aI V 64 f_129), (y 2, .inr (1, o1_iiiiiirrrrrrriiiii py2_0 py2_1 py2_2 py2_3 py2_4 py2_5 (y 3) (y 4) (y 5) (y 6) (y 7) (y 8) (y 9) py2_13 py2_14 py2_15 py2_16 py2_17))] H ∧ va_D A [(y 30, aT V 4 (va_up (va_up (va_up (va_up (fun _ => none) 0 (some (y 33))) 1 (some (y 35))) 2 (some (y 37))) 3 (some (y 39)))), (y 33, .inr (7, o7_rii (y 34) py33_1 py33_2)), (y 34, aJ V 40 fy34), (y 35, .inr (7, o7_rii (y 36) py35_1 py35_2)), (y 36, aJ V 40 fy36), (y 38, aJ V 40 f_136), (y 39, .inr (7, o7_rii (y 40) py39_1 py39_2)), (y 40, aJ V 40 fy40), (y 0, .inr (9, o9_rirrrrrrrrvviii (y 1) py0_1 (y 2) (y 10) (y 19) (y 25) (y 26) (y 30) (y 31) (y 32) o10 o11 py0_12 py0_13 py0_14)), (y 37, .inr (7, o7_rii (y 38) py37_1 py37_2)), (y 3, aI V 4 fy3), (y 9, aI V 900 fy9), (y 19, .inr (4, o4_rrrrrr (y 2) (y 20) (y 21) (y 22) (y 23) (y 24))), (y 20, aI V 2000 f_127), (y 21, aI V 6 f_128), (y 22, aI V 64 f_129), (y 2, .inr (1, o1_iiiiiirrrrrrriiiii py2_0 py2_1 py2_2 py2_3 py2_4 py2_5 (y 3) (y 4) (y 5) (y 6) (y 7) (y 8) (y 9) py2_13 py2_14 py2_15 py2_16 py2_17))] := ⟨_, rfl, hP, hD⟩
            replace hR := tb hR ef_136
            obtain ⟨x_137, ex_137⟩ : ∃ z9 : Int32, z9 = u_116 + 1 := ⟨_, rfl⟩
            have bx_137 : iv 1 40 x_137 := by rw [ex_137]; exact iv_add b_124 (iv_c (1 : Int32) (a := 1) (b := 1) (by decide)) (by decide)
            replace hR := tb hR ex_137
            refine lv_iinc (v := x_137) (lv' := [(5, .int x_137), (4, .int r_126), (3, .ref (y 37)), (0, .ref (y 0)), (1, .int 2), (2, .int a2)]) hx hb dX9_lists_83 hl (k := 1) rfl (by rw [ex_137]; rfl) (by decide) rfl (fun ls hl => ?_)
            refine lv_goto (tgt := 44) hx hb dX9_lists_86 (by decide) ?_
            have hP := subP (ws' := [(y 3, aI V 4 fy3), (y 9, aI V 900 fy9), (y 19, .inr (4, o4_rrrrrr (y 2) (y 20) (y 21) (y 22) (y 23) (y 24))), (y 20, aI V 2000 f_127), (y 21, aI V 6 f_128), (y 22, aI V 64 f_129), (y 30, aT V 4 (va_up (va_up (va_up (va_up (fun _ => none) 0 (some (y 33))) 1 (some (y 35))) 2 (some (y 37))) 3 (some (y 39)))), (y 33, .inr (7, o7_rii (y 34) py33_1 py33_2)), (y 34, aJ V 40 fy34), (y 35, .inr (7, o7_rii (y 36) py35_1 py35_2)), (y 36, aJ V 40 fy36), (y 38, aJ V 40 f_136), (y 39, .inr (7, o7_rii (y 40) py39_1 py39_2)), (y 40, aJ V 40 fy40), (y 0, .inr (9, o9_rirrrrrrrrvviii (y 1) py0_1 (y 2) (y 10) (y 19) (y 25) (y 26) (y 30) (y 31) (y 32) o10 o11 py0_12 py0_13 py0_14)), (y 2, .inr (1, o1_iiiiiirrrrrrriiiii py2_0 py2_1 py2_2 py2_3 py2_4 py2_5 (y 3) (y 4) (y 5) (y 6) (y 7) (y 8) (y 9) py2_13 py2_14 py2_15 py2_16 py2_17)), (y 37, .inr (7, o7_rii (y 38) py37_1 py37_2))]) hP [10, 11, 12, 13, 14, 15, 0, 1, 2, 3, 4, 5, 6, 7, 8, 16, 9] rfl
            have hD := subD hP hD [10, 11, 12, 13, 14, 15, 0, 1, 2, 3, 4, 5, 6, 7, 8, 16, 9] rfl rfl
            exact ihn_122 _ _ _ _ (by rw [en_122, ex_137]; exact mu_up b_124 (by decide)) ⟨x_137, r_126, f_127, f_128, f_129, f_136, (iv_w bx_137 (by decide)), br_126, tf_127, kn_131, (tbk hAn_122 hR), rfl, hP, hD, hS, lv_sub hl [0, 1, 2, 3, 4, 5] rfl⟩
        · have hP : va_P V.1 vwCl [(y 3, aI V 4 fy3), (y 9, aI V 900 fy9), (y 19, .inr (4, o4_rrrrrr (y 2) (y 20) (y 21) (y 22) (y 23) (y 24))), (y 20, aI V 2000 fy20), (y 21, aI V 6 fy21), (y 22, aI V 64 fy22), (y 30, aT V 4 (va_up (va_up (va_up (va_up (fun _ => none) 0 (some (y 33))) 1 (some (y 35))) 2 (some (y 37))) 3 (some (y 39)))), (y 33, .inr (7, o7_rii (y 34) py33_1 py33_2)), (y 34, aJ V 40 fy34), (y 35, .inr (7, o7_rii (y 36) py35_1 py35_2)), (y 36, aJ V 40 fy36), (y 38, aJ V 40 fy38), (y 39, .inr (7, o7_rii (y 40) py39_1 py39_2)), (y 40, aJ V 40 fy40), (y 0, .inr (9, o9_rirrrrrrrrvviii (y 1) py0_1 (y 2) (y 10) (y 19) (y 25) (y 26) (y 30) (y 31) (y 32) o10 o11 py0_12 py0_13 py0_14)), (y 2, .inr (1, o1_iiiiiirrrrrrriiiii py2_0 py2_1 py2_2 py2_3 py2_4 py2_5 (y 3) (y 4) (y 5) (y 6) (y 7) (y 8) (y 9) py2_13 py2_14 py2_15 py2_16 py2_17)), (y 37, .inr (7, o7_rii (y 38) py37_1 py37_2))] H := hP
          have hD := cpD hP hD
          replace hR := te hR (by rw [← et_112]; decide)
          have b_138 : iv (-1) (-1) py37_1 := iv_l1 (Int32.not_le.mp c_111) bpy37_1 (iv_c (0 : Int32) (a := 0) (b := 0) (by decide)) (by decide)
          refine lv_if_eq (tgt := 35) hx hb dX9_lists_29 (by decide) (fun c_140 => absurd c_140 (by decide)) (fun _ => ?_)
          refine lv_bipush (v := (-6)) hx hb dX9_lists_32 (by decide) ?_
          have hP := subP (ws' := [(y 0, .inr (9, o9_rirrrrrrrrvviii (y 1) py0_1 (y 2) (y 10) (y 19) (y 25) (y 26) (y 30) (y 31) (y 32) o10 o11 py0_12 py0_13 py0_14)), (y 2, .inr (1, o1_iiiiiirrrrrrriiiii py2_0 py2_1 py2_2 py2_3 py2_4 py2_5 (y 3) (y 4) (y 5) (y 6) (y 7) (y 8) (y 9) py2_13 py2_14 py2_15 py2_16 py2_17)), (y 3, aI V 4 fy3), (y 9, aI V 900 fy9), (y 19, .inr (4, o4_rrrrrr (y 2) (y 20) (y 21) (y 22) (y 23) (y 24))), (y 20, aI V 2000 fy20), (y 21, aI V 6 fy21), (y 22, aI V 64 fy22), (y 30, aT V 4 (va_up (va_up (va_up (va_up (fun _ => none) 0 (some (y 33))) 1 (some (y 35))) 2 (some (y 37))) 3 (some (y 39)))), (y 33, .inr (7, o7_rii (y 34) py33_1 py33_2)), (y 34, aJ V 40 fy34), (y 35, .inr (7, o7_rii (y 36) py35_1 py35_2)), (y 36, aJ V 40 fy36), (y 37, .inr (7, o7_rii (y 38) py37_1 py37_2)), (y 38, aJ V 40 fy38), (y 39, .inr (7, o7_rii (y 40) py39_1 py39_2)), (y 40, aJ V 40 fy40)]) hP [14, 15, 0, 1, 2, 3, 4, 5, 6, 7, 8, 9, 10, 16, 11, 12, 13] rfl
          have hD := subD hP hD [14, 15, 0, 1, 2, 3, 4, 5, 6, 7, 8, 9, 10, 16, 11, 12, 13] rfl rfl
          exact fiI hx hb hr hlk hK hP hD hS dX9_lists_34 (Nat.le_of_ble_eq_true rfl) (Nat.le_of_ble_eq_true rfl) (⟨fy20, fy21, fy22, fy34, fy36, fy38, fy40, tfy20, (iv_c ((-6) : Int32) (by decide)), (congrArg Prod.fst (hR.symm.trans hT0)), (congrArg Prod.fst (congrArg Prod.snd (hR.symm.trans hT0))), (congrArg Prod.fst (congrArg Prod.snd (congrArg Prod.snd (hR.symm.trans hT0)))), (congrArg Prod.fst (congrArg Prod.snd (congrArg Prod.snd (congrArg Prod.snd (hR.symm.trans hT0))))), (congrArg Prod.snd (congrArg Prod.snd (congrArg Prod.snd (congrArg Prod.snd (hR.symm.trans hT0))))), hK9, rfl⟩)
      · replace hR := te hR (by decide)
        replace hR := te hR (by decide)
        replace hR := te hR (by decide)
        refine va_aldq hx hb hK hP 6 4 rfl rfl (vin (by decide +kernel)) dX9_lists_23 ?_
        refine W.eq (g2 := F0 m 24 ls (.ref (y 39) :: [])) rfl ?_
        refine lv_astore_n (lv' := [(3, .ref (y 39)), (0, .ref (y 0)), (1, .int 3), (2, .int a2)]) hx hb dX9_lists_24 rfl hl (by decide) rfl (fun ls hl => ?_)
        refine lv_aload_n hx hb dX9_lists_25 rfl (lv_at hl 0 rfl) ?_
        refine jnI (wr := [(y 3, aI V 4 fy3), (y 9, aI V 900 fy9), (y 19, .inr (4, o4_rrrrrr (y 2) (y 20) (y 21) (y 22) (y 23) (y 24))), (y 20, aI V 2000 fy20), (y 21, aI V 6 fy21), (y 22, aI V 64 fy22), (y 30, aT V 4 (va_up (va_up (va_up (va_up (fun _ => none) 0 (some (y 33))) 1 (some (y 35))) 2 (some (y 37))) 3 (some (y 39)))), (y 33, .inr (7, o7_rii (y 34) py33_1 py33_2)), (y 34, aJ V 40 fy34), (y 35, .inr (7, o7_rii (y 36) py35_1 py35_2)), (y 36, aJ V 40 fy36), (y 37, .inr (7, o7_rii (y 38) py37_1 py37_2)), (y 38, aJ V 40 fy38), (y 40, aJ V 40 fy40), (y 0, .inr (9, o9_rirrrrrrrrvviii (y 1) py0_1 (y 2) (y 10) (y 19) (y 25) (y 26) (y 30) (y 31) (y 32) o10 o11 py0_12 py0_13 py0_14)), (y 2, .inr (1, o1_iiiiiirrrrrrriiiii py2_0 py2_1 py2_2 py2_3 py2_4 py2_5 (y 3) (y 4) (y 5) (y 6) (y 7) (y 8) (y 9) py2_13 py2_14 py2_15 py2_16 py2_17))]) (rnV (rest := []) ⟨hx, hb, hml, hown, hg⟩ (k_X7_isMissing_3 l V y py39_1 py39_2 bpy39_1) mt_X7_isMissing q_3_231 ⟨Nat.le_of_ble_eq_true rfl, Nat.le_of_ble_eq_true rfl⟩ hK hP hD hS hA hE [13] rfl rfl 13 rfl rfl rfl rfl hl.1 rfl (Nat.le_of_ble_eq_true rfl) dX9_lists_26 ⟨Nat.le_of_ble_eq_true rfl, Nat.le_of_ble_eq_true rfl⟩) hP hD hS hA [13] [0, 1, 2, 3, 4, 5, 6, 7, 8, 9, 10, 11, 12, 14, 15, 16] rfl rfl rfl (by decide) (fun r_141 w H locs hw hP hD hS => ?_)
        rcases hw with ⟨c_142, rfl, et_143, rfl⟩ | ⟨c_144, rfl, et_145, rfl⟩
        · have hP : va_P V.1 vwCl [(y 3, aI V 4 fy3), (y 9, aI V 900 fy9), (y 19, .inr (4, o4_rrrrrr (y 2) (y 20) (y 21) (y 22) (y 23) (y 24))), (y 20, aI V 2000 fy20), (y 21, aI V 6 fy21), (y 22, aI V 64 fy22), (y 30, aT V 4 (va_up (va_up (va_up (va_up (fun _ => none) 0 (some (y 33))) 1 (some (y 35))) 2 (some (y 37))) 3 (some (y 39)))), (y 33, .inr (7, o7_rii (y 34) py33_1 py33_2)), (y 34, aJ V 40 fy34), (y 35, .inr (7, o7_rii (y 36) py35_1 py35_2)), (y 36, aJ V 40 fy36), (y 37, .inr (7, o7_rii (y 38) py37_1 py37_2)), (y 38, aJ V 40 fy38), (y 40, aJ V 40 fy40), (y 0, .inr (9, o9_rirrrrrrrrvviii (y 1) py0_1 (y 2) (y 10) (y 19) (y 25) (y 26) (y 30) (y 31) (y 32) o10 o11 py0_12 py0_13 py0_14)), (y 2, .inr (1, o1_iiiiiirrrrrrriiiii py2_0 py2_1 py2_2 py2_3 py2_4 py2_5 (y 3) (y 4) (y 5) (y 6) (y 7) (y 8) (y 9) py2_13 py2_14 py2_15 py2_16 py2_17)), (y 39, .inr (7, o7_rii (y 40) py39_1 py39_2))] H := hP
          have hD := cpD hP hD
          replace hR := ti hR et_143.symm
          have b_146 : iv 0 40 py39_1 := iv_e2 c_142 (iv_c (0 : Int32) (a := 0) (b := 0) (by decide)) bpy39_1 (by decide)
          refine lv_if_eq (tgt := 35) hx hb dX9_lists_29 (by decide) (fun _ => ?_) (fun c_148 => absurd c_148 (by decide))
          refine lv_aload_n hx hb dX9_lists_35 rfl (lv_at hl 1 rfl) ?_
          refine va_get (ci := 9) (v := .int py0_12) (C := RX9) (T := TX9) (N := 15) hx hb hg inX9 hown hK hP 14 rfl rfl 12 (by decide) (hg _ q_2_48) (fun _ h9 => h9) rfl dX9_lists_36 ?_
          refine lv_istore (lv' := [(4, .int py0_12), (3, .ref (y 39)), (0, .ref (y 0)), (1, .int 3), (2, .int a2)]) hx hb dX9_lists_39 hl (by decide) rfl (fun ls hl => ?_)
          refine lv_iconst (v := 0) hx hb dX9_lists_41 (by decide) ?_
          refine lv_istore (lv' := [(5, .int 0), (4, .int py0_12), (3, .ref (y 39)), (0, .ref (y 0)), (1, .int 3), (2, .int a2)]) hx hb dX9_lists_42 hl (by decide) rfl (fun ls hl => ?_)
          refine loopF (X := fun (n_155 : Nat) (H : Heap) (locs : List Loc) (ls : Array Slot) => ∃ (u_149 : Int32) (u_150 : Int32) (f_151 : Nat → Int32) (f_152 : Nat → Int32) (f_153 : Nat → Int32) (f_154 : Nat → Int64), (iv 0 2147483647 u_149) ∧ (iv 0 9999 u_150) ∧ (∀ j, iv 0 10 (f_151 j)) ∧ KN D9 f_151 ∧ T0 = W9 (L_k_X9_lists_0_4 D9 a2 fy34 fy36 fy38 py0_13 py2_1 py39_1) (u_149, u_150, f_154) ∧ n_155 = (2147483647 - (u_149 : Int32).toInt).toNat ∧ va_P V.1 vwCl [(y 3, aI V 4 fy3), (y 9, aI V 900 fy9), (y 19, .inr (4, o4_rrrrrr (y 2) (y 20) (y 21) (y 22) (y 23) (y 24))), (y 20, aI V 2000 f_151), (y 21, aI V 6 f_152), (y 22, aI V 64 f_153), (y 30, aT V 4 (va_up (va_up (va_up (va_up (fun _ => none) 0 (some (y 33))) 1 (some (y 35))) 2 (some (y 37))) 3 (some (y 39)))), (y 33, .inr (7, o7_rii (y 34) py33_1 py33_2)), (y 34, aJ V 40 fy34), (y 35, .inr (7, o7_rii (y 36) py35_1 py35_2)), (y 36, aJ V 40 fy36), (y 37, .inr (7, o7_rii (y 38) py37_1 py37_2)), (y 38, aJ V 40 fy38), (y 40, aJ V 40 f_154), (y 0, .inr (9, o9_rirrrrrrrrvviii (y 1) py0_1 (y 2) (y 10) (y 19) (y 25) (y 26) (y 30) (y 31) (y 32) o10 o11 py0_12 py0_13 py0_14)), (y 2, .inr (1, o1_iiiiiirrrrrrriiiii py2_0 py2_1 py2_2 py2_3 py2_4 py2_5 (y 3) (y 4) (y 5) (y 6) (y 7) (y 8) (y 9) py2_13 py2_14 py2_15 py2_16 py2_17)), (y 39, .inr (7, o7_rii (y 40) py39_1 py39_2))] H ∧ va_D A [(y 3, aI V 4 fy3), (y 9, aI V 900 fy9), (y 19, .inr (4, o4_rrrrrr (y 2) (y 20) (y 21) (y 22) (y 23) (y 24))), (y 20, aI V 2000 f_151), (y 21, aI V 6 f_152), (y 22, aI V 64 f_153), (y 30, aT V 4 (va_up (va_up (va_up (va_up (fun _ => none) 0 (some (y 33))) 1 (some (y 35))) 2 (some (y 37))) 3 (some (y 39)))), (y 33, .inr (7, o7_rii (y 34) py33_1 py33_2)), (y 34, aJ V 40 fy34), (y 35, .inr (7, o7_rii (y 36) py35_1 py35_2)), (y 36, aJ V 40 fy36), (y 37, .inr (7, o7_rii (y 38) py37_1 py37_2)), (y 38, aJ V 40 fy38), (y 40, aJ V 40 f_154), (y 0, .inr (9, o9_rirrrrrrrrvviii (y 1) py0_1 (y 2) (y 10) (y 19) (y 25) (y 26) (y 30) (y 31) (y 32) o10 o11 py0_12 py0_13 py0_14)), (y 2, .inr (1, o1_iiiiiirrrrrrriiiii py2_0 py2_1 py2_2 py2_3 py2_4 py2_5 (y 3) (y 4) (y 5) (y 6) (y 7) (y 8) (y 9) py2_13 py2_14 py2_15 py2_16 py2_17)), (y 39, .inr (7, o7_rii (y 40) py39_1 py39_2))] ∧ va_S A s.heap H locs ∧ lv_has ls 6 [(5, .int u_149), (4, .int u_150), (3, .ref (y 39)), (0, .ref (y 0)), (1, .int 3), (2, .int a2)]) (g := fun ls => F0 m 44 ls []) (fun n_155 H locs ls hX ihn_155 => ?_) _ ⟨0, py0_12, fy20, fy21, fy22, fy40, (iv_c (0 : Int32) (by decide)), bpy0_12, tfy20, hK9, hR, rfl, hP, hD, hS, lv_sub hl [0, 1, 2, 3, 4, 5] rfl⟩
          obtain ⟨u_149, u_150, f_151, f_152, f_153, f_154, bu_149, bu_150, tf_151, knn_155, hR, en_155, hP, hD, hS, hl⟩ := hX
          obtain ⟨Tn_155, hR, hAn_155⟩ := tw hR
          replace hR : Tn_155 = B_k_X9_lists_0_4 D9 a2 fy34 fy36 fy38 py0_13 py2_1 py39_1 u_149 u_150 f_154 := hR
          replace hR := hR.trans (B_k_X9_lists_0_4.eq_1 ..)
          refine lv_iload hx hb dX9_lists_44 (lv_at hl 0 rfl) ?_
          refine lv_aload_n hx hb dX9_lists_46 rfl (lv_at hl 2 rfl) ?_
          refine va_get (ci := 7) (v := .int py39_1) (C := RX7) (T := TX7) (N := 3) hx hb hg inX7 hown hK hP 16 rfl rfl 1 (by decide) (hg _ q_2_2) (fun _ h9 => h9) rfl dX9_lists_47 ?_
          refine lv_icmp_ge (tgt := 89) hx hb dX9_lists_50 (by decide) (fun c_156 => ?_) (fun c_156 => ?_)
          · replace hR := ti hR c_156
            refine lv_aload_n hx hb dX9_lists_89 rfl (lv_at hl 2 rfl) ?_
            refine va_get (ci := 7) (v := .int py39_1) (C := RX7) (T := TX7) (N := 3) hx hb hg inX7 hown hK hP 16 rfl rfl 1 (by decide) (hg _ q_2_2) (fun _ h9 => h9) rfl dX9_lists_90 ?_
            have hP := subP (ws' := [(y 0, .inr (9, o9_rirrrrrrrrvviii (y 1) py0_1 (y 2) (y 10) (y 19) (y 25) (y 26) (y 30) (y 31) (y 32) o10 o11 py0_12 py0_13 py0_14)), (y 2, .inr (1, o1_iiiiiirrrrrrriiiii py2_0 py2_1 py2_2 py2_3 py2_4 py2_5 (y 3) (y 4) (y 5) (y 6) (y 7) (y 8) (y 9) py2_13 py2_14 py2_15 py2_16 py2_17)), (y 3, aI V 4 fy3), (y 9, aI V 900 fy9), (y 19, .inr (4, o4_rrrrrr (y 2) (y 20) (y 21) (y 22) (y 23) (y 24))), (y 20, aI V 2000 f_151), (y 21, aI V 6 f_152), (y 22, aI V 64 f_153), (y 30, aT V 4 (va_up (va_up (va_up (va_up (fun _ => none) 0 (some (y 33))) 1 (some (y 35))) 2 (some (y 37))) 3 (some (y 39)))), (y 33, .inr (7, o7_rii (y 34) py33_1 py33_2)), (y 34, aJ V 40 fy34), (y 35, .inr (7, o7_rii (y 36) py35_1 py35_2)), (y 36, aJ V 40 fy36), (y 37, .inr (7, o7_rii (y 38) py37_1 py37_2)), (y 38, aJ V 40 fy38), (y 39, .inr (7, o7_rii (y 40) py39_1 py39_2)), (y 40, aJ V 40 f_154)]) hP [14, 15, 0, 1, 2, 3, 4, 5, 6, 7, 8, 9, 10, 11, 12, 16, 13] rfl
            have hD := subD hP hD [14, 15, 0, 1, 2, 3, 4, 5, 6, 7, 8, 9, 10, 11, 12, 16, 13] rfl rfl
            exact fiI hx hb hr hlk hK hP hD hS dX9_lists_93 (Nat.le_of_ble_eq_true rfl) (Nat.le_of_ble_eq_true rfl) (⟨f_151, f_152, f_153, fy34, fy36, fy38, f_154, tf_151, (iv_w b_146 (by decide)), (congrArg Prod.fst ((tx hAn_155 hR).symm.trans hT0)), (congrArg Prod.fst (congrArg Prod.snd ((tx hAn_155 hR).symm.trans hT0))), (congrArg Prod.fst (congrArg Prod.snd (congrArg Prod.snd ((tx hAn_155 hR).symm.trans hT0)))), (congrArg Prod.fst (congrArg Prod.snd (congrArg Prod.snd (congrArg Prod.snd ((tx hAn_155 hR).symm.trans hT0))))), (congrArg Prod.snd (congrArg Prod.snd (congrArg Prod.snd (congrArg Prod.snd ((tx hAn_155 hR).symm.trans hT0))))), knn_155, rfl⟩)
          · replace hR := te hR c_156
            have b_157 : iv 0 39 u_149 := iv_l1 (Int32.not_le.mp c_156) bu_149 b_146 (by decide)
            have b_158 : iv 1 40 py39_1 := iv_l2 (Int32.not_le.mp c_156) bu_149 b_146 (by decide)
            refine lv_aload_n hx hb dX9_lists_53 rfl (lv_at hl 3 rfl) ?_
            refine va_get (ci := 9) (v := .ref (y 19)) (C := RX9) (T := TX9) (N := 15) hx hb hg inX9 hown hK hP 14 rfl rfl 4 (by decide) (hg _ q_2_40) (fun _ h9 => h9) rfl dX9_lists_54 ?_
            refine lv_iload hx hb dX9_lists_57 (lv_at hl 1 rfl) ?_
            refine lv_aload_n hx hb dX9_lists_59 rfl (lv_at hl 3 rfl) ?_
            refine va_get (ci := 9) (v := .int py0_13) (C := RX9) (T := TX9) (N := 15) hx hb hg inX9 hown hK hP 14 rfl rfl 13 (by decide) (hg _ q_2_49) (fun _ h9 => h9) rfl dX9_lists_60 ?_
            refine lv_iconst (v := 0) hx hb dX9_lists_63 (by decide) ?_
            refine jnI (wr := [(y 30, aT V 4 (va_up (va_up (va_up (va_up (fun _ => none) 0 (some (y 33))) 1 (some (y 35))) 2 (some (y 37))) 3 (some (y 39)))), (y 33, .inr (7, o7_rii (y 34) py33_1 py33_2)), (y 34, aJ V 40 fy34), (y 35, .inr (7, o7_rii (y 36) py35_1 py35_2)), (y 36, aJ V 40 fy36), (y 37, .inr (7, o7_rii (y 38) py37_1 py37_2)), (y 38, aJ V 40 fy38), (y 40, aJ V 40 f_154), (y 0, .inr (9, o9_rirrrrrrrrvviii (y 1) py0_1 (y 2) (y 10) (y 19) (y 25) (y 26) (y 30) (y 31) (y 32) o10 o11 py0_12 py0_13 py0_14)), (y 39, .inr (7, o7_rii (y 40) py39_1 py39_2))]) (rnV (rest := []) ⟨hx, hb, hml, hown, hg⟩ (k_X4_behind_0 l V y u_150 py0_13 0 fy3 fy9 f_151 f_152 f_153 py2_0 py2_1 py2_2 py2_3 py2_4 py2_5 py2_13 py2_14 py2_15 py2_16 py2_17 bu_150 bpy0_13 tf_151 (iv_w b_38 (by decide)) bpy2_2 bpy2_3 bpy2_4 bpy2_5 bpy2_13 bpy2_14 bpy2_15 bpy2_16 bpy2_17) mt_X4_behind q_3_145 ⟨Nat.le_of_ble_eq_true rfl, Nat.le_of_ble_eq_true rfl⟩ hK hP hD hS hA hE [0, 1, 2, 3, 4, 5, 15] rfl rfl 2 rfl rfl rfl rfl hl.1 rfl (Nat.le_of_ble_eq_true rfl) dX9_lists_64 ⟨Nat.le_of_ble_eq_true rfl, Nat.le_of_ble_eq_true rfl⟩) hP hD hS hA [0, 1, 2, 3, 4, 5, 15] [6, 7, 8, 9, 10, 11, 12, 13, 14, 16] rfl rfl rfl (by decide) (fun r_159 w H locs hw hP hD hS => ?_)
            obtain ⟨f_160, f_161, f_162, tf_160, br_159, g_163, rfl⟩ := hw
            have qkn_164 := g_163 D9 hL9 knn_155
            have er_159 : r_159 = bhS D9 u_150 py0_13 (0 : Int32) (py2_1 : Int32).toNatClampNeg := qkn_164.1
            have kn_164 := qkn_164.2
            replace hR := tb hR er_159
            have hP : va_P V.1 vwCl [(y 30, aT V 4 (va_up (va_up (va_up (va_up (fun _ => none) 0 (some (y 33))) 1 (some (y 35))) 2 (some (y 37))) 3 (some (y 39)))), (y 33, .inr (7, o7_rii (y 34) py33_1 py33_2)), (y 34, aJ V 40 fy34), (y 35, .inr (7, o7_rii (y 36) py35_1 py35_2)), (y 36, aJ V 40 fy36), (y 37, .inr (7, o7_rii (y 38) py37_1 py37_2)), (y 38, aJ V 40 fy38), (y 40, aJ V 40 f_154), (y 0, .inr (9, o9_rirrrrrrrrvviii (y 1) py0_1 (y 2) (y 10) (y 19) (y 25) (y 26) (y 30) (y 31) (y 32) o10 o11 py0_12 py0_13 py0_14)), (y 39, .inr (7, o7_rii (y 40) py39_1 py39_2)), (y 3, aI V 4 fy3), (y 9, aI V 900 fy9), (y 19, .inr (4, o4_rrrrrr (y 2) (y 20) (y 21) (y 22) (y 23) (y 24))), (y 20, aI V 2000 f_160), (y 21, aI V 6 f_161), (y 22, aI V 64 f_162), (y 2, .inr (1, o1_iiiiiirrrrrrriiiii py2_0 py2_1 py2_2 py2_3 py2_4 py2_5 (y 3) (y 4) (y 5) (y 6) (y 7) (y 8) (y 9) py2_13 py2_14 py2_15 py2_16 py2_17))] H := hP
            have hD := cpD hP hD
            refine lv_istore (lv' := [(4, .int r_159), (5, .int u_149), (3, .ref (y 39)), (0, .ref (y 0)), (1, .int 3), (2, .int a2)]) hx hb dX9_lists_67 hl (by decide) rfl (fun ls hl => ?_)
            refine lv_aload_n hx hb dX9_lists_69 rfl (lv_at hl 2 rfl) ?_
            refine va_get (ci := 7) (v := .ref (y 40)) (C := RX7) (T := TX7) (N := 3) hx hb hg inX7 hown hK hP 9 rfl rfl 0 (by decide) (hg _ q_1_239) (fun _ h9 => h9) rfl dX9_lists_70 ?_
            refine lv_iload hx hb dX9_lists_73 (lv_at hl 1 rfl) ?_
            refine lv_iload hx hb dX9_lists_75 (lv_at hl 0 rfl) ?_
            refine lv_iload_n hx hb dX9_lists_77 rfl (lv_at hl 5 rfl) ?_
            refine jnI (wr := [(y 30, aT V 4 (va_up (va_up (va_up (va_up (fun _ => none) 0 (some (y 33))) 1 (some (y 35))) 2 (some (y 37))) 3 (some (y 39)))), (y 33, .inr (7, o7_rii (y 34) py33_1 py33_2)), (y 34, aJ V 40 fy34), (y 35, .inr (7, o7_rii (y 36) py35_1 py35_2)), (y 36, aJ V 40 fy36), (y 37, .inr (7, o7_rii (y 38) py37_1 py37_2)), (y 38, aJ V 40 fy38), (y 40, aJ V 40 f_154), (y 0, .inr (9, o9_rirrrrrrrrvviii (y 1) py0_1 (y 2) (y 10) (y 19) (y 25) (y 26) (y 30) (y 31) (y 32) o10 o11 py0_12 py0_13 py0_14)), (y 39, .inr (7, o7_rii (y 40) py39_1 py39_2)), (y 3, aI V 4 fy3), (y 9, aI V 900 fy9), (y 19, .inr (4, o4_rrrrrr (y 2) (y 20) (y 21) (y 22) (y 23) (y 24))), (y 20, aI V 2000 f_160), (y 21, aI V 6 f_161), (y 22, aI V 64 f_162), (y 2, .inr (1, o1_iiiiiirrrrrrriiiii py2_0 py2_1 py2_2 py2_3 py2_4 py2_5 (y 3) (y 4) (y 5) (y 6) (y 7) (y 8) (y 9) py2_13 py2_14 py2_15 py2_16 py2_17))]) (rnS (rest := [.int u_149, .ref (y 40)]) ⟨hx, hb, hml, hown, hg⟩ (k_X9_stackIn_0 l V r_159 a2 br_159 (iv_w b_37 (by decide))) mt_X9_stackIn q_3_126 ⟨Nat.le_of_ble_eq_true rfl, Nat.le_of_ble_eq_true rfl⟩ hK hP hD hS hA hE [] rfl rfl rfl hl.1 rfl (Nat.le_of_ble_eq_true rfl) dX9_lists_78 ⟨Nat.le_of_ble_eq_true rfl, Nat.le_of_ble_eq_true rfl⟩) hP hD hS hA [] [0, 1, 2, 3, 4, 5, 6, 7, 8, 9, 10, 11, 12, 13, 14, 15, 16] rfl rfl rfl (by decide) (fun r_165 w H locs hw hP hD hS => ?_)
            obtain ⟨br_165, er_165, et_166, rfl⟩ := hw
            replace hR := tb hR et_166
            have hP : va_P V.1 vwCl [(y 30, aT V 4 (va_up (va_up (va_up (va_up (fun _ => none) 0 (some (y 33))) 1 (some (y 35))) 2 (some (y 37))) 3 (some (y 39)))), (y 33, .inr (7, o7_rii (y 34) py33_1 py33_2)), (y 34, aJ V 40 fy34), (y 35, .inr (7, o7_rii (y 36) py35_1 py35_2)), (y 36, aJ V 40 fy36), (y 37, .inr (7, o7_rii (y 38) py37_1 py37_2)), (y 38, aJ V 40 fy38), (y 40, aJ V 40 f_154), (y 0, .inr (9, o9_rirrrrrrrrvviii (y 1) py0_1 (y 2) (y 10) (y 19) (y 25) (y 26) (y 30) (y 31) (y 32) o10 o11 py0_12 py0_13 py0_14)), (y 39, .inr (7, o7_rii (y 40) py39_1 py39_2)), (y 3, aI V 4 fy3), (y 9, aI V 900 fy9), (y 19, .inr (4, o4_rrrrrr (y 2) (y 20) (y 21) (y 22) (y 23) (y 24))), (y 20, aI V 2000 f_160), (y 21, aI V 6 f_161), (y 22, aI V 64 f_162), (y 2, .inr (1, o1_iiiiiirrrrrrriiiii py2_0 py2_1 py2_2 py2_3 py2_4 py2_5 (y 3) (y 4) (y 5) (y 6) (y 7) (y 8) (y 9) py2_13 py2_14 py2_15 py2_16 py2_17))] H := hP
            have hD := cpD hP hD
            refine lv_i2l hx hb dX9_lists_81 rfl ?_
            refine lv_topl (fun j_168 ej_168 => ?_)
            replace hR := tb hR ej_168
            refine va_last hx hb hK hP hD hS 7 2 rfl rfl (iv_in b_157 (by decide)) dX9_lists_82 (fun H locs hP hD hS => ?_)
            obtain ⟨f_169, ef_169, hP, hD⟩ : ∃ f_169 : Nat → Int64, f_169 = (vp_updL f_154 (u_149 : Int32).toNatClampNeg j_168) ∧ va_P V.1 vwCl [(y 30, aT V 4 (va_up (va_up (va_up (va_up (fun _ => none) 0 (some (y 33))) 1 (some (y 35))) 2 (some (y 37))) 3 (some (y 39)))), (y 33, .inr (7, o7_rii (y 34) py33_1 py33_2)), (y 34, aJ V 40 fy34), (y 35, .inr (7, o7_rii (y 36) py35_1 py35_2)), (y 36, aJ V 40 fy36), (y 37, .inr (7, o7_rii (y 38) py37_1 py37_2)), (y 38, aJ V 40 fy38), (y 40, aJ V 40 f_169), (y 0, .inr (9, o9_rirrrrrrrrvviii (y 1) py0_1 (y 2) (y 10) (y 19) (y 25) (y 26) (y 30) (y 31) (y 32) o10 o11 py0_12 py0_13 py0_14)), (y 39, .inr (7, o7_rii (y 40) py39_1 py39_2)), (y 3, aI V 4 fy3), (y 9, aI V 900 fy9), (y 19, .inr (4, o4_rrrrrr (y 2) (y 20) (y 21) (y 22) (y 23) (y 24))), (y 20, aI V 2000 f_160), (y 21, aI V 6 f_161), (y 22, aI V 64 f_162), (y 2, .inr (1, o1_iiiiiirrrrrrriiiii py2_0 py2_1 py2_2 py2_3 py2_4 py2_5 (y 3) (y 4) (y 5) (y 6) (y 7) (y 8) (y 9) py2_13 py2_14 py2_15 py2_16 py2_17))] H ∧ va_D A [(y 30, aT V 4 (va_up (va_up (va_up (va_up (fun _ => none) 0 (some (y 33))) 1 (some (y 35))) 2 (some (y 37))) 3 (some (y 39)))), (y 33, .inr (7, o7_rii (y 34) py33_1 py33_2)), (y 34, aJ V 40 fy34), (y 35, .inr (7, o7_rii (y 36) py35_1 py35_2)), (y 36, aJ V 40 fy36), (y 37, .inr (7, o7_rii (y 38) py37_1 py37_2)), (y 38, aJ V 40 fy38), (y 40, aJ V 40 f_169), (y 0, .inr (9, o9_rirrrrrrrrvviii (y 1) py0_1 (y 2) (y 10) (y 19) (y 25) (y 26) (y 30) (y 31) (y 32) o10 o11 py0_12 py0_13 py0_14)), (y 39, .inr (7, o7_rii (y 40) py39_1 py39_2)), (y 3, aI V 4 fy3), (y 9, aI V 900 fy9), (y 19, .inr (4, o4_rrrrrr (y 2) (y 20) (y 21) (y 22) (y 23) (y 24))), (y 20, aI V 2000 f_160), (y 21, aI V 6 f_161), (y 22, aI V 64 f_162), (y 2, .inr (1, o1_iiiiiirrrrrrriiiii py2_0 py2_1 py2_2 py2_3 py2_4 py2_5 (y 3) (y 4) (y 5) (y 6) (y 7) (y 8) (y 9) py2_13 py2_14 py2_15 py2_16 py2_17))] := ⟨_, rfl, hP, hD⟩
            replace hR := tb hR ef_169
            obtain ⟨x_170, ex_170⟩ : ∃ z9 : Int32, z9 = u_149 + 1 := ⟨_, rfl⟩
            have bx_170 : iv 1 40 x_170 := by rw [ex_170]; exact iv_add b_157 (iv_c (1 : Int32) (a := 1) (b := 1) (by decide)) (by decide)
            replace hR := tb hR ex_170
            refine lv_iinc (v := x_170) (lv' := [(5, .int x_170), (4, .int r_159), (3, .ref (y 39)), (0, .ref (y 0)), (1, .int 3), (2, .int a2)]) hx hb dX9_lists_83 hl (k := 1) rfl (by rw [ex_170]; rfl) (by decide) rfl (fun ls hl => ?_)
            refine lv_goto (tgt := 44) hx hb dX9_lists_86 (by decide) ?_
            have hP := subP (ws' := [(y 3, aI V 4 fy3), (y 9, aI V 900 fy9), (y 19, .inr (4, o4_rrrrrr (y 2) (y 20) (y 21) (y 22) (y 23) (y 24))), (y 20, aI V 2000 f_160), (y 21, aI V 6 f_161), (y 22, aI V 64 f_162), (y 30, aT V 4 (va_up (va_up (va_up (va_up (fun _ => none) 0 (some (y 33))) 1 (some (y 35))) 2 (some (y 37))) 3 (some (y 39)))), (y 33, .inr (7, o7_rii (y 34) py33_1 py33_2)), (y 34, aJ V 40 fy34), (y 35, .inr (7, o7_rii (y 36) py35_1 py35_2)), (y 36, aJ V 40 fy36), (y 37, .inr (7, o7_rii (y 38) py37_1 py37_2)), (y 38, aJ V 40 fy38), (y 40, aJ V 40 f_169), (y 0, .inr (9, o9_rirrrrrrrrvviii (y 1) py0_1 (y 2) (y 10) (y 19) (y 25) (y 26) (y 30) (y 31) (y 32) o10 o11 py0_12 py0_13 py0_14)), (y 2, .inr (1, o1_iiiiiirrrrrrriiiii py2_0 py2_1 py2_2 py2_3 py2_4 py2_5 (y 3) (y 4) (y 5) (y 6) (y 7) (y 8) (y 9) py2_13 py2_14 py2_15 py2_16 py2_17)), (y 39, .inr (7, o7_rii (y 40) py39_1 py39_2))]) hP [10, 11, 12, 13, 14, 15, 0, 1, 2, 3, 4, 5, 6, 7, 8, 16, 9] rfl
            have hD := subD hP hD [10, 11, 12, 13, 14, 15, 0, 1, 2, 3, 4, 5, 6, 7, 8, 16, 9] rfl rfl
            exact ihn_155 _ _ _ _ (by rw [en_155, ex_170]; exact mu_up b_157 (by decide)) ⟨x_170, r_159, f_160, f_161, f_162, f_169, (iv_w bx_170 (by decide)), br_159, tf_160, kn_164, (tbk hAn_155 hR), rfl, hP, hD, hS, lv_sub hl [0, 1, 2, 3, 4, 5] rfl⟩
        · have hP : va_P V.1 vwCl [(y 3, aI V 4 fy3), (y 9, aI V 900 fy9), (y 19, .inr (4, o4_rrrrrr (y 2) (y 20) (y 21) (y 22) (y 23) (y 24))), (y 20, aI V 2000 fy20), (y 21, aI V 6 fy21), (y 22, aI V 64 fy22), (y 30, aT V 4 (va_up (va_up (va_up (va_up (fun _ => none) 0 (some (y 33))) 1 (some (y 35))) 2 (some (y 37))) 3 (some (y 39)))), (y 33, .inr (7, o7_rii (y 34) py33_1 py33_2)), (y 34, aJ V 40 fy34), (y 35, .inr (7, o7_rii (y 36) py35_1 py35_2)), (y 36, aJ V 40 fy36), (y 37, .inr (7, o7_rii (y 38) py37_1 py37_2)), (y 38, aJ V 40 fy38), (y 40, aJ V 40 fy40), (y 0, .inr (9, o9_rirrrrrrrrvviii (y 1) py0_1 (y 2) (y 10) (y 19) (y 25) (y 26) (y 30) (y 31) (y 32) o10 o11 py0_12 py0_13 py0_14)), (y 2, .inr (1, o1_iiiiiirrrrrrriiiii py2_0 py2_1 py2_2 py2_3 py2_4 py2_5 (y 3) (y 4) (y 5) (y 6) (y 7) (y 8) (y 9) py2_13 py2_14 py2_15 py2_16 py2_17)), (y 39, .inr (7, o7_rii (y 40) py39_1 py39_2))] H := hP
          have hD := cpD hP hD
          replace hR := te hR (by rw [← et_145]; decide)
          have b_171 : iv (-1) (-1) py39_1 := iv_l1 (Int32.not_le.mp c_144) bpy39_1 (iv_c (0 : Int32) (a := 0) (b := 0) (by decide)) (by decide)
          refine lv_if_eq (tgt := 35) hx hb dX9_lists_29 (by decide) (fun c_173 => absurd c_173 (by decide)) (fun _ => ?_)
          refine lv_bipush (v := (-6)) hx hb dX9_lists_32 (by decide) ?_
          have hP := subP (ws' := [(y 0, .inr (9, o9_rirrrrrrrrvviii (y 1) py0_1 (y 2) (y 10) (y 19) (y 25) (y 26) (y 30) (y 31) (y 32) o10 o11 py0_12 py0_13 py0_14)), (y 2, .inr (1, o1_iiiiiirrrrrrriiiii py2_0 py2_1 py2_2 py2_3 py2_4 py2_5 (y 3) (y 4) (y 5) (y 6) (y 7) (y 8) (y 9) py2_13 py2_14 py2_15 py2_16 py2_17)), (y 3, aI V 4 fy3), (y 9, aI V 900 fy9), (y 19, .inr (4, o4_rrrrrr (y 2) (y 20) (y 21) (y 22) (y 23) (y 24))), (y 20, aI V 2000 fy20), (y 21, aI V 6 fy21), (y 22, aI V 64 fy22), (y 30, aT V 4 (va_up (va_up (va_up (va_up (fun _ => none) 0 (some (y 33))) 1 (some (y 35))) 2 (some (y 37))) 3 (some (y 39)))), (y 33, .inr (7, o7_rii (y 34) py33_1 py33_2)), (y 34, aJ V 40 fy34), (y 35, .inr (7, o7_rii (y 36) py35_1 py35_2)), (y 36, aJ V 40 fy36), (y 37, .inr (7, o7_rii (y 38) py37_1 py37_2)), (y 38, aJ V 40 fy38), (y 39, .inr (7, o7_rii (y 40) py39_1 py39_2)), (y 40, aJ V 40 fy40)]) hP [14, 15, 0, 1, 2, 3, 4, 5, 6, 7, 8, 9, 10, 11, 12, 16, 13] rfl
          have hD := subD hP hD [14, 15, 0, 1, 2, 3, 4, 5, 6, 7, 8, 9, 10, 11, 12, 16, 13] rfl rfl
          exact fiI hx hb hr hlk hK hP hD hS dX9_lists_34 (Nat.le_of_ble_eq_true rfl) (Nat.le_of_ble_eq_true rfl) (⟨fy20, fy21, fy22, fy34, fy36, fy38, fy40, tfy20, (iv_c ((-6) : Int32) (by decide)), (congrArg Prod.fst (hR.symm.trans hT0)), (congrArg Prod.fst (congrArg Prod.snd (hR.symm.trans hT0))), (congrArg Prod.fst (congrArg Prod.snd (congrArg Prod.snd (hR.symm.trans hT0)))), (congrArg Prod.fst (congrArg Prod.snd (congrArg Prod.snd (congrArg Prod.snd (hR.symm.trans hT0))))), (congrArg Prod.snd (congrArg Prod.snd (congrArg Prod.snd (congrArg Prod.snd (hR.symm.trans hT0))))), hK9, rfl⟩)
theorem dX9_isImage_0 : decode cX9_isImage 0 = .ok (.iload_n 0, 1) := by decide +kernel
theorem dX9_isImage_1 : decode cX9_isImage 1 = .ok (.ifCond .lt 12, 3) := by decide +kernel
theorem dX9_isImage_13 : decode cX9_isImage 13 = .ok (.iconst 0, 1) := by decide +kernel
theorem dX9_isImage_14 : decode cX9_isImage 14 = .ok (.ireturn, 1) := by decide +kernel
theorem dX9_isImage_4 : decode cX9_isImage 4 = .ok (.iload_n 0, 1) := by decide +kernel
theorem dX9_isImage_5 : decode cX9_isImage 5 = .ok (.iconst 2, 1) := by decide +kernel
theorem dX9_isImage_6 : decode cX9_isImage 6 = .ok (.if_icmp .ge 7, 3) := by decide +kernel
theorem dX9_isImage_9 : decode cX9_isImage 9 = .ok (.iconst 1, 1) := by decide +kernel
theorem dX9_isImage_10 : decode cX9_isImage 10 = .ok (.goto 4, 3) := by decide +kernel
set_option maxRecDepth 100000 in
noncomputable def F_k_X9_isImage_0 (a0 : Int32) : Int32 := if a0 < (0 : Int32) then ((0)) else (if (2 : Int32) ≤ a0 then ((1)) else ((2)))
set_option maxHeartbeats 4000000 in
set_option maxRecDepth 100000 in
theorem k_X9_isImage_0 (l : Launch) (V : GV) (a0 : Int32) : Ct l V yX9_isImage (.code yX9_isImage cX9_isImage 1 (some .boolean)) 1 [.int a0] [] 0 0 (QI V (fun (r : Int32) (w : va_W) => ((a0 < 0) ∧ r = 0 ∧ (0 : Int32) = F_k_X9_isImage_0 a0 ∧ w = []) ∨ ((¬ a0 < 0) ∧ (2 ≤ a0) ∧ r = 0 ∧ (1 : Int32) = F_k_X9_isImage_0 a0 ∧ w = []) ∨ ((¬ a0 < 0) ∧ (¬ 2 ≤ a0) ∧ r = 1 ∧ (2 : Int32) = F_k_X9_isImage_0 a0 ∧ w = []))) := by
  refine Ct.of (by decide) (Nat.le_of_ble_eq_true rfl) (fun p e s m below meth c A ls hx hb hr hml hown hlk hnm hg hP hK hD hE hA hS hl => ?_)
  have hl : lv_has ls 1 [(0, .int a0)] := hl
  obtain ⟨T0, hT0⟩ : ∃ T9, T9 = F_k_X9_isImage_0 a0 := ⟨_, rfl⟩
  have hR := hT0.trans (F_k_X9_isImage_0.eq_1 ..)
  refine lv_iload_n hx hb dX9_isImage_0 rfl (lv_at hl 0 rfl) ?_
  refine lv_if_lt (tgt := 13) hx hb dX9_isImage_1 (by decide) (fun c_1 => ?_) (fun c_1 => ?_)
  · replace hR := ti hR c_1
    have b_2 : iv (-2147483648) (-1) a0 := iv_l1 c_1 (iv_top a0) (iv_c (0 : Int32) (a := 0) (b := 0) (by decide)) (by decide)
    refine lv_iconst (v := 0) hx hb dX9_isImage_13 (by decide) ?_
    exact fiZ rfl hx hb hr hlk hK hP hD hS dX9_isImage_14 (Nat.le_of_ble_eq_true rfl) (Nat.le_of_ble_eq_true rfl) (Or.inl ⟨c_1, rfl, (hR.symm.trans hT0), rfl⟩)
  · replace hR := te hR c_1
    have b_3 : iv 0 2147483647 a0 := iv_e2 (Int32.not_lt.mp c_1) (iv_c (0 : Int32) (a := 0) (b := 0) (by decide)) (iv_top a0) (by decide)
    refine lv_iload_n hx hb dX9_isImage_4 rfl (lv_at hl 0 rfl) ?_
    refine lv_iconst (v := 2) hx hb dX9_isImage_5 (by decide) ?_
    refine lv_icmp_ge (tgt := 13) hx hb dX9_isImage_6 (by decide) (fun c_4 => ?_) (fun c_4 => ?_)
    · replace hR := ti hR c_4
      have b_5 : iv 2 2147483647 a0 := iv_e2 c_4 (iv_c (2 : Int32) (a := 2) (b := 2) (by decide)) b_3 (by decide)
      refine lv_iconst (v := 0) hx hb dX9_isImage_13 (by decide) ?_
      exact fiZ rfl hx hb hr hlk hK hP hD hS dX9_isImage_14 (Nat.le_of_ble_eq_true rfl) (Nat.le_of_ble_eq_true rfl) (Or.inr (Or.inl ⟨c_1, c_4, rfl, (hR.symm.trans hT0), rfl⟩))
    · replace hR := te hR c_4
      have b_6 : iv 0 1 a0 := iv_l1 (Int32.not_le.mp c_4) b_3 (iv_c (2 : Int32) (a := 2) (b := 2) (by decide)) (by decide)
      refine lv_iconst (v := 1) hx hb dX9_isImage_9 (by decide) ?_
      refine lv_goto (tgt := 14) hx hb dX9_isImage_10 (by decide) ?_
      exact fiZ rfl hx hb hr hlk hK hP hD hS dX9_isImage_14 (Nat.le_of_ble_eq_true rfl) (Nat.le_of_ble_eq_true rfl) (Or.inr (Or.inr (⟨c_1, c_4, rfl, (hR.symm.trans hT0), rfl⟩)))
theorem dX1_becomeLike_0 : decode cX1_becomeLike 0 = .ok (.aload_n 0, 1) := by decide +kernel
theorem dX1_becomeLike_1 : decode cX1_becomeLike 1 = .ok (.aload_n 1, 1) := by decide +kernel
theorem q_1_35 : Cond.fieldLink "BeaconDelay$Coast" 33 "BeaconDelay$Coast" "lines" "I" ∈ gw := gw_1 (i := 35) (by decide +kernel) rfl
theorem dX1_becomeLike_2 : decode cX1_becomeLike 2 = .ok (.getfield 33, 3) := by decide +kernel
theorem dX1_becomeLike_5 : decode cX1_becomeLike 5 = .ok (.putfield 33, 3) := by decide +kernel
theorem dX1_becomeLike_8 : decode cX1_becomeLike 8 = .ok (.aload_n 0, 1) := by decide +kernel
theorem dX1_becomeLike_9 : decode cX1_becomeLike 9 = .ok (.aload_n 1, 1) := by decide +kernel
theorem q_1_38 : Cond.fieldLink "BeaconDelay$Coast" 37 "BeaconDelay$Coast" "hills" "I" ∈ gw := gw_1 (i := 38) (by decide +kernel) rfl
theorem dX1_becomeLike_10 : decode cX1_becomeLike 10 = .ok (.getfield 37, 3) := by decide +kernel
theorem dX1_becomeLike_13 : decode cX1_becomeLike 13 = .ok (.putfield 37, 3) := by decide +kernel
theorem dX1_becomeLike_16 : decode cX1_becomeLike 16 = .ok (.aload_n 0, 1) := by decide +kernel
theorem dX1_becomeLike_17 : decode cX1_becomeLike 17 = .ok (.aload_n 1, 1) := by decide +kernel
theorem q_1_42 : Cond.fieldLink "BeaconDelay$Coast" 40 "BeaconDelay$Coast" "villages" "I" ∈ gw := gw_1 (i := 42) (by decide +kernel) rfl
theorem dX1_becomeLike_18 : decode cX1_becomeLike 18 = .ok (.getfield 40, 3) := by decide +kernel
theorem dX1_becomeLike_21 : decode cX1_becomeLike 21 = .ok (.putfield 40, 3) := by decide +kernel
theorem dX1_becomeLike_24 : decode cX1_becomeLike 24 = .ok (.aload_n 0, 1) := by decide +kernel
theorem dX1_becomeLike_25 : decode cX1_becomeLike 25 = .ok (.aload_n 1, 1) := by decide +kernel
theorem dX1_becomeLike_26 : decode cX1_becomeLike 26 = .ok (.getfield 43, 3) := by decide +kernel
theorem dX1_becomeLike_29 : decode cX1_becomeLike 29 = .ok (.putfield 43, 3) := by decide +kernel
theorem dX1_becomeLike_32 : decode cX1_becomeLike 32 = .ok (.aload_n 0, 1) := by decide +kernel
theorem dX1_becomeLike_33 : decode cX1_becomeLike 33 = .ok (.aload_n 1, 1) := by decide +kernel
theorem q_1_48 : Cond.fieldLink "BeaconDelay$Coast" 46 "BeaconDelay$Coast" "firstStanding" "I" ∈ gw := gw_1 (i := 48) (by decide +kernel) rfl
theorem dX1_becomeLike_34 : decode cX1_becomeLike 34 = .ok (.getfield 46, 3) := by decide +kernel
theorem dX1_becomeLike_37 : decode cX1_becomeLike 37 = .ok (.putfield 46, 3) := by decide +kernel
theorem dX1_becomeLike_40 : decode cX1_becomeLike 40 = .ok (.aload_n 0, 1) := by decide +kernel
theorem dX1_becomeLike_41 : decode cX1_becomeLike 41 = .ok (.aload_n 1, 1) := by decide +kernel
theorem q_1_51 : Cond.fieldLink "BeaconDelay$Coast" 49 "BeaconDelay$Coast" "firstWeather" "I" ∈ gw := gw_1 (i := 51) (by decide +kernel) rfl
theorem dX1_becomeLike_42 : decode cX1_becomeLike 42 = .ok (.getfield 49, 3) := by decide +kernel
theorem dX1_becomeLike_45 : decode cX1_becomeLike 45 = .ok (.putfield 49, 3) := by decide +kernel
theorem dX1_becomeLike_48 : decode cX1_becomeLike 48 = .ok (.aload_n 1, 1) := by decide +kernel
theorem q_1_54 : Cond.fieldLink "BeaconDelay$Coast" 9 "BeaconDelay$Coast" "fear" "[I" ∈ gw := gw_1 (i := 54) (by decide +kernel) rfl
theorem dX1_becomeLike_49 : decode cX1_becomeLike 49 = .ok (.getfield 9, 3) := by decide +kernel
theorem dX1_becomeLike_52 : decode cX1_becomeLike 52 = .ok (.iconst 0, 1) := by decide +kernel
theorem dX1_becomeLike_53 : decode cX1_becomeLike 53 = .ok (.aload_n 0, 1) := by decide +kernel
theorem dX1_becomeLike_54 : decode cX1_becomeLike 54 = .ok (.getfield 9, 3) := by decide +kernel
theorem dX1_becomeLike_57 : decode cX1_becomeLike 57 = .ok (.iconst 0, 1) := by decide +kernel
theorem dX1_becomeLike_58 : decode cX1_becomeLike 58 = .ok (.iconst 4, 1) := by decide +kernel
theorem q_3_100 : Cond.methodLink "BeaconDelay$Coast" 67 arraycopyName ∈ gw := gw_3 (i := 100) (by decide +kernel) rfl
theorem dX1_becomeLike_59 : decode cX1_becomeLike 59 = .ok (.invokestatic 67, 3) := by decide +kernel
theorem dX1_becomeLike_62 : decode cX1_becomeLike 62 = .ok (.aload_n 1, 1) := by decide +kernel
theorem q_1_58 : Cond.fieldLink "BeaconDelay$Coast" 15 "BeaconDelay$Coast" "gap" "[I" ∈ gw := gw_1 (i := 58) (by decide +kernel) rfl
theorem dX1_becomeLike_63 : decode cX1_becomeLike 63 = .ok (.getfield 15, 3) := by decide +kernel
theorem dX1_becomeLike_66 : decode cX1_becomeLike 66 = .ok (.iconst 0, 1) := by decide +kernel
theorem dX1_becomeLike_67 : decode cX1_becomeLike 67 = .ok (.aload_n 0, 1) := by decide +kernel
theorem dX1_becomeLike_68 : decode cX1_becomeLike 68 = .ok (.getfield 15, 3) := by decide +kernel
theorem dX1_becomeLike_71 : decode cX1_becomeLike 71 = .ok (.iconst 0, 1) := by decide +kernel
theorem dX1_becomeLike_72 : decode cX1_becomeLike 72 = .ok (.iconst 4, 1) := by decide +kernel
theorem dX1_becomeLike_73 : decode cX1_becomeLike 73 = .ok (.invokestatic 67, 3) := by decide +kernel
theorem dX1_becomeLike_76 : decode cX1_becomeLike 76 = .ok (.aload_n 1, 1) := by decide +kernel
theorem q_1_61 : Cond.fieldLink "BeaconDelay$Coast" 18 "BeaconDelay$Coast" "needs" "[I" ∈ gw := gw_1 (i := 61) (by decide +kernel) rfl
theorem dX1_becomeLike_77 : decode cX1_becomeLike 77 = .ok (.getfield 18, 3) := by decide +kernel
theorem dX1_becomeLike_80 : decode cX1_becomeLike 80 = .ok (.iconst 0, 1) := by decide +kernel
theorem dX1_becomeLike_81 : decode cX1_becomeLike 81 = .ok (.aload_n 0, 1) := by decide +kernel
theorem dX1_becomeLike_82 : decode cX1_becomeLike 82 = .ok (.getfield 18, 3) := by decide +kernel
theorem dX1_becomeLike_85 : decode cX1_becomeLike 85 = .ok (.iconst 0, 1) := by decide +kernel
theorem dX1_becomeLike_86 : decode cX1_becomeLike 86 = .ok (.iconst 4, 1) := by decide +kernel
theorem dX1_becomeLike_87 : decode cX1_becomeLike 87 = .ok (.invokestatic 67, 3) := by decide +kernel
theorem dX1_becomeLike_90 : decode cX1_becomeLike 90 = .ok (.aload_n 1, 1) := by decide +kernel
theorem dX1_becomeLike_91 : decode cX1_becomeLike 91 = .ok (.getfield 21, 3) := by decide +kernel
theorem dX1_becomeLike_94 : decode cX1_becomeLike 94 = .ok (.iconst 0, 1) := by decide +kernel
theorem dX1_becomeLike_95 : decode cX1_becomeLike 95 = .ok (.aload_n 0, 1) := by decide +kernel
theorem dX1_becomeLike_96 : decode cX1_becomeLike 96 = .ok (.getfield 21, 3) := by decide +kernel
theorem dX1_becomeLike_99 : decode cX1_becomeLike 99 = .ok (.iconst 0, 1) := by decide +kernel
theorem dX1_becomeLike_100 : decode cX1_becomeLike 100 = .ok (.bipush 8, 2) := by decide +kernel
theorem dX1_becomeLike_102 : decode cX1_becomeLike 102 = .ok (.invokestatic 67, 3) := by decide +kernel
theorem dX1_becomeLike_105 : decode cX1_becomeLike 105 = .ok (.aload_n 1, 1) := by decide +kernel
theorem dX1_becomeLike_106 : decode cX1_becomeLike 106 = .ok (.getfield 24, 3) := by decide +kernel
theorem dX1_becomeLike_109 : decode cX1_becomeLike 109 = .ok (.iconst 0, 1) := by decide +kernel
theorem dX1_becomeLike_110 : decode cX1_becomeLike 110 = .ok (.aload_n 0, 1) := by decide +kernel
theorem dX1_becomeLike_111 : decode cX1_becomeLike 111 = .ok (.getfield 24, 3) := by decide +kernel
theorem dX1_becomeLike_114 : decode cX1_becomeLike 114 = .ok (.iconst 0, 1) := by decide +kernel
theorem dX1_becomeLike_115 : decode cX1_becomeLike 115 = .ok (.bipush 8, 2) := by decide +kernel
theorem dX1_becomeLike_117 : decode cX1_becomeLike 117 = .ok (.invokestatic 67, 3) := by decide +kernel
theorem dX1_becomeLike_120 : decode cX1_becomeLike 120 = .ok (.aload_n 1, 1) := by decide +kernel
theorem dX1_becomeLike_121 : decode cX1_becomeLike 121 = .ok (.getfield 27, 3) := by decide +kernel
theorem dX1_becomeLike_124 : decode cX1_becomeLike 124 = .ok (.iconst 0, 1) := by decide +kernel
theorem dX1_becomeLike_125 : decode cX1_becomeLike 125 = .ok (.aload_n 0, 1) := by decide +kernel
theorem dX1_becomeLike_126 : decode cX1_becomeLike 126 = .ok (.getfield 27, 3) := by decide +kernel
theorem dX1_becomeLike_129 : decode cX1_becomeLike 129 = .ok (.iconst 0, 1) := by decide +kernel
theorem dX1_becomeLike_130 : decode cX1_becomeLike 130 = .ok (.bipush 8, 2) := by decide +kernel
theorem dX1_becomeLike_132 : decode cX1_becomeLike 132 = .ok (.invokestatic 67, 3) := by decide +kernel
theorem dX1_becomeLike_135 : decode cX1_becomeLike 135 = .ok (.aload_n 1, 1) := by decide +kernel
theorem q_1_70 : Cond.fieldLink "BeaconDelay$Coast" 30 "BeaconDelay$Coast" "steps" "[I" ∈ gw := gw_1 (i := 70) (by decide +kernel) rfl
theorem dX1_becomeLike_136 : decode cX1_becomeLike 136 = .ok (.getfield 30, 3) := by decide +kernel
theorem dX1_becomeLike_139 : decode cX1_becomeLike 139 = .ok (.iconst 0, 1) := by decide +kernel
theorem dX1_becomeLike_140 : decode cX1_becomeLike 140 = .ok (.aload_n 0, 1) := by decide +kernel
theorem dX1_becomeLike_141 : decode cX1_becomeLike 141 = .ok (.getfield 30, 3) := by decide +kernel
theorem dX1_becomeLike_144 : decode cX1_becomeLike 144 = .ok (.iconst 0, 1) := by decide +kernel
theorem dX1_becomeLike_145 : decode cX1_becomeLike 145 = .ok (.aload_n 1, 1) := by decide +kernel
theorem q_1_73 : Cond.fieldLink "BeaconDelay$Coast" 52 "BeaconDelay$Coast" "stepCount" "I" ∈ gw := gw_1 (i := 73) (by decide +kernel) rfl
theorem dX1_becomeLike_146 : decode cX1_becomeLike 146 = .ok (.getfield 52, 3) := by decide +kernel
theorem dX1_becomeLike_149 : decode cX1_becomeLike 149 = .ok (.invokestatic 67, 3) := by decide +kernel
theorem dX1_becomeLike_152 : decode cX1_becomeLike 152 = .ok (.aload_n 0, 1) := by decide +kernel
theorem dX1_becomeLike_153 : decode cX1_becomeLike 153 = .ok (.aload_n 1, 1) := by decide +kernel
theorem dX1_becomeLike_154 : decode cX1_becomeLike 154 = .ok (.getfield 52, 3) := by decide +kernel
theorem dX1_becomeLike_157 : decode cX1_becomeLike 157 = .ok (.putfield 52, 3) := by decide +kernel
theorem dX1_becomeLike_160 : decode cX1_becomeLike 160 = .ok (.aload_n 0, 1) := by decide +kernel
theorem dX1_becomeLike_161 : decode cX1_becomeLike 161 = .ok (.aload_n 1, 1) := by decide +kernel
theorem q_1_75 : Cond.fieldLink "BeaconDelay$Coast" 55 "BeaconDelay$Coast" "takesBegin" "I" ∈ gw := gw_1 (i := 75) (by decide +kernel) rfl
theorem dX1_becomeLike_162 : decode cX1_becomeLike 162 = .ok (.getfield 55, 3) := by decide +kernel
theorem dX1_becomeLike_165 : decode cX1_becomeLike 165 = .ok (.putfield 55, 3) := by decide +kernel
theorem dX1_becomeLike_168 : decode cX1_becomeLike 168 = .ok (.aload_n 0, 1) := by decide +kernel
theorem dX1_becomeLike_169 : decode cX1_becomeLike 169 = .ok (.aload_n 1, 1) := by decide +kernel
theorem q_1_78 : Cond.fieldLink "BeaconDelay$Coast" 58 "BeaconDelay$Coast" "takesEnd" "I" ∈ gw := gw_1 (i := 78) (by decide +kernel) rfl
theorem dX1_becomeLike_170 : decode cX1_becomeLike 170 = .ok (.getfield 58, 3) := by decide +kernel
theorem dX1_becomeLike_173 : decode cX1_becomeLike 173 = .ok (.putfield 58, 3) := by decide +kernel
theorem dX1_becomeLike_176 : decode cX1_becomeLike 176 = .ok (.aload_n 0, 1) := by decide +kernel
theorem dX1_becomeLike_177 : decode cX1_becomeLike 177 = .ok (.aload_n 1, 1) := by decide +kernel
theorem q_1_81 : Cond.fieldLink "BeaconDelay$Coast" 61 "BeaconDelay$Coast" "addsBegin" "I" ∈ gw := gw_1 (i := 81) (by decide +kernel) rfl
theorem dX1_becomeLike_178 : decode cX1_becomeLike 178 = .ok (.getfield 61, 3) := by decide +kernel
theorem dX1_becomeLike_181 : decode cX1_becomeLike 181 = .ok (.putfield 61, 3) := by decide +kernel
theorem dX1_becomeLike_184 : decode cX1_becomeLike 184 = .ok (.aload_n 0, 1) := by decide +kernel
theorem dX1_becomeLike_185 : decode cX1_becomeLike 185 = .ok (.aload_n 1, 1) := by decide +kernel
theorem q_1_84 : Cond.fieldLink "BeaconDelay$Coast" 64 "BeaconDelay$Coast" "addsEnd" "I" ∈ gw := gw_1 (i := 84) (by decide +kernel) rfl
theorem dX1_becomeLike_186 : decode cX1_becomeLike 186 = .ok (.getfield 64, 3) := by decide +kernel
theorem dX1_becomeLike_189 : decode cX1_becomeLike 189 = .ok (.putfield 64, 3) := by decide +kernel
theorem dX1_becomeLike_192 : decode cX1_becomeLike 192 = .ok (.return_, 1) := by decide +kernel
set_option maxRecDepth 100000 in
noncomputable def F_k_X1_becomeLike_0 (py2_0 : Int32) (py2_1 : Int32) (py2_2 : Int32) (py2_3 : Int32) (py2_4 : Int32) (py2_5 : Int32) (py2_13 : Int32) (py2_14 : Int32) (py2_15 : Int32) (py2_16 : Int32) (py2_17 : Int32) (fy3 : Nat → Int32) (fy4 : Nat → Int32) (fy5 : Nat → Int32) (fy6 : Nat → Int32) (fy7 : Nat → Int32) (fy8 : Nat → Int32) (fy9 : Nat → Int32) (fy43 : Nat → Int32) (fy44 : Nat → Int32) (fy45 : Nat → Int32) (fy46 : Nat → Int32) (fy47 : Nat → Int32) (fy48 : Nat → Int32) (fy49 : Nat → Int32) : Int32 × Int32 × Int32 × Int32 × Int32 × Int32 × Int32 × Int32 × Int32 × Int32 × Int32 × (Nat → Int32) × (Nat → Int32) × (Nat → Int32) × (Nat → Int32) × (Nat → Int32) × (Nat → Int32) × (Nat → Int32) := bnd (va_cpy fy3 fy43 (0 : Int32).toNatClampNeg (0 : Int32).toNatClampNeg (4 : Int32).toNatClampNeg : Nat → Int32) fun (f_1 : Nat → Int32) => bnd (va_cpy fy4 fy44 (0 : Int32).toNatClampNeg (0 : Int32).toNatClampNeg (4 : Int32).toNatClampNeg : Nat → Int32) fun (f_2 : Nat → Int32) => bnd (va_cpy fy5 fy45 (0 : Int32).toNatClampNeg (0 : Int32).toNatClampNeg (4 : Int32).toNatClampNeg : Nat → Int32) fun (f_3 : Nat → Int32) => bnd (va_cpy fy6 fy46 (0 : Int32).toNatClampNeg (0 : Int32).toNatClampNeg (8 : Int32).toNatClampNeg : Nat → Int32) fun (f_4 : Nat → Int32) => bnd (va_cpy fy7 fy47 (0 : Int32).toNatClampNeg (0 : Int32).toNatClampNeg (8 : Int32).toNatClampNeg : Nat → Int32) fun (f_5 : Nat → Int32) => bnd (va_cpy fy8 fy48 (0 : Int32).toNatClampNeg (0 : Int32).toNatClampNeg (8 : Int32).toNatClampNeg : Nat → Int32) fun (f_6 : Nat → Int32) => bnd (va_cpy fy9 fy49 (0 : Int32).toNatClampNeg (0 : Int32).toNatClampNeg (py2_13 : Int32).toNatClampNeg : Nat → Int32) fun (f_7 : Nat → Int32) => (py2_0, py2_1, py2_2, py2_3, py2_4, py2_5, py2_13, py2_14, py2_15, py2_16, py2_17, f_1, f_2, f_3, f_4, f_5, f_6, f_7)
set_option maxHeartbeats 4000000 in
set_option maxRecDepth 100000 in
theorem k_X1_becomeLike_0 (l : Launch) (V : GV) (y : Nat → Nat) (py2_0 : Int32) (py2_1 : Int32) (py2_2 : Int32) (py2_3 : Int32) (py2_4 : Int32) (py2_5 : Int32) (py2_13 : Int32) (py2_14 : Int32) (py2_15 : Int32) (py2_16 : Int32) (py2_17 : Int32) (fy3 : Nat → Int32) (fy4 : Nat → Int32) (fy5 : Nat → Int32) (fy6 : Nat → Int32) (fy7 : Nat → Int32) (fy8 : Nat → Int32) (fy9 : Nat → Int32) (py42_0 : Int32) (py42_1 : Int32) (py42_2 : Int32) (py42_3 : Int32) (py42_4 : Int32) (py42_5 : Int32) (py42_13 : Int32) (py42_14 : Int32) (py42_15 : Int32) (py42_16 : Int32) (py42_17 : Int32) (fy43 : Nat → Int32) (fy44 : Nat → Int32) (fy45 : Nat → Int32) (fy46 : Nat → Int32) (fy47 : Nat → Int32) (fy48 : Nat → Int32) (fy49 : Nat → Int32) (bpy2_1 : iv 0 4 py2_1) (bpy2_2 : iv 0 4 py2_2) (bpy2_3 : iv 0 8 py2_3) (bpy2_4 : iv 0 9999 py2_4) (bpy2_5 : iv 0 9 py2_5) (bpy2_13 : iv 0 900 py2_13) (bpy2_14 : iv 0 900 py2_14) (bpy2_15 : iv 0 900 py2_15) (bpy2_16 : iv 0 900 py2_16) (bpy2_17 : iv 0 900 py2_17) (bpy42_1 : iv 0 4 py42_1) (bpy42_2 : iv 0 4 py42_2) (bpy42_3 : iv 0 8 py42_3) (bpy42_4 : iv 0 9999 py42_4) (bpy42_5 : iv 0 9 py42_5) (bpy42_13 : iv 0 900 py42_13) (bpy42_14 : iv 0 900 py42_14) (bpy42_15 : iv 0 900 py42_15) (bpy42_16 : iv 0 900 py42_16) (bpy42_17 : iv 0 900 py42_17) : Ct l V yX1_becomeLike (.code yX1_becomeLike cX1_becomeLike 2 none) 3 [.ref (y 42), .ref (y 2)] [(y 2, .inr (1, o1_iiiiiirrrrrrriiiii py2_0 py2_1 py2_2 py2_3 py2_4 py2_5 (y 3) (y 4) (y 5) (y 6) (y 7) (y 8) (y 9) py2_13 py2_14 py2_15 py2_16 py2_17)), (y 3, aI V 4 fy3), (y 4, aI V 4 fy4), (y 5, aI V 4 fy5), (y 6, aI V 8 fy6), (y 7, aI V 8 fy7), (y 8, aI V 8 fy8), (y 9, aI V 900 fy9), (y 42, .inr (1, o1_iiiiiirrrrrrriiiii py42_0 py42_1 py42_2 py42_3 py42_4 py42_5 (y 43) (y 44) (y 45) (y 46) (y 47) (y 48) (y 49) py42_13 py42_14 py42_15 py42_16 py42_17)), (y 43, aI V 4 fy43), (y 44, aI V 4 fy44), (y 45, aI V 4 fy45), (y 46, aI V 8 fy46), (y 47, aI V 8 fy47), (y 48, aI V 8 fy48), (y 49, aI V 900 fy49)] 0 0 (QV V (fun (w : va_W) => ∃ (v0 : Int32) (v1 : Int32) (v2 : Int32) (v3 : Int32) (v4 : Int32) (v5 : Int32) (v6 : Int32) (v7 : Int32) (v8 : Int32) (v9 : Int32) (v10 : Int32) (g11 : Nat → Int32) (g12 : Nat → Int32) (g13 : Nat → Int32) (g14 : Nat → Int32) (g15 : Nat → Int32) (g16 : Nat → Int32) (g17 : Nat → Int32), iv 0 4 v1 ∧ iv 0 4 v2 ∧ iv 0 8 v3 ∧ iv 0 9999 v4 ∧ iv 0 9 v5 ∧ iv 0 900 v6 ∧ iv 0 900 v7 ∧ iv 0 900 v8 ∧ iv 0 900 v9 ∧ iv 0 900 v10 ∧ (v0 = py2_0) ∧ v0 = (F_k_X1_becomeLike_0 py2_0 py2_1 py2_2 py2_3 py2_4 py2_5 py2_13 py2_14 py2_15 py2_16 py2_17 fy3 fy4 fy5 fy6 fy7 fy8 fy9 fy43 fy44 fy45 fy46 fy47 fy48 fy49).1 ∧ v1 = (F_k_X1_becomeLike_0 py2_0 py2_1 py2_2 py2_3 py2_4 py2_5 py2_13 py2_14 py2_15 py2_16 py2_17 fy3 fy4 fy5 fy6 fy7 fy8 fy9 fy43 fy44 fy45 fy46 fy47 fy48 fy49).2.1 ∧ v2 = (F_k_X1_becomeLike_0 py2_0 py2_1 py2_2 py2_3 py2_4 py2_5 py2_13 py2_14 py2_15 py2_16 py2_17 fy3 fy4 fy5 fy6 fy7 fy8 fy9 fy43 fy44 fy45 fy46 fy47 fy48 fy49).2.2.1 ∧ v3 = (F_k_X1_becomeLike_0 py2_0 py2_1 py2_2 py2_3 py2_4 py2_5 py2_13 py2_14 py2_15 py2_16 py2_17 fy3 fy4 fy5 fy6 fy7 fy8 fy9 fy43 fy44 fy45 fy46 fy47 fy48 fy49).2.2.2.1 ∧ v4 = (F_k_X1_becomeLike_0 py2_0 py2_1 py2_2 py2_3 py2_4 py2_5 py2_13 py2_14 py2_15 py2_16 py2_17 fy3 fy4 fy5 fy6 fy7 fy8 fy9 fy43 fy44 fy45 fy46 fy47 fy48 fy49).2.2.2.2.1 ∧ v5 = (F_k_X1_becomeLike_0 py2_0 py2_1 py2_2 py2_3 py2_4 py2_5 py2_13 py2_14 py2_15 py2_16 py2_17 fy3 fy4 fy5 fy6 fy7 fy8 fy9 fy43 fy44 fy45 fy46 fy47 fy48 fy49).2.2.2.2.2.1 ∧ v6 = (F_k_X1_becomeLike_0 py2_0 py2_1 py2_2 py2_3 py2_4 py2_5 py2_13 py2_14 py2_15 py2_16 py2_17 fy3 fy4 fy5 fy6 fy7 fy8 fy9 fy43 fy44 fy45 fy46 fy47 fy48 fy49).2.2.2.2.2.2.1 ∧ v7 = (F_k_X1_becomeLike_0 py2_0 py2_1 py2_2 py2_3 py2_4 py2_5 py2_13 py2_14 py2_15 py2_16 py2_17 fy3 fy4 fy5 fy6 fy7 fy8 fy9 fy43 fy44 fy45 fy46 fy47 fy48 fy49).2.2.2.2.2.2.2.1 ∧ v8 = (F_k_X1_becomeLike_0 py2_0 py2_1 py2_2 py2_3 py2_4 py2_5 py2_13 py2_14 py2_15 py2_16 py2_17 fy3 fy4 fy5 fy6 fy7 fy8 fy9 fy43 fy44 fy45 fy46 fy47 fy48 fy49).2.2.2.2.2.2.2.2.1 ∧ v9 = (F_k_X1_becomeLike_0 py2_0 py2_1 py2_2 py2_3 py2_4 py2_5 py2_13 py2_14 py2_15 py2_16 py2_17 fy3 fy4 fy5 fy6 fy7 fy8 fy9 fy43 fy44 fy45 fy46 fy47 fy48 fy49).2.2.2.2.2.2.2.2.2.1 ∧ v10 = (F_k_X1_becomeLike_0 py2_0 py2_1 py2_2 py2_3 py2_4 py2_5 py2_13 py2_14 py2_15 py2_16 py2_17 fy3 fy4 fy5 fy6 fy7 fy8 fy9 fy43 fy44 fy45 fy46 fy47 fy48 fy49).2.2.2.2.2.2.2.2.2.2.1 ∧ g11 = (F_k_X1_becomeLike_0 py2_0 py2_1 py2_2 py2_3 py2_4 py2_5 py2_13 py2_14 py2_15 py2_16 py2_17 fy3 fy4 fy5 fy6 fy7 fy8 fy9 fy43 fy44 fy45 fy46 fy47 fy48 fy49).2.2.2.2.2.2.2.2.2.2.2.1 ∧ g12 = (F_k_X1_becomeLike_0 py2_0 py2_1 py2_2 py2_3 py2_4 py2_5 py2_13 py2_14 py2_15 py2_16 py2_17 fy3 fy4 fy5 fy6 fy7 fy8 fy9 fy43 fy44 fy45 fy46 fy47 fy48 fy49).2.2.2.2.2.2.2.2.2.2.2.2.1 ∧ g13 = (F_k_X1_becomeLike_0 py2_0 py2_1 py2_2 py2_3 py2_4 py2_5 py2_13 py2_14 py2_15 py2_16 py2_17 fy3 fy4 fy5 fy6 fy7 fy8 fy9 fy43 fy44 fy45 fy46 fy47 fy48 fy49).2.2.2.2.2.2.2.2.2.2.2.2.2.1 ∧ g14 = (F_k_X1_becomeLike_0 py2_0 py2_1 py2_2 py2_3 py2_4 py2_5 py2_13 py2_14 py2_15 py2_16 py2_17 fy3 fy4 fy5 fy6 fy7 fy8 fy9 fy43 fy44 fy45 fy46 fy47 fy48 fy49).2.2.2.2.2.2.2.2.2.2.2.2.2.2.1 ∧ g15 = (F_k_X1_becomeLike_0 py2_0 py2_1 py2_2 py2_3 py2_4 py2_5 py2_13 py2_14 py2_15 py2_16 py2_17 fy3 fy4 fy5 fy6 fy7 fy8 fy9 fy43 fy44 fy45 fy46 fy47 fy48 fy49).2.2.2.2.2.2.2.2.2.2.2.2.2.2.2.1 ∧ g16 = (F_k_X1_becomeLike_0 py2_0 py2_1 py2_2 py2_3 py2_4 py2_5 py2_13 py2_14 py2_15 py2_16 py2_17 fy3 fy4 fy5 fy6 fy7 fy8 fy9 fy43 fy44 fy45 fy46 fy47 fy48 fy49).2.2.2.2.2.2.2.2.2.2.2.2.2.2.2.2.1 ∧ g17 = (F_k_X1_becomeLike_0 py2_0 py2_1 py2_2 py2_3 py2_4 py2_5 py2_13 py2_14 py2_15 py2_16 py2_17 fy3 fy4 fy5 fy6 fy7 fy8 fy9 fy43 fy44 fy45 fy46 fy47 fy48 fy49).2.2.2.2.2.2.2.2.2.2.2.2.2.2.2.2.2 ∧ w = [(y 2, .inr (1, o1_iiiiiirrrrrrriiiii py2_0 py2_1 py2_2 py2_3 py2_4 py2_5 (y 3) (y 4) (y 5) (y 6) (y 7) (y 8) (y 9) py2_13 py2_14 py2_15 py2_16 py2_17)), (y 3, aI V 4 fy3), (y 4, aI V 4 fy4), (y 5, aI V 4 fy5), (y 6, aI V 8 fy6), (y 7, aI V 8 fy7), (y 8, aI V 8 fy8), (y 9, aI V 900 fy9), (y 42, .inr (1, o1_iiiiiirrrrrrriiiii v0 v1 v2 v3 v4 v5 (y 43) (y 44) (y 45) (y 46) (y 47) (y 48) (y 49) v6 v7 v8 v9 v10)), (y 43, aI V 4 g11), (y 44, aI V 4 g12), (y 45, aI V 4 g13), (y 46, aI V 8 g14), (y 47, aI V 8 g15), (y 48, aI V 8 g16), (y 49, aI V 900 g17)])) := by
  refine Ct.of (by decide) (Nat.le_of_ble_eq_true rfl) (fun p e s m below meth c A ls hx hb hr hml hown hlk hnm hg hP hK hD hE hA hS hl => ?_)
  have hl : lv_has ls 2 [(0, .ref (y 42)), (1, .ref (y 2))] := hl
  obtain ⟨T0, hT0⟩ : ∃ T9, T9 = F_k_X1_becomeLike_0 py2_0 py2_1 py2_2 py2_3 py2_4 py2_5 py2_13 py2_14 py2_15 py2_16 py2_17 fy3 fy4 fy5 fy6 fy7 fy8 fy9 fy43 fy44 fy45 fy46 fy47 fy48 fy49 := ⟨_, rfl⟩
  have hR := hT0.trans (F_k_X1_becomeLike_0.eq_1 ..)
  refine lv_aload_n hx hb dX1_becomeLike_0 rfl (lv_at hl 0 rfl) ?_
  refine lv_aload_n hx hb dX1_becomeLike_1 rfl (lv_at hl 1 rfl) ?_
  refine va_get (ci := 1) (v := .int py2_0) (C := RX1) (T := TX1) (N := 18) hx hb hg inX1 hown hK hP 0 rfl rfl 0 (by decide) (hg _ q_1_35) (fun _ h9 => h9) rfl dX1_becomeLike_2 ?_
  refine va_put (ci := 1) (v := .int py2_0) (ty := .int) (C := RX1) (T := TX1) (N := 18) hx hb hg inX1 tyX1 tyX1_ok nmX1 hown hK hP hD hS 8 rfl rfl 0 (by decide) (hg _ q_1_35) (fun _ h9 => h9) rfl (by decide +kernel) rfl rfl (Nat.le_of_ble_eq_true rfl) dX1_becomeLike_5 (fun H locs hP hD hS => ?_)
  have hP : va_P V.1 vwCl [(y 2, .inr (1, o1_iiiiiirrrrrrriiiii py2_0 py2_1 py2_2 py2_3 py2_4 py2_5 (y 3) (y 4) (y 5) (y 6) (y 7) (y 8) (y 9) py2_13 py2_14 py2_15 py2_16 py2_17)), (y 3, aI V 4 fy3), (y 4, aI V 4 fy4), (y 5, aI V 4 fy5), (y 6, aI V 8 fy6), (y 7, aI V 8 fy7), (y 8, aI V 8 fy8), (y 9, aI V 900 fy9), (y 42, .inr (1, o1_iiiiiirrrrrrriiiii py2_0 py42_1 py42_2 py42_3 py42_4 py42_5 (y 43) (y 44) (y 45) (y 46) (y 47) (y 48) (y 49) py42_13 py42_14 py42_15 py42_16 py42_17)), (y 43, aI V 4 fy43), (y 44, aI V 4 fy44), (y 45, aI V 4 fy45), (y 46, aI V 8 fy46), (y 47, aI V 8 fy47), (y 48, aI V 8 fy48), (y 49, aI V 900 fy49)] H := hP
  have hD := cpD hP hD
  refine lv_aload_n hx hb dX1_becomeLike_8 rfl (lv_at hl 0 rfl) ?_
  refine lv_aload_n hx hb dX1_becomeLike_9 rfl (lv_at hl 1 rfl) ?_
  refine va_get (ci := 1) (v := .int py2_1) (C := RX1) (T := TX1) (N := 18) hx hb hg inX1 hown hK hP 0 rfl rfl 1 (by decide) (hg _ q_1_38) (fun _ h9 => h9) rfl dX1_becomeLike_10 ?_
  refine va_put (ci := 1) (v := .int py2_1) (ty := .int) (C := RX1) (T := TX1) (N := 18) hx hb hg inX1 tyX1 tyX1_ok nmX1 hown hK hP hD hS 8 rfl rfl 1 (by decide) (hg _ q_1_38) (fun _ h9 => h9) rfl (by decide +kernel) rfl rfl (Nat.le_of_ble_eq_true rfl) dX1_becomeLike_13 (fun H locs hP hD hS => ?_)
  have hP : va_P V.1 vwCl [(y 2, .inr (1, o1_iiiiiirrrrrrriiiii py2_0 py2_1 py2_2 py2_3 py2_4 py2_5 (y 3) (y 4) (y 5) (y 6) (y 7) (y 8) (y 9) py2_13 py2_14 py2_15 py2_16 py2_17)), (y 3, aI V 4 fy3), (y 4, aI V 4 fy4), (y 5, aI V 4 fy5), (y 6, aI V 8 fy6), (y 7, aI V 8 fy7), (y 8, aI V 8 fy8), (y 9, aI V 900 fy9), (y 42, .inr (1, o1_iiiiiirrrrrrriiiii py2_0 py2_1 py42_2 py42_3 py42_4 py42_5 (y 43) (y 44) (y 45) (y 46) (y 47) (y 48) (y 49) py42_13 py42_14 py42_15 py42_16 py42_17)), (y 43, aI V 4 fy43), (y 44, aI V 4 fy44), (y 45, aI V 4 fy45), (y 46, aI V 8 fy46), (y 47, aI V 8 fy47), (y 48, aI V 8 fy48), (y 49, aI V 900 fy49)] H := hP
  have hD := cpD hP hD
  refine lv_aload_n hx hb dX1_becomeLike_16 rfl (lv_at hl 0 rfl) ?_
  refine lv_aload_n hx hb dX1_becomeLike_17 rfl (lv_at hl 1 rfl) ?_
  refine va_get (ci := 1) (v := .int py2_2) (C := RX1) (T := TX1) (N := 18) hx hb hg inX1 hown hK hP 0 rfl rfl 2 (by decide) (hg _ q_1_42) (fun _ h9 => h9) rfl dX1_becomeLike_18 ?_
  refine va_put (ci := 1) (v := .int py2_2) (ty := .int) (C := RX1) (T := TX1) (N := 18) hx hb hg inX1 tyX1 tyX1_ok nmX1 hown hK hP hD hS 8 rfl rfl 2 (by decide) (hg _ q_1_42) (fun _ h9 => h9) rfl (by decide +kernel) rfl rfl (Nat.le_of_ble_eq_true rfl) dX1_becomeLike_21 (fun H locs hP hD hS => ?_)
  have hP : va_P V.1 vwCl [(y 2, .inr (1, o1_iiiiiirrrrrrriiiii py2_0 py2_1 py2_2 py2_3 py2_4 py2_5 (y 3) (y 4) (y 5) (y 6) (y 7) (y 8) (y 9) py2_13 py2_14 py2_15 py2_16 py2_17)), (y 3, aI V 4 fy3), (y 4, aI V 4 fy4), (y 5, aI V 4 fy5), (y 6, aI V 8 fy6), (y 7, aI V 8 fy7), (y 8, aI V 8 fy8), (y 9, aI V 900 fy9), (y 42, .inr (1, o1_iiiiiirrrrrrriiiii py2_0 py2_1 py2_2 py42_3 py42_4 py42_5 (y 43) (y 44) (y 45) (y 46) (y 47) (y 48) (y 49) py42_13 py42_14 py42_15 py42_16 py42_17)), (y 43, aI V 4 fy43), (y 44, aI V 4 fy44), (y 45, aI V 4 fy45), (y 46, aI V 8 fy46), (y 47, aI V 8 fy47), (y 48, aI V 8 fy48), (y 49, aI V 900 fy49)] H := hP
  have hD := cpD hP hD
  refine lv_aload_n hx hb dX1_becomeLike_24 rfl (lv_at hl 0 rfl) ?_
  refine lv_aload_n hx hb dX1_becomeLike_25 rfl (lv_at hl 1 rfl) ?_
  refine va_get (ci := 1) (v := .int py2_3) (C := RX1) (T := TX1) (N := 18) hx hb hg inX1 hown hK hP 0 rfl rfl 3 (by decide) (hg _ q_1_45) (fun _ h9 => h9) rfl dX1_becomeLike_26 ?_
  refine va_put (ci := 1) (v := .int py2_3) (ty := .int) (C := RX1) (T := TX1) (N := 18) hx hb hg inX1 tyX1 tyX1_ok nmX1 hown hK hP hD hS 8 rfl rfl 3 (by decide) (hg _ q_1_45) (fun _ h9 => h9) rfl (by decide +kernel) rfl rfl (Nat.le_of_ble_eq_true rfl) dX1_becomeLike_29 (fun H locs hP hD hS => ?_)
  have hP : va_P V.1 vwCl [(y 2, .inr (1, o1_iiiiiirrrrrrriiiii py2_0 py2_1 py2_2 py2_3 py2_4 py2_5 (y 3) (y 4) (y 5) (y 6) (y 7) (y 8) (y 9) py2_13 py2_14 py2_15 py2_16 py2_17)), (y 3, aI V 4 fy3), (y 4, aI V 4 fy4), (y 5, aI V 4 fy5), (y 6, aI V 8 fy6), (y 7, aI V 8 fy7), (y 8, aI V 8 fy8), (y 9, aI V 900 fy9), (y 42, .inr (1, o1_iiiiiirrrrrrriiiii py2_0 py2_1 py2_2 py2_3 py42_4 py42_5 (y 43) (y 44) (y 45) (y 46) (y 47) (y 48) (y 49) py42_13 py42_14 py42_15 py42_16 py42_17)), (y 43, aI V 4 fy43), (y 44, aI V 4 fy44), (y 45, aI V 4 fy45), (y 46, aI V 8 fy46), (y 47, aI V 8 fy47), (y 48, aI V 8 fy48), (y 49, aI V 900 fy49)] H := hP
  have hD := cpD hP hD
  refine lv_aload_n hx hb dX1_becomeLike_32 rfl (lv_at hl 0 rfl) ?_
  refine lv_aload_n hx hb dX1_becomeLike_33 rfl (lv_at hl 1 rfl) ?_
  refine va_get (ci := 1) (v := .int py2_4) (C := RX1) (T := TX1) (N := 18) hx hb hg inX1 hown hK hP 0 rfl rfl 4 (by decide) (hg _ q_1_48) (fun _ h9 => h9) rfl dX1_becomeLike_34 ?_
  refine va_put (ci := 1) (v := .int py2_4) (ty := .int) (C := RX1) (T := TX1) (N := 18) hx hb hg inX1 tyX1 tyX1_ok nmX1 hown hK hP hD hS 8 rfl rfl 4 (by decide) (hg _ q_1_48) (fun _ h9 => h9) rfl (by decide +kernel) rfl rfl (Nat.le_of_ble_eq_true rfl) dX1_becomeLike_37 (fun H locs hP hD hS => ?_)
  have hP : va_P V.1 vwCl [(y 2, .inr (1, o1_iiiiiirrrrrrriiiii py2_0 py2_1 py2_2 py2_3 py2_4 py2_5 (y 3) (y 4) (y 5) (y 6) (y 7) (y 8) (y 9) py2_13 py2_14 py2_15 py2_16 py2_17)), (y 3, aI V 4 fy3), (y 4, aI V 4 fy4), (y 5, aI V 4 fy5), (y 6, aI V 8 fy6), (y 7, aI V 8 fy7), (y 8, aI V 8 fy8), (y 9, aI V 900 fy9), (y 42, .inr (1, o1_iiiiiirrrrrrriiiii py2_0 py2_1 py2_2 py2_3 py2_4 py42_5 (y 43) (y 44) (y 45) (y 46) (y 47) (y 48) (y 49) py42_13 py42_14 py42_15 py42_16 py42_17)), (y 43, aI V 4 fy43), (y 44, aI V 4 fy44), (y 45, aI V 4 fy45), (y 46, aI V 8 fy46), (y 47, aI V 8 fy47), (y 48, aI V 8 fy48), (y 49, aI V 900 fy49)] H := hP
  have hD := cpD hP hD
  refine lv_aload_n hx hb dX1_becomeLike_40 rfl (lv_at hl 0 rfl) ?_
  refine lv_aload_n hx hb dX1_becomeLike_41 rfl (lv_at hl 1 rfl) ?_
  refine va_get (ci := 1) (v := .int py2_5) (C := RX1) (T := TX1) (N := 18) hx hb hg inX1 hown hK hP 0 rfl rfl 5 (by decide) (hg _ q_1_51) (fun _ h9 => h9) rfl dX1_becomeLike_42 ?_
  refine va_put (ci := 1) (v := .int py2_5) (ty := .int) (C := RX1) (T := TX1) (N := 18) hx hb hg inX1 tyX1 tyX1_ok nmX1 hown hK hP hD hS 8 rfl rfl 5 (by decide) (hg _ q_1_51) (fun _ h9 => h9) rfl (by decide +kernel) rfl rfl (Nat.le_of_ble_eq_true rfl) dX1_becomeLike_45 (fun H locs hP hD hS => ?_)
  have hP : va_P V.1 vwCl [(y 2, .inr (1, o1_iiiiiirrrrrrriiiii py2_0 py2_1 py2_2 py2_3 py2_4 py2_5 (y 3) (y 4) (y 5) (y 6) (y 7) (y 8) (y 9) py2_13 py2_14 py2_15 py2_16 py2_17)), (y 3, aI V 4 fy3), (y 4, aI V 4 fy4), (y 5, aI V 4 fy5), (y 6, aI V 8 fy6), (y 7, aI V 8 fy7), (y 8, aI V 8 fy8), (y 9, aI V 900 fy9), (y 42, .inr (1, o1_iiiiiirrrrrrriiiii py2_0 py2_1 py2_2 py2_3 py2_4 py2_5 (y 43) (y 44) (y 45) (y 46) (y 47) (y 48) (y 49) py42_13 py42_14 py42_15 py42_16 py42_17)), (y 43, aI V 4 fy43), (y 44, aI V 4 fy44), (y 45, aI V 4 fy45), (y 46, aI V 8 fy46), (y 47, aI V 8 fy47), (y 48, aI V 8 fy48), (y 49, aI V 900 fy49)] H := hP
  have hD := cpD hP hD
  refine lv_aload_n hx hb dX1_becomeLike_48 rfl (lv_at hl 1 rfl) ?_
  refine va_get (ci := 1) (v := .ref (y 3)) (C := RX1) (T := TX1) (N := 18) hx hb hg inX1 hown hK hP 0 rfl rfl 6 (by decide) (hg _ q_1_54) (fun _ h9 => h9) rfl dX1_becomeLike_49 ?_
  refine lv_iconst (v := 0) hx hb dX1_becomeLike_52 (by decide) ?_
  refine lv_aload_n hx hb dX1_becomeLike_53 rfl (lv_at hl 0 rfl) ?_
  refine va_get (ci := 1) (v := .ref (y 43)) (C := RX1) (T := TX1) (N := 18) hx hb hg inX1 hown hK hP 8 rfl rfl 6 (by decide) (hg _ q_1_54) (fun _ h9 => h9) rfl dX1_becomeLike_54 ?_
  refine lv_iconst (v := 0) hx hb dX1_becomeLike_57 (by decide) ?_
  refine lv_iconst (v := 4) hx hb dX1_becomeLike_58 (by decide) ?_
  refine va_copyi hx hb (hml.trans hl.1.symm) hown (hg _ q_3_100) (hg _ q_3_102) (hg _ q_3_101) (hg _ q_1_16) hK hP hD hS 1 9 0 0 rfl rfl rfl rfl rfl (by decide) (by decide) (by decide) (by decide) (by decide) (fun _ _ => rfl) (Nat.le_of_ble_eq_true rfl) (by decide +kernel) dX1_becomeLike_59 (fun H locs hP hD hS => ?_)
  obtain ⟨f_1, ef_1, hP, hD⟩ : ∃ f_1 : Nat → Int32, f_1 = va_cpy fy3 fy43 (0 : Int32).toNatClampNeg (0 : Int32).toNatClampNeg (4 : Int32).toNatClampNeg ∧ va_P V.1 vwCl [(y 2, .inr (1, o1_iiiiiirrrrrrriiiii py2_0 py2_1 py2_2 py2_3 py2_4 py2_5 (y 3) (y 4) (y 5) (y 6) (y 7) (y 8) (y 9) py2_13 py2_14 py2_15 py2_16 py2_17)), (y 3, aI V 4 fy3), (y 4, aI V 4 fy4), (y 5, aI V 4 fy5), (y 6, aI V 8 fy6), (y 7, aI V 8 fy7), (y 8, aI V 8 fy8), (y 9, aI V 900 fy9), (y 42, .inr (1, o1_iiiiiirrrrrrriiiii py2_0 py2_1 py2_2 py2_3 py2_4 py2_5 (y 43) (y 44) (y 45) (y 46) (y 47) (y 48) (y 49) py42_13 py42_14 py42_15 py42_16 py42_17)), (y 43, aI V 4 f_1), (y 44, aI V 4 fy44), (y 45, aI V 4 fy45), (y 46, aI V 8 fy46), (y 47, aI V 8 fy47), (y 48, aI V 8 fy48), (y 49, aI V 900 fy49)] H ∧ va_D A [(y 2, .inr (1, o1_iiiiiirrrrrrriiiii py2_0 py2_1 py2_2 py2_3 py2_4 py2_5 (y 3) (y 4) (y 5) (y 6) (y 7) (y 8) (y 9) py2_13 py2_14 py2_15 py2_16 py2_17)), (y 3, aI V 4 fy3), (y 4, aI V 4 fy4), (y 5, aI V 4 fy5), (y 6, aI V 8 fy6), (y 7, aI V 8 fy7), (y 8, aI V 8 fy8), (y 9, aI V 900 fy9), (y 42, .inr (1, o1_iiiiiirrrrrrriiiii py2_0 py2_1 py2_2 py2_3 py2_4 py2_5 (y 43) (y 44) (y 45) (y 46) (y 47) (y 48) (y 49) py42_13 py42_14 py42_15 py42_16 py42_17)), (y 43, aI V 4 f_1), (y 44, aI V 4 fy44), (y 45, aI V 4 fy45), (y 46, aI V 8 fy46), (y 47, aI V 8 fy47), (y 48, aI V 8 fy48), (y 49, aI V 900 fy49)] := ⟨_, rfl, hP, hD⟩
  replace hR := tb hR ef_1
  refine lv_aload_n hx hb dX1_becomeLike_62 rfl (lv_at hl 1 rfl) ?_
  refine va_get (ci := 1) (v := .ref (y 4)) (C := RX1) (T := TX1) (N := 18) hx hb hg inX1 hown hK hP 0 rfl rfl 7 (by decide) (hg _ q_1_58) (fun _ h9 => h9) rfl dX1_becomeLike_63 ?_
  refine lv_iconst (v := 0) hx hb dX1_becomeLike_66 (by decide) ?_
  refine lv_aload_n hx hb dX1_becomeLike_67 rfl (lv_at hl 0 rfl) ?_
  refine va_get (ci := 1) (v := .ref (y 44)) (C := RX1) (T := TX1) (N := 18) hx hb hg inX1 hown hK hP 8 rfl rfl 7 (by decide) (hg _ q_1_58) (fun _ h9 => h9) rfl dX1_becomeLike_68 ?_
  refine lv_iconst (v := 0) hx hb dX1_becomeLike_71 (by decide) ?_
  refine lv_iconst (v := 4) hx hb dX1_becomeLike_72 (by decide) ?_
  refine va_copyi hx hb (hml.trans hl.1.symm) hown (hg _ q_3_100) (hg _ q_3_102) (hg _ q_3_101) (hg _ q_1_16) hK hP hD hS 2 10 0 0 rfl rfl rfl rfl rfl (by decide) (by decide) (by decide) (by decide) (by decide) (fun _ _ => rfl) (Nat.le_of_ble_eq_true rfl) (by decide +kernel) dX1_becomeLike_73 (fun H locs hP hD hS => ?_)
  obtain ⟨f_2, ef_2, hP, hD⟩ : ∃ f_2 : Nat → Int32, f_2 = va_cpy fy4 fy44 (0 : Int32).toNatClampNeg (0 : Int32).toNatClampNeg (4 : Int32).toNatClampNeg ∧ va_P V.1 vwCl [(y 2, .inr (1, o1_iiiiiirrrrrrriiiii py2_0 py2_1 py2_2 py2_3 py2_4 py2_5 (y 3) (y 4) (y 5) (y 6) (y 7) (y 8) (y 9) py2_13 py2_14 py2_15 py2_16 py2_17)), (y 3, aI V 4 fy3), (y 4, aI V 4 fy4), (y 5, aI V 4 fy5), (y 6, aI V 8 fy6), (y 7, aI V 8 fy7), (y 8, aI V 8 fy8), (y 9, aI V 900 fy9), (y 42, .inr (1, o1_iiiiiirrrrrrriiiii py2_0 py2_1 py2_2 py2_3 py2_4 py2_5 (y 43) (y 44) (y 45) (y 46) (y 47) (y 48) (y 49) py42_13 py42_14 py42_15 py42_16 py42_17)), (y 43, aI V 4 f_1), (y 44, aI V 4 f_2), (y 45, aI V 4 fy45), (y 46, aI V 8 fy46), (y 47, aI V 8 fy47), (y 48, aI V 8 fy48), (y 49, aI V 900 fy49)] H ∧ va_D A [(y 2, .inr (1, o1_iiiiiirrrrrrriiiii py2_0 py2_1 py2_2 py2_3 py2_4 py2_5 (y 3) (y 4) (y 5) (y 6) (y 7) (y 8) (y 9) py2_13 py2_14 py2_15 py2_16 py2_17)), (y 3, aI V 4 fy3), (y 4, aI V 4 fy4), (y 5, aI V 4 fy5), (y 6, aI V 8 fy6), (y 7, aI V 8 fy7), (y 8, aI V 8 fy8), (y 9, aI V 900 fy9), (y 42, .inr (1, o1_iiiiiirrrrrrriiiii py2_0 py2_1 py2_2 py2_3 py2_4 py2_5 (y 43) (y 44) (y 45) (y 46) (y 47) (y 48) (y 49) py42_13 py42_14 py42_15 py42_16 py42_17)), (y 43, aI V 4 f_1), (y 44, aI V 4 f_2), (y 45, aI V 4 fy45), (y 46, aI V 8 fy46), (y 47, aI V 8 fy47), (y 48, aI V 8 fy48), (y 49, aI V 900 fy49)] := ⟨_, rfl, hP, hD⟩
  replace hR := tb hR ef_2
  refine lv_aload_n hx hb dX1_becomeLike_76 rfl (lv_at hl 1 rfl) ?_
  refine va_get (ci := 1) (v := .ref (y 5)) (C := RX1) (T := TX1) (N := 18) hx hb hg inX1 hown hK hP 0 rfl rfl 8 (by decide) (hg _ q_1_61) (fun _ h9 => h9) rfl dX1_becomeLike_77 ?_
  refine lv_iconst (v := 0) hx hb dX1_becomeLike_80 (by decide) ?_
  refine lv_aload_n hx hb dX1_becomeLike_81 rfl (lv_at hl 0 rfl) ?_
  refine va_get (ci := 1) (v := .ref (y 45)) (C := RX1) (T := TX1) (N := 18) hx hb hg inX1 hown hK hP 8 rfl rfl 8 (by decide) (hg _ q_1_61) (fun _ h9 => h9) rfl dX1_becomeLike_82 ?_
  refine lv_iconst (v := 0) hx hb dX1_becomeLike_85 (by decide) ?_
  refine lv_iconst (v := 4) hx hb dX1_becomeLike_86 (by decide) ?_
  refine va_copyi hx hb (hml.trans hl.1.symm) hown (hg _ q_3_100) (hg _ q_3_102) (hg _ q_3_101) (hg _ q_1_16) hK hP hD hS 3 11 0 0 rfl rfl rfl rfl rfl (by decide) (by decide) (by decide) (by decide) (by decide) (fun _ _ => rfl) (Nat.le_of_ble_eq_true rfl) (by decide +kernel) dX1_becomeLike_87 (fun H locs hP hD hS => ?_)
  obtain ⟨f_3, ef_3, hP, hD⟩ : ∃ f_3 : Nat → Int32, f_3 = va_cpy fy5 fy45 (0 : Int32).toNatClampNeg (0 : Int32).toNatClampNeg (4 : Int32).toNatClampNeg ∧ va_P V.1 vwCl [(y 2, .inr (1, o1_iiiiiirrrrrrriiiii py2_0 py2_1 py2_2 py2_3 py2_4 py2_5 (y 3) (y 4) (y 5) (y 6) (y 7) (y 8) (y 9) py2_13 py2_14 py2_15 py2_16 py2_17)), (y 3, aI V 4 fy3), (y 4, aI V 4 fy4), (y 5, aI V 4 fy5), (y 6, aI V 8 fy6), (y 7, aI V 8 fy7), (y 8, aI V 8 fy8), (y 9, aI V 900 fy9), (y 42, .inr (1, o1_iiiiiirrrrrrriiiii py2_0 py2_1 py2_2 py2_3 py2_4 py2_5 (y 43) (y 44) (y 45) (y 46) (y 47) (y 48) (y 49) py42_13 py42_14 py42_15 py42_16 py42_17)), (y 43, aI V 4 f_1), (y 44, aI V 4 f_2), (y 45, aI V 4 f_3), (y 46, aI V 8 fy46), (y 47, aI V 8 fy47), (y 48, aI V 8 fy48), (y 49, aI V 900 fy49)] H ∧ va_D A [(y 2, .inr (1, o1_iiiiiirrrrrrriiiii py2_0 py2_1 py2_2 py2_3 py2_4 py2_5 (y 3) (y 4) (y 5) (y 6) (y 7) (y 8) (y 9) py2_13 py2_14 py2_15 py2_16 py2_17)), (y 3, aI V 4 fy3), (y 4, aI V 4 fy4), (y 5, aI V 4 fy5), (y 6, aI V 8 fy6), (y 7, aI V 8 fy7), (y 8, aI V 8 fy8), (y 9, aI V 900 fy9), (y 42, .inr (1, o1_iiiiiirrrrrrriiiii py2_0 py2_1 py2_2 py2_3 py2_4 py2_5 (y 43) (y 44) (y 45) (y 46) (y 47) (y 48) (y 49) py42_13 py42_14 py42_15 py42_16 py42_17)), (y 43, aI V 4 f_1), (y 44, aI V 4 f_2), (y 45, aI V 4 f_3), (y 46, aI V 8 fy46), (y 47, aI V 8 fy47), (y 48, aI V 8 fy48), (y 49, aI V 900 fy49)] := ⟨_, rfl, hP, hD⟩
  replace hR := tb hR ef_3
  refine lv_aload_n hx hb dX1_becomeLike_90 rfl (lv_at hl 1 rfl) ?_
  refine va_get (ci := 1) (v := .ref (y 6)) (C := RX1) (T := TX1) (N := 18) hx hb hg inX1 hown hK hP 0 rfl rfl 9 (by decide) (hg _ q_1_64) (fun _ h9 => h9) rfl dX1_becomeLike_91 ?_
  refine lv_iconst (v := 0) hx hb dX1_becomeLike_94 (by decide) ?_
  refine lv_aload_n hx hb dX1_becomeLike_95 rfl (lv_at hl 0 rfl) ?_
  refine va_get (ci := 1) (v := .ref (y 46)) (C := RX1) (T := TX1) (N := 18) hx hb hg inX1 hown hK hP 8 rfl rfl 9 (by decide) (hg _ q_1_64) (fun _ h9 => h9) rfl dX1_becomeLike_96 ?_
  refine lv_iconst (v := 0) hx hb dX1_becomeLike_99 (by decide) ?_
  refine lv_bipush (v := 8) hx hb dX1_becomeLike_100 (by decide) ?_
  refine va_copyi hx hb (hml.trans hl.1.symm) hown (hg _ q_3_100) (hg _ q_3_102) (hg _ q_3_101) (hg _ q_1_16) hK hP hD hS 4 12 0 0 rfl rfl rfl rfl rfl (by decide) (by decide) (by decide) (by decide) (by decide) (fun _ _ => rfl) (Nat.le_of_ble_eq_true rfl) (by decide +kernel) dX1_becomeLike_102 (fun H locs hP hD hS => ?_)
  obtain ⟨f_4, ef_4, hP, hD⟩ : ∃ f_4 : Nat → Int32, f_4 = va_cpy fy6 fy46 (0 : Int32).toNatClampNeg (0 : Int32).toNatClampNeg (8 : Int32).toNatClampNeg ∧ va_P V.1 vwCl [(y 2, .inr (1, o1_iiiiiirrrrrrriiiii py2_0 py2_1 py2_2 py2_3 py2_4 py2_5 (y 3) (y 4) (y 5) (y 6) (y 7) (y 8) (y 9) py2_13 py2_14 py2_15 py2_16 py2_17)), (y 3, aI V 4 fy3), (y 4, aI V 4 fy4), (y 5, aI V 4 fy5), (y 6, aI V 8 fy6), (y 7, aI V 8 fy7), (y 8, aI V 8 fy8), (y 9, aI V 900 fy9), (y 42, .inr (1, o1_iiiiiirrrrrrriiiii py2_0 py2_1 py2_2 py2_3 py2_4 py2_5 (y 43) (y 44) (y 45) (y 46) (y 47) (y 48) (y 49) py42_13 py42_14 py42_15 py42_16 py42_17)), (y 43, aI V 4 f_1), (y 44, aI V 4 f_2), (y 45, aI V 4 f_3), (y 46, aI V 8 f_4), (y 47, aI V 8 fy47), (y 48, aI V 8 fy48), (y 49, aI V 900 fy49)] H ∧ va_D A [(y 2, .inr (1, o1_iiiiiirrrrrrriiiii py2_0 py2_1 py2_2 py2_3 py2_4 py2_5 (y 3) (y 4) (y 5) (y 6) (y 7) (y 8) (y 9) py2_13 py2_14 py2_15 py2_16 py2_17)), (y 3, aI V 4 fy3), (y 4, aI V 4 fy4), (y 5, aI V 4 fy5), (y 6, aI V 8 fy6), (y 7, aI V 8 fy7), (y 8, aI V 8 fy8), (y 9, aI V 900 fy9), (y 42, .inr (1, o1_iiiiiirrrrrrriiiii py2_0 py2_1 py2_2 py2_3 py2_4 py2_5 (y 43) (y 44) (y 45) (y 46) (y 47) (y 48) (y 49) py42_13 py42_14 py42_15 py42_16 py42_17)), (y 43, aI V 4 f_1), (y 44, aI V 4 f_2), (y 45, aI V 4 f_3), (y 46, aI V 8 f_4), (y 47, aI V 8 fy47), (y 48, aI V 8 fy48), (y 49, aI V 900 fy49)] := ⟨_, rfl, hP, hD⟩
  replace hR := tb hR ef_4
  refine lv_aload_n hx hb dX1_becomeLike_105 rfl (lv_at hl 1 rfl) ?_
  refine va_get (ci := 1) (v := .ref (y 7)) (C := RX1) (T := TX1) (N := 18) hx hb hg inX1 hown hK hP 0 rfl rfl 10 (by decide) (hg _ q_1_66) (fun _ h9 => h9) rfl dX1_becomeLike_106 ?_
  refine lv_iconst (v := 0) hx hb dX1_becomeLike_109 (by decide) ?_
  refine lv_aload_n hx hb dX1_becomeLike_110 rfl (lv_at hl 0 rfl) ?_
  refine va_get (ci := 1) (v := .ref (y 47)) (C := RX1) (T := TX1) (N := 18) hx hb hg inX1 hown hK hP 8 rfl rfl 10 (by decide) (hg _ q_1_66) (fun _ h9 => h9) rfl dX1_becomeLike_111 ?_
  refine lv_iconst (v := 0) hx hb dX1_becomeLike_114 (by decide) ?_
  refine lv_bipush (v := 8) hx hb dX1_becomeLike_115 (by decide) ?_
  refine va_copyi hx hb (hml.trans hl.1.symm) hown (hg _ q_3_100) (hg _ q_3_102) (hg _ q_3_101) (hg _ q_1_16) hK hP hD hS 5 13 0 0 rfl rfl rfl rfl rfl (by decide) (by decide) (by decide) (by decide) (by decide) (fun _ _ => rfl) (Nat.le_of_ble_eq_true rfl) (by decide +kernel) dX1_becomeLike_117 (fun H locs hP hD hS => ?_)
  obtain ⟨f_5, ef_5, hP, hD⟩ : ∃ f_5 : Nat → Int32, f_5 = va_cpy fy7 fy47 (0 : Int32).toNatClampNeg (0 : Int32).toNatClampNeg (8 : Int32).toNatClampNeg ∧ va_P V.1 vwCl [(y 2, .inr (1, o1_iiiiiirrrrrrriiiii py2_0 py2_1 py2_2 py2_3 py2_4 py2_5 (y 3) (y 4) (y 5) (y 6) (y 7) (y 8) (y 9) py2_13 py2_14 py2_15 py2_16 py2_17)), (y 3, aI V 4 fy3), (y 4, aI V 4 fy4), (y 5, aI V 4 fy5), (y 6, aI V 8 fy6), (y 7, aI V 8 fy7), (y 8, aI V 8 fy8), (y 9, aI V 900 fy9), (y 42, .inr (1, o1_iiiiiirrrrrrriiiii py2_0 py2_1 py2_2 py2_3 py2_4 py2_5 (y 43) (y 44) (y 45) (y 46) (y 47) (y 48) (y 49) py42_13 py42_14 py42_15 py42_16 py42_17)), (y 43, aI V 4 f_1), (y 44, aI V 4 f_2), (y 45, aI V 4 f_3), (y 46, aI V 8 f_4), (y 47, aI V 8 f_5), (y 48, aI V 8 fy48), (y 49, aI V 900 fy49)] H ∧ va_D A [(y 2, .inr (1, o1_iiiiiirrrrrrriiiii py2_0 py2_1 py2_2 py2_3 py2_4 py2_5 (y 3) (y 4) (y 5) (y 6) (y 7) (y 8) (y 9) py2_13 py2_14 py2_15 py2_16 py2_17)), (y 3, aI V 4 fy3), (y 4, aI V 4 fy4), (y 5, aI V 4 fy5), (y 6, aI V 8 fy6), (y 7, aI V 8 fy7), (y 8, aI V 8 fy8), (y 9, aI V 900 fy9), (y 42, .inr (1, o1_iiiiiirrrrrrriiiii py2_0 py2_1 py2_2 py2_3 py2_4 py2_5 (y 43) (y 44) (y 45) (y 46) (y 47) (y 48) (y 49) py42_13 py42_14 py42_15 py42_16 py42_17)), (y 43, aI V 4 f_1), (y 44, aI V 4 f_2), (y 45, aI V 4 f_3), (y 46, aI V 8 f_4), (y 47, aI V 8 f_5), (y 48, aI V 8 fy48), (y 49, aI V 900 fy49)] := ⟨_, rfl, hP, hD⟩
  replace hR := tb hR ef_5
  refine lv_aload_n hx hb dX1_becomeLike_120 rfl (lv_at hl 1 rfl) ?_
  refine va_get (ci := 1) (v := .ref (y 8)) (C := RX1) (T := TX1) (N := 18) hx hb hg inX1 hown hK hP 0 rfl rfl 11 (by decide) (hg _ q_1_68) (fun _ h9 => h9) rfl dX1_becomeLike_121 ?_
  refine lv_iconst (v := 0) hx hb dX1_becomeLike_124 (by decide) ?_
  refine lv_aload_n hx hb dX1_becomeLike_125 rfl (lv_at hl 0 rfl) ?_
  refine va_get (ci := 1) (v := .ref (y 48)) (C := RX1) (T := TX1) (N := 18) hx hb hg inX1 hown hK hP 8 rfl rfl 11 (by decide) (hg _ q_1_68) (fun _ h9 => h9) rfl dX1_becomeLike_126 ?_
  refine lv_iconst (v := 0) hx hb dX1_becomeLike_129 (by decide) ?_
  refine lv_bipush (v := 8) hx hb dX1_becomeLike_130 (by decide) ?_
  refine va_copyi hx hb (hml.trans hl.1.symm) hown (hg _ q_3_100) (hg _ q_3_102) (hg _ q_3_101) (hg _ q_1_16) hK hP hD hS 6 14 0 0 rfl rfl rfl rfl rfl (by decide) (by decide) (by decide) (by decide) (by decide) (fun _ _ => rfl) (Nat.le_of_ble_eq_true rfl) (by decide +kernel) dX1_becomeLike_132 (fun H locs hP hD hS => ?_)
  obtain ⟨f_6, ef_6, hP, hD⟩ : ∃ f_6 : Nat → Int32, f_6 = va_cpy fy8 fy48 (0 : Int32).toNatClampNeg (0 : Int32).toNatClampNeg (8 : Int32).toNatClampNeg ∧ va_P V.1 vwCl [(y 2, .inr (1, o1_iiiiiirrrrrrriiiii py2_0 py2_1 py2_2 py2_3 py2_4 py2_5 (y 3) (y 4) (y 5) (y 6) (y 7) (y 8) (y 9) py2_13 py2_14 py2_15 py2_16 py2_17)), (y 3, aI V 4 fy3), (y 4, aI V 4 fy4), (y 5, aI V 4 fy5), (y 6, aI V 8 fy6), (y 7, aI V 8 fy7), (y 8, aI V 8 fy8), (y 9, aI V 900 fy9), (y 42, .inr (1, o1_iiiiiirrrrrrriiiii py2_0 py2_1 py2_2 py2_3 py2_4 py2_5 (y 43) (y 44) (y 45) (y 46) (y 47) (y 48) (y 49) py42_13 py42_14 py42_15 py42_16 py42_17)), (y 43, aI V 4 f_1), (y 44, aI V 4 f_2), (y 45, aI V 4 f_3), (y 46, aI V 8 f_4), (y 47, aI V 8 f_5), (y 48, aI V 8 f_6), (y 49, aI V 900 fy49)] H ∧ va_D A [(y 2, .inr (1, o1_iiiiiirrrrrrriiiii py2_0 py2_1 py2_2 py2_3 py2_4 py2_5 (y 3) (y 4) (y 5) (y 6) (y 7) (y 8) (y 9) py2_13 py2_14 py2_15 py2_16 py2_17)), (y 3, aI V 4 fy3), (y 4, aI V 4 fy4), (y 5, aI V 4 fy5), (y 6, aI V 8 fy6), (y 7, aI V 8 fy7), (y 8, aI V 8 fy8), (y 9, aI V 900 fy9), (y 42, .inr (1, o1_iiiiiirrrrrrriiiii py2_0 py2_1 py2_2 py2_3 py2_4 py2_5 (y 43) (y 44) (y 45) (y 46) (y 47) (y 48) (y 49) py42_13 py42_14 py42_15 py42_16 py42_17)), (y 43, aI V 4 f_1), (y 44, aI V 4 f_2), (y 45, aI V 4 f_3), (y 46, aI V 8 f_4), (y 47, aI V 8 f_5), (y 48, aI V 8 f_6), (y 49, aI V 900 fy49)] := ⟨_, rfl, hP, hD⟩
  replace hR := tb hR ef_6
  refine lv_aload_n hx hb dX1_becomeLike_135 rfl (lv_at hl 1 rfl) ?_
  refine va_get (ci := 1) (v := .ref (y 9)) (C := RX1) (T := TX1) (N := 18) hx hb hg inX1 hown hK hP 0 rfl rfl 12 (by decide) (hg _ q_1_70) (fun _ h9 => h9) rfl dX1_becomeLike_136 ?_
  refine lv_iconst (v := 0) hx hb dX1_becomeLike_139 (by decide) ?_
  refine lv_aload_n hx hb dX1_becomeLike_140 rfl (lv_at hl 0 rfl) ?_
  refine va_get (ci := 1) (v := .ref (y 49)) (C := RX1) (T := TX1) (N := 18) hx hb hg inX1 hown hK hP 8 rfl rfl 12 (by decide) (hg _ q_1_70) (fun _ h9 => h9) rfl dX1_becomeLike_141 ?_
  refine lv_iconst (v := 0) hx hb dX1_becomeLike_144 (by decide) ?_
  refine lv_aload_n hx hb dX1_becomeLike_145 rfl (lv_at hl 1 rfl) ?_
  refine va_get (ci := 1) (v := .int py2_13) (C := RX1) (T := TX1) (N := 18) hx hb hg inX1 hown hK hP 0 rfl rfl 13 (by decide) (hg _ q_1_73) (fun _ h9 => h9) rfl dX1_becomeLike_146 ?_
  refine va_copyi hx hb (hml.trans hl.1.symm) hown (hg _ q_3_100) (hg _ q_3_102) (hg _ q_3_101) (hg _ q_1_16) hK hP hD hS 7 15 0 0 rfl rfl rfl rfl rfl (by decide) (by decide) (iv_n0lt bpy2_13 (by decide)) (iv_cl bpy2_13 (by decide)) (iv_cl bpy2_13 (by decide)) (fun _ _ => rfl) (Nat.le_of_ble_eq_true rfl) (by decide +kernel) dX1_becomeLike_149 (fun H locs hP hD hS => ?_)
  obtain ⟨f_7, ef_7, hP, hD⟩ : ∃ f_7 : Nat → Int32, f_7 = va_cpy fy9 fy49 (0 : Int32).toNatClampNeg (0 : Int32).toNatClampNeg (py2_13 : Int32).toNatClampNeg ∧ va_P V.1 vwCl [(y 2, .inr (1, o1_iiiiiirrrrrrriiiii py2_0 py2_1 py2_2 py2_3 py2_4 py2_5 (y 3) (y 4) (y 5) (y 6) (y 7) (y 8) (y 9) py2_13 py2_14 py2_15 py2_16 py2_17)), (y 3, aI V 4 fy3), (y 4, aI V 4 fy4), (y 5, aI V 4 fy5), (y 6, aI V 8 fy6), (y 7, aI V 8 fy7), (y 8, aI V 8 fy8), (y 9, aI V 900 fy9), (y 42, .inr (1, o1_iiiiiirrrrrrriiiii py2_0 py2_1 py2_2 py2_3 py2_4 py2_5 (y 43) (y 44) (y 45) (y 46) (y 47) (y 48) (y 49) py42_13 py42_14 py42_15 py42_16 py42_17)), (y 43, aI V 4 f_1), (y 44, aI V 4 f_2), (y 45, aI V 4 f_3), (y 46, aI V 8 f_4), (y 47, aI V 8 f_5), (y 48, aI V 8 f_6), (y 49, aI V 900 f_7)] H ∧ va_D A [(y 2, .inr (1, o1_iiiiiirrrrrrriiiii py2_0 py2_1 py2_2 py2_3 py2_4 py2_5 (y 3) (y 4) (y 5) (y 6) (y 7) (y 8) (y 9) py2_13 py2_14 py2_15 py2_16 py2_17)), (y 3, aI V 4 fy3), (y 4, aI V 4 fy4), (y 5, aI V 4 fy5), (y 6, aI V 8 fy6), (y 7, aI V 8 fy7), (y 8, aI V 8 fy8), (y 9, aI V 900 fy9), (y 42, .inr (1, o1_iiiiiirrrrrrriiiii py2_0 py2_1 py2_2 py2_3 py2_4 py2_5 (y 43) (y 44) (y 45) (y 46) (y 47) (y 48) (y 49) py42_13 py42_14 py42_15 py42_16 py42_17)), (y 43, aI V 4 f_1), (y 44, aI V 4 f_2), (y 45, aI V 4 f_3), (y 46, aI V 8 f_4), (y 47, aI V 8 f_5), (y 48, aI V 8 f_6), (y 49, aI V 900 f_7)] := ⟨_, rfl, hP, hD⟩
  replace hR := tb hR ef_7
  refine lv_aload_n hx hb dX1_becomeLike_152 rfl (lv_at hl 0 rfl) ?_
  refine lv_aload_n hx hb dX1_becomeLike_153 rfl (lv_at hl 1 rfl) ?_
  refine va_get (ci := 1) (v := .int py2_13) (C := RX1) (T := TX1) (N := 18) hx hb hg inX1 hown hK hP 0 rfl rfl 13 (by decide) (hg _ q_1_73) (fun _ h9 => h9) rfl dX1_becomeLike_154 ?_
  refine va_put (ci := 1) (v := .int py2_13) (ty := .int) (C := RX1) (T := TX1) (N := 18) hx hb hg inX1 tyX1 tyX1_ok nmX1 hown hK hP hD hS 8 rfl rfl 13 (by decide) (hg _ q_1_73) (fun _ h9 => h9) rfl (by decide +kernel) rfl rfl (Nat.le_of_ble_eq_true rfl) dX1_becomeLike_157 (fun H locs hP hD hS => ?_)
  have hP : va_P V.1 vwCl [(y 2, .inr (1, o1_iiiiiirrrrrrriiiii py2_0 py2_1 py2_2 py2_3 py2_4 py2_5 (y 3) (y 4) (y 5) (y 6) (y 7) (y 8) (y 9) py2_13 py2_14 py2_15 py2_16 py2_17)), (y 3, aI V 4 fy3), (y 4, aI V 4 fy4), (y 5, aI V 4 fy5), (y 6, aI V 8 fy6), (y 7, aI V 8 fy7), (y 8, aI V 8 fy8), (y 9, aI V 900 fy9), (y 42, .inr (1, o1_iiiiiirrrrrrriiiii py2_0 py2_1 py2_2 py2_3 py2_4 py2_5 (y 43) (y 44) (y 45) (y 46) (y 47) (y 48) (y 49) py2_13 py42_14 py42_15 py42_16 py42_17)), (y 43, aI V 4 f_1), (y 44, aI V 4 f_2), (y 45, aI V 4 f_3), (y 46, aI V 8 f_4), (y 47, aI V 8 f_5), (y 48, aI V 8 f_6), (y 49, aI V 900 f_7)] H := hP
  have hD := cpD hP hD
  refine lv_aload_n hx hb dX1_becomeLike_160 rfl (lv_at hl 0 rfl) ?_
  refine lv_aload_n hx hb dX1_becomeLike_161 rfl (lv_at hl 1 rfl) ?_
  refine va_get (ci := 1) (v := .int py2_14) (C := RX1) (T := TX1) (N := 18) hx hb hg inX1 hown hK hP 0 rfl rfl 14 (by decide) (hg _ q_1_75) (fun _ h9 => h9) rfl dX1_becomeLike_162 ?_
  refine va_put (ci := 1) (v := .int py2_14) (ty := .int) (C := RX1) (T := TX1) (N := 18) hx hb hg inX1 tyX1 tyX1_ok nmX1 hown hK hP hD hS 8 rfl rfl 14 (by decide) (hg _ q_1_75) (fun _ h9 => h9) rfl (by decide +kernel) rfl rfl (Nat.le_of_ble_eq_true rfl) dX1_becomeLike_165 (fun H locs hP hD hS => ?_)
  have hP : va_P V.1 vwCl [(y 2, .inr (1, o1_iiiiiirrrrrrriiiii py2_0 py2_1 py2_2 py2_3 py2_4 py2_5 (y 3) (y 4) (y 5) (y 6) (y 7) (y 8) (y 9) py2_13 py2_14 py2_15 py2_16 py2_17)), (y 3, aI V 4 fy3), (y 4, aI V 4 fy4), (y 5, aI V 4 fy5), (y 6, aI V 8 fy6), (y 7, aI V 8 fy7), (y 8, aI V 8 fy8), (y 9, aI V 900 fy9), (y 42, .inr (1, o1_iiiiiirrrrrrriiiii py2_0 py2_1 py2_2 py2_3 py2_4 py2_5 (y 43) (y 44) (y 45) (y 46) (y 47) (y 48) (y 49) py2_13 py2_14 py42_15 py42_16 py42_17)), (y 43, aI V 4 f_1), (y 44, aI V 4 f_2), (y 45, aI V 4 f_3), (y 46, aI V 8 f_4), (y 47, aI V 8 f_5), (y 48, aI V 8 f_6), (y 49, aI V 900 f_7)] H := hP
  have hD := cpD hP hD
  refine lv_aload_n hx hb dX1_becomeLike_168 rfl (lv_at hl 0 rfl) ?_
  refine lv_aload_n hx hb dX1_becomeLike_169 rfl (lv_at hl 1 rfl) ?_
  refine va_get (ci := 1) (v := .int py2_15) (C := RX1) (T := TX1) (N := 18) hx hb hg inX1 hown hK hP 0 rfl rfl 15 (by decide) (hg _ q_1_78) (fun _ h9 => h9) rfl dX1_becomeLike_170 ?_
  refine va_put (ci := 1) (v := .int py2_15) (ty := .int) (C := RX1) (T := TX1) (N := 18) hx hb hg inX1 tyX1 tyX1_ok nmX1 hown hK hP hD hS 8 rfl rfl 15 (by decide) (hg _ q_1_78) (fun _ h9 => h9) rfl (by decide +kernel) rfl rfl (Nat.le_of_ble_eq_true rfl) dX1_becomeLike_173 (fun H locs hP hD hS => ?_)
  have hP : va_P V.1 vwCl [(y 2, .inr (1, o1_iiiiiirrrrrrriiiii py2_0 py2_1 py2_2 py2_3 py2_4 py2_5 (y 3) (y 4) (y 5) (y 6) (y 7) (y 8) (y 9) py2_13 py2_14 py2_15 py2_16 py2_17)), (y 3, aI V 4 fy3), (y 4, aI V 4 fy4), (y 5, aI V 4 fy5), (y 6, aI V 8 fy6), (y 7, aI V 8 fy7), (y 8, aI V 8 fy8), (y 9, aI V 900 fy9), (y 42, .inr (1, o1_iiiiiirrrrrrriiiii py2_0 py2_1 py2_2 py2_3 py2_4 py2_5 (y 43) (y 44) (y 45) (y 46) (y 47) (y 48) (y 49) py2_13 py2_14 py2_15 py42_16 py42_17)), (y 43, aI V 4 f_1), (y 44, aI V 4 f_2), (y 45, aI V 4 f_3), (y 46, aI V 8 f_4), (y 47, aI V 8 f_5), (y 48, aI V 8 f_6), (y 49, aI V 900 f_7)] H := hP
  have hD := cpD hP hD
  refine lv_aload_n hx hb dX1_becomeLike_176 rfl (lv_at hl 0 rfl) ?_
  refine lv_aload_n hx hb dX1_becomeLike_177 rfl (lv_at hl 1 rfl) ?_
  refine va_get (ci := 1) (v := .int py2_16) (C := RX1) (T := TX1) (N := 18) hx hb hg inX1 hown hK hP 0 rfl rfl 16 (by decide) (hg _ q_1_81) (fun _ h9 => h9) rfl dX1_becomeLike_178 ?_
  refine va_put (ci := 1) (v := .int py2_16) (ty := .int) (C := RX1) (T := TX1) (N := 18) hx hb hg inX1 tyX1 tyX1_ok nmX1 hown hK hP hD hS 8 rfl rfl 16 (by decide) (hg _ q_1_81) (fun _ h9 => h9) rfl (by decide +kernel) rfl rfl (Nat.le_of_ble_eq_true rfl) dX1_becomeLike_181 (fun H locs hP hD hS => ?_)
  have hP : va_P V.1 vwCl [(y 2, .inr (1, o1_iiiiiirrrrrrriiiii py2_0 py2_1 py2_2 py2_3 py2_4 py2_5 (y 3) (y 4) (y 5) (y 6) (y 7) (y 8) (y 9) py2_13 py2_14 py2_15 py2_16 py2_17)), (y 3, aI V 4 fy3), (y 4, aI V 4 fy4), (y 5, aI V 4 fy5), (y 6, aI V 8 fy6), (y 7, aI V 8 fy7), (y 8, aI V 8 fy8), (y 9, aI V 900 fy9), (y 42, .inr (1, o1_iiiiiirrrrrrriiiii py2_0 py2_1 py2_2 py2_3 py2_4 py2_5 (y 43) (y 44) (y 45) (y 46) (y 47) (y 48) (y 49) py2_13 py2_14 py2_15 py2_16 py42_17)), (y 43, aI V 4 f_1), (y 44, aI V 4 f_2), (y 45, aI V 4 f_3), (y 46, aI V 8 f_4), (y 47, aI V 8 f_5), (y 48, aI V 8 f_6), (y 49, aI V 900 f_7)] H := hP
  have hD := cpD hP hD
  refine lv_aload_n hx hb dX1_becomeLike_184 rfl (lv_at hl 0 rfl) ?_
  refine lv_aload_n hx hb dX1_becomeLike_185 rfl (lv_at hl 1 rfl) ?_
  refine va_get (ci := 1) (v := .int py2_17) (C := RX1) (T := TX1) (N := 18) hx hb hg inX1 hown hK hP 0 rfl rfl 17 (by decide) (hg _ q_1_84) (fun _ h9 => h9) rfl dX1_becomeLike_186 ?_
  refine va_put (ci := 1) (v := .int py2_17) (ty := .int) (C := RX1) (T := TX1) (N := 18) hx hb hg inX1 tyX1 tyX1_ok nmX1 hown hK hP hD hS 8 rfl rfl 17 (by decide) (hg _ q_1_84) (fun _ h9 => h9) rfl (by decide +kernel) rfl rfl (Nat.le_of_ble_eq_true rfl) dX1_becomeLike_189 (fun H locs hP hD hS => ?_)
  have hP : va_P V.1 vwCl [(y 2, .inr (1, o1_iiiiiirrrrrrriiiii py2_0 py2_1 py2_2 py2_3 py2_4 py2_5 (y 3) (y 4) (y 5) (y 6) (y 7) (y 8) (y 9) py2_13 py2_14 py2_15 py2_16 py2_17)), (y 3, aI V 4 fy3), (y 4, aI V 4 fy4), (y 5, aI V 4 fy5), (y 6, aI V 8 fy6), (y 7, aI V 8 fy7), (y 8, aI V 8 fy8), (y 9, aI V 900 fy9), (y 42, .inr (1, o1_iiiiiirrrrrrriiiii py2_0 py2_1 py2_2 py2_3 py2_4 py2_5 (y 43) (y 44) (y 45) (y 46) (y 47) (y 48) (y 49) py2_13 py2_14 py2_15 py2_16 py2_17)), (y 43, aI V 4 f_1), (y 44, aI V 4 f_2), (y 45, aI V 4 f_3), (y 46, aI V 8 f_4), (y 47, aI V 8 f_5), (y 48, aI V 8 f_6), (y 49, aI V 900 f_7)] H := hP
  have hD := cpD hP hD
  exact fiV hx hb hr hlk hK hP hD hS dX1_becomeLike_192 (Nat.le_of_ble_eq_true rfl) (Nat.le_of_ble_eq_true rfl) (⟨py2_0, py2_1, py2_2, py2_3, py2_4, py2_5, py2_13, py2_14, py2_15, py2_16, py2_17, f_1, f_2, f_3, f_4, f_5, f_6, f_7, bpy2_1, bpy2_2, bpy2_3, bpy2_4, bpy2_5, bpy2_13, bpy2_14, bpy2_15, bpy2_16, bpy2_17, rfl, (congrArg Prod.fst (hR.symm.trans hT0)), (congrArg Prod.fst (congrArg Prod.snd (hR.symm.trans hT0))), (congrArg Prod.fst (congrArg Prod.snd (congrArg Prod.snd (hR.symm.trans hT0)))), (congrArg Prod.fst (congrArg Prod.snd (congrArg Prod.snd (congrArg Prod.snd (hR.symm.trans hT0))))), (congrArg Prod.fst (congrArg Prod.snd (congrArg Prod.snd (congrArg Prod.snd (congrArg Prod.snd (hR.symm.trans hT0)))))), (congrArg Prod.fst (congrArg Prod.snd (congrArg Prod.snd (congrArg Prod.snd (congrArg Prod.snd (congrArg Prod.snd (hR.symm.trans hT0))))))), (congrArg Prod.fst (congrArg Prod.snd (congrArg Prod.snd (congrArg Prod.snd (congrArg Prod.snd (congrArg Prod.snd (congrArg Prod.snd (hR.symm.trans hT0)))))))), (congrArg Prod.fst (congrArg Prod.snd (congrArg Prod.snd (congrArg Prod.snd (congrArg Prod.snd (congrArg Prod.snd (congrArg Prod.snd (congrArg Prod.snd (hR.symm.trans hT0))))))))), (congrArg Prod.fst (congrArg Prod.snd (congrArg Prod.snd (congrArg Prod.snd (congrArg Prod.snd (congrArg Prod.snd (congrArg Prod.snd (congrArg Prod.snd (congrArg Prod.snd (hR.symm.trans hT0)))))))))), (congrArg Prod.fst (congrArg Prod.snd (congrArg Prod.snd (congrArg Prod.snd (congrArg Prod.snd (congrArg Prod.snd (congrArg Prod.snd (congrArg Prod.snd (congrArg Prod.snd (congrArg Prod.snd (hR.symm.trans hT0))))))))))), (congrArg Prod.fst (congrArg Prod.snd (congrArg Prod.snd (congrArg Prod.snd (congrArg Prod.snd (congrArg Prod.snd (congrArg Prod.snd (congrArg Prod.snd (congrArg Prod.snd (congrArg Prod.snd (congrArg Prod.snd (hR.symm.trans hT0)))))))))))), (congrArg Prod.fst (congrArg Prod.snd (congrArg Prod.snd (congrArg Prod.snd (congrArg Prod.snd (congrArg Prod.snd (congrArg Prod.snd (congrArg Prod.snd (congrArg Prod.snd (congrArg Prod.snd (congrArg Prod.snd (congrArg Prod.snd (hR.symm.trans hT0))))))))))))), (congrArg Prod.fst (congrArg Prod.snd (congrArg Prod.snd (congrArg Prod.snd (congrArg Prod.snd (congrArg Prod.snd (congrArg Prod.snd (congrArg Prod.snd (congrArg Prod.snd (congrArg Prod.snd (congrArg Prod.snd (congrArg Prod.snd (congrArg Prod.snd (hR.symm.trans hT0)))))))))))))), (congrArg Prod.fst (congrArg Prod.snd (congrArg Prod.snd (congrArg Prod.snd (congrArg Prod.snd (congrArg Prod.snd (congrArg Prod.snd (congrArg Prod.snd (congrArg Prod.snd (congrArg Prod.snd (congrArg Prod.snd (congrArg Prod.snd (congrArg Prod.snd (congrArg Prod.snd (hR.symm.trans hT0))))))))))))))), (congrArg Prod.fst (congrArg Prod.snd (congrArg Prod.snd (congrArg Prod.snd (congrArg Prod.snd (congrArg Prod.snd (congrArg Prod.snd (congrArg Prod.snd (congrArg Prod.snd (congrArg Prod.snd (congrArg Prod.snd (congrArg Prod.snd (congrArg Prod.snd (congrArg Prod.snd (congrArg Prod.snd (hR.symm.trans hT0)))))))))))))))), (congrArg Prod.fst (congrArg Prod.snd (congrArg Prod.snd (congrArg Prod.snd (congrArg Prod.snd (congrArg Prod.snd (congrArg Prod.snd (congrArg Prod.snd (congrArg Prod.snd (congrArg Prod.snd (congrArg Prod.snd (congrArg Prod.snd (congrArg Prod.snd (congrArg Prod.snd (congrArg Prod.snd (congrArg Prod.snd (hR.symm.trans hT0))))))))))))))))), (congrArg Prod.fst (congrArg Prod.snd (congrArg Prod.snd (congrArg Prod.snd (congrArg Prod.snd (congrArg Prod.snd (congrArg Prod.snd (congrArg Prod.snd (congrArg Prod.snd (congrArg Prod.snd (congrArg Prod.snd (congrArg Prod.snd (congrArg Prod.snd (congrArg Prod.snd (congrArg Prod.snd (congrArg Prod.snd (congrArg Prod.snd (hR.symm.trans hT0)))))))))))))))))), (congrArg Prod.snd (congrArg Prod.snd (congrArg Prod.snd (congrArg Prod.snd (congrArg Prod.snd (congrArg Prod.snd (congrArg Prod.snd (congrArg Prod.snd (congrArg Prod.snd (congrArg Prod.snd (congrArg Prod.snd (congrArg Prod.snd (congrArg Prod.snd (congrArg Prod.snd (congrArg Prod.snd (congrArg Prod.snd (congrArg Prod.snd (hR.symm.trans hT0)))))))))))))))))), rfl⟩)
