theorem dX9_perform_0 : decode cX9_perform 0 = .ok (.iload_n 1, 1) := by decide +kernel
theorem dX9_perform_1 : decode cX9_perform 1 = .ok (.invokestatic 205, 3) := by decide +kernel
theorem dX9_perform_4 : decode cX9_perform 4 = .ok (.ifCond .ne 6, 3) := by decide +kernel
theorem dX9_perform_7 : decode cX9_perform 7 = .ok (.bipush (-2), 2) := by decide +kernel
theorem dX9_perform_9 : decode cX9_perform 9 = .ok (.ireturn, 1) := by decide +kernel
theorem dX9_perform_10 : decode cX9_perform 10 = .ok (.aload_n 0, 1) := by decide +kernel
theorem dX9_perform_11 : decode cX9_perform 11 = .ok (.getfield 54, 3) := by decide +kernel
theorem dX9_perform_14 : decode cX9_perform 14 = .ok (.iload_n 1, 1) := by decide +kernel
theorem dX9_perform_15 : decode cX9_perform 15 = .ok (.aaload, 1) := by decide +kernel
theorem dX9_perform_16 : decode cX9_perform 16 = .ok (.invokevirtual 208, 3) := by decide +kernel
theorem dX9_perform_19 : decode cX9_perform 19 = .ok (.ifCond .eq 6, 3) := by decide +kernel
theorem dX9_perform_25 : decode cX9_perform 25 = .ok (.aload_n 0, 1) := by decide +kernel
theorem dX9_perform_26 : decode cX9_perform 26 = .ok (.getfield 113, 3) := by decide +kernel
theorem dX9_perform_29 : decode cX9_perform 29 = .ok (.istore_n 2, 1) := by decide +kernel
theorem dX9_perform_30 : decode cX9_perform 30 = .ok (.aload_n 0, 1) := by decide +kernel
theorem dX9_perform_31 : decode cX9_perform 31 = .ok (.getfield 116, 3) := by decide +kernel
theorem dX9_perform_34 : decode cX9_perform 34 = .ok (.istore_n 3, 1) := by decide +kernel
theorem dX9_perform_35 : decode cX9_perform 35 = .ok (.aload_n 0, 1) := by decide +kernel
theorem dX9_perform_36 : decode cX9_perform 36 = .ok (.getfield 119, 3) := by decide +kernel
theorem dX9_perform_39 : decode cX9_perform 39 = .ok (.istore 4, 2) := by decide +kernel
theorem dX9_perform_41 : decode cX9_perform 41 = .ok (.aload_n 0, 1) := by decide +kernel
theorem dX9_perform_42 : decode cX9_perform 42 = .ok (.aload_n 0, 1) := by decide +kernel
theorem dX9_perform_43 : decode cX9_perform 43 = .ok (.getfield 54, 3) := by decide +kernel
theorem dX9_perform_46 : decode cX9_perform 46 = .ok (.iload_n 1, 1) := by decide +kernel
theorem dX9_perform_47 : decode cX9_perform 47 = .ok (.aaload, 1) := by decide +kernel
theorem dX9_perform_48 : decode cX9_perform 48 = .ok (.invokevirtual 212, 3) := by decide +kernel
theorem dX9_perform_51 : decode cX9_perform 51 = .ok (.istore 5, 2) := by decide +kernel
theorem dX9_perform_53 : decode cX9_perform 53 = .ok (.iload 5, 2) := by decide +kernel
theorem dX9_perform_55 : decode cX9_perform 55 = .ok (.ifCond .le 14, 3) := by decide +kernel
theorem dX9_perform_69 : decode cX9_perform 69 = .ok (.iload 5, 2) := by decide +kernel
theorem dX9_perform_71 : decode cX9_perform 71 = .ok (.ireturn, 1) := by decide +kernel
theorem dX9_perform_58 : decode cX9_perform 58 = .ok (.aload_n 0, 1) := by decide +kernel
theorem dX9_perform_59 : decode cX9_perform 59 = .ok (.getfield 48, 3) := by decide +kernel
theorem dX9_perform_62 : decode cX9_perform 62 = .ok (.iload_n 2, 1) := by decide +kernel
theorem dX9_perform_63 : decode cX9_perform 63 = .ok (.iload_n 3, 1) := by decide +kernel
theorem dX9_perform_64 : decode cX9_perform 64 = .ok (.iload 4, 2) := by decide +kernel
theorem dX9_perform_66 : decode cX9_perform 66 = .ok (.invokevirtual 165, 3) := by decide +kernel
theorem dX9_perform_22 : decode cX9_perform 22 = .ok (.bipush (-6), 2) := by decide +kernel
theorem dX9_perform_24 : decode cX9_perform 24 = .ok (.ireturn, 1) := by decide +kernel
set_option maxRecDepth 100000 in
noncomputable def F_k_X9_perform_0 (D9 : Nat → Int32) (a1 : Int32) (py0_12 : Int32) (py0_13 : Int32) (py0_14 : Int32) (py2_1 : Int32) (py26_3 : Int32) (fy27 : Nat → Int32) (fy28 : Nat → Int32) (fy29 : Nat → Int32) (py33_1 : Int32) (fy34 : Nat → Int64) (py35_1 : Int32) (fy36 : Nat → Int64) (py37_1 : Int32) (fy38 : Nat → Int64) (py39_1 : Int32) (fy40 : Nat → Int64) : Int32 × Int32 × Int32 × Int32 × Int32 × (Nat → Int32) × (Nat → Int32) × (Nat → Int32) := if F_k_X9_isTray_0 a1 = 0 then ((((-2) : Int32), py0_12, py0_13, py0_14, py26_3, fy27, fy28, fy29)) else (if F_k_X9_isTray_0 a1 = 1 then ((((-2) : Int32), py0_12, py0_13, py0_14, py26_3, fy27, fy28, fy29)) else (if a1 = 0 then (if F_k_X7_isMissing_0 py33_1 = 0 then (bnd (F_k_X9_tryAll_0 D9 py0_12 py0_13 py0_14 py2_1 fy34 py33_1 : Int32 × Int32 × Int32 × Int32) fun (q_42 : Int32 × Int32 × Int32 × Int32) => bnd (q_42.1 : Int32) fun (r_30 : Int32) => bnd (q_42.2.1 : Int32) fun (v_31 : Int32) => bnd (q_42.2.2.1 : Int32) fun (v_32 : Int32) => bnd (q_42.2.2.2 : Int32) fun (v_33 : Int32) => if r_30 ≤ (0 : Int32) then ((r_30, v_31, v_32, v_33, py26_3, fy27, fy28, fy29)) else (bnd (F_k_X5_keep_0 py0_12 py0_13 py0_14 py26_3 fy27 fy28 fy29 : Int32 × (Nat → Int32) × (Nat → Int32) × (Nat → Int32)) fun (q_54 : Int32 × (Nat → Int32) × (Nat → Int32) × (Nat → Int32)) => bnd (q_54.1 : Int32) fun (v_46 : Int32) => bnd (q_54.2.1 : Nat → Int32) fun (f_47 : Nat → Int32) => bnd (q_54.2.2.1 : Nat → Int32) fun (f_48 : Nat → Int32) => bnd (q_54.2.2.2 : Nat → Int32) fun (f_49 : Nat → Int32) => (r_30, v_31, v_32, v_33, v_46, f_47, f_48, f_49))) else ((((-6) : Int32), py0_12, py0_13, py0_14, py26_3, fy27, fy28, fy29))) else (if a1 = 1 then (if F_k_X7_isMissing_1 py35_1 = 0 then (bnd (F_k_X9_tryAll_1 D9 py0_12 py0_13 py0_14 py2_1 fy36 py35_1 : Int32 × Int32 × Int32 × Int32) fun (q_78 : Int32 × Int32 × Int32 × Int32) => bnd (q_78.1 : Int32) fun (r_66 : Int32) => bnd (q_78.2.1 : Int32) fun (v_67 : Int32) => bnd (q_78.2.2.1 : Int32) fun (v_68 : Int32) => bnd (q_78.2.2.2 : Int32) fun (v_69 : Int32) => if r_66 ≤ (0 : Int32) then ((r_66, v_67, v_68, v_69, py26_3, fy27, fy28, fy29)) else (bnd (F_k_X5_keep_0 py0_12 py0_13 py0_14 py26_3 fy27 fy28 fy29 : Int32 × (Nat → Int32) × (Nat → Int32) × (Nat → Int32)) fun (q_90 : Int32 × (Nat → Int32) × (Nat → Int32) × (Nat → Int32)) => bnd (q_90.1 : Int32) fun (v_82 : Int32) => bnd (q_90.2.1 : Nat → Int32) fun (f_83 : Nat → Int32) => bnd (q_90.2.2.1 : Nat → Int32) fun (f_84 : Nat → Int32) => bnd (q_90.2.2.2 : Nat → Int32) fun (f_85 : Nat → Int32) => (r_66, v_67, v_68, v_69, v_82, f_83, f_84, f_85))) else ((((-6) : Int32), py0_12, py0_13, py0_14, py26_3, fy27, fy28, fy29))) else (if a1 = 2 then (if F_k_X7_isMissing_2 py37_1 = 0 then (bnd (F_k_X9_tryAll_2 D9 py0_12 py0_13 py0_14 py2_1 fy38 py37_1 : Int32 × Int32 × Int32 × Int32) fun (q_114 : Int32 × Int32 × Int32 × Int32) => bnd (q_114.1 : Int32) fun (r_102 : Int32) => bnd (q_114.2.1 : Int32) fun (v_103 : Int32) => bnd (q_114.2.2.1 : Int32) fun (v_104 : Int32) => bnd (q_114.2.2.2 : Int32) fun (v_105 : Int32) => if r_102 ≤ (0 : Int32) then ((r_102, v_103, v_104, v_105, py26_3, fy27, fy28, fy29)) else (bnd (F_k_X5_keep_0 py0_12 py0_13 py0_14 py26_3 fy27 fy28 fy29 : Int32 × (Nat → Int32) × (Nat → Int32) × (Nat → Int32)) fun (q_126 : Int32 × (Nat → Int32) × (Nat → Int32) × (Nat → Int32)) => bnd (q_126.1 : Int32) fun (v_118 : Int32) => bnd (q_126.2.1 : Nat → Int32) fun (f_119 : Nat → Int32) => bnd (q_126.2.2.1 : Nat → Int32) fun (f_120 : Nat → Int32) => bnd (q_126.2.2.2 : Nat → Int32) fun (f_121 : Nat → Int32) => (r_102, v_103, v_104, v_105, v_118, f_119, f_120, f_121))) else ((((-6) : Int32), py0_12, py0_13, py0_14, py26_3, fy27, fy28, fy29))) else (if F_k_X7_isMissing_3 py39_1 = 0 then (bnd (F_k_X9_tryAll_3 D9 py0_12 py0_13 py0_14 py2_1 fy40 py39_1 : Int32 × Int32 × Int32 × Int32) fun (q_150 : Int32 × Int32 × Int32 × Int32) => bnd (q_150.1 : Int32) fun (r_138 : Int32) => bnd (q_150.2.1 : Int32) fun (v_139 : Int32) => bnd (q_150.2.2.1 : Int32) fun (v_140 : Int32) => bnd (q_150.2.2.2 : Int32) fun (v_141 : Int32) => if r_138 ≤ (0 : Int32) then ((r_138, v_139, v_140, v_141, py26_3, fy27, fy28, fy29)) else (bnd (F_k_X5_keep_0 py0_12 py0_13 py0_14 py26_3 fy27 fy28 fy29 : Int32 × (Nat → Int32) × (Nat → Int32) × (Nat → Int32)) fun (q_162 : Int32 × (Nat → Int32) × (Nat → Int32) × (Nat → Int32)) => bnd (q_162.1 : Int32) fun (v_154 : Int32) => bnd (q_162.2.1 : Nat → Int32) fun (f_155 : Nat → Int32) => bnd (q_162.2.2.1 : Nat → Int32) fun (f_156 : Nat → Int32) => bnd (q_162.2.2.2 : Nat → Int32) fun (f_157 : Nat → Int32) => (r_138, v_139, v_140, v_141, v_154, f_155, f_156, f_157))) else ((((-6) : Int32), py0_12, py0_13, py0_14, py26_3, fy27, fy28, fy29)))))))
set_option maxHeartbeats 4000000 in
set_option maxRecDepth 100000 in
theorem k_X9_perform_0 (l : Launch) (V : GV) (y : Nat → Nat) (D9 : Nat → Int32) (a1 : Int32) (py0_1 : Int32) (o10 : Value) (o11 : Value) (py0_12 : Int32) (py0_13 : Int32) (py0_14 : Int32) (py2_0 : Int32) (py2_1 : Int32) (py2_2 : Int32) (py2_3 : Int32) (py2_4 : Int32) (py2_5 : Int32) (py2_13 : Int32) (py2_14 : Int32) (py2_15 : Int32) (py2_16 : Int32) (py2_17 : Int32) (fy3 : Nat → Int32) (fy9 : Nat → Int32) (fy20 : Nat → Int32) (fy21 : Nat → Int32) (fy22 : Nat → Int32) (py26_3 : Int32) (fy27 : Nat → Int32) (fy28 : Nat → Int32) (fy29 : Nat → Int32) (py33_1 : Int32) (py33_2 : Int32) (fy34 : Nat → Int64) (py35_1 : Int32) (py35_2 : Int32) (fy36 : Nat → Int64) (py37_1 : Int32) (py37_2 : Int32) (fy38 : Nat → Int64) (py39_1 : Int32) (py39_2 : Int32) (fy40 : Nat → Int64) (bpy0_1 : iv 0 900 py0_1) (bpy0_12 : iv 0 9999 py0_12) (bpy0_13 : iv 0 9 py0_13) (bpy2_1 : iv 0 4 py2_1) (bpy2_2 : iv 0 4 py2_2) (bpy2_3 : iv 0 8 py2_3) (bpy2_4 : iv 0 9999 py2_4) (bpy2_5 : iv 0 9 py2_5) (bpy2_13 : iv 0 900 py2_13) (bpy2_14 : iv 0 900 py2_14) (bpy2_15 : iv 0 900 py2_15) (bpy2_16 : iv 0 900 py2_16) (bpy2_17 : iv 0 900 py2_17) (tfy20 : ∀ j, iv 0 10 (fy20 j)) (bpy26_3 : iv 0 10 py26_3) (tfy27 : ∀ j, iv 0 9999 (fy27 j)) (tfy28 : ∀ j, iv 0 9 (fy28 j)) (bpy33_1 : iv (-1) 40 py33_1) (bpy35_1 : iv (-1) 40 py35_1) (bpy37_1 : iv (-1) 40 py37_1) (bpy39_1 : iv (-1) 40 py39_1) (hL9 : LW D9 fy3 fy9 py2_14 py2_15 py2_16 py2_17) (hK9 : KN D9 fy20) : Ct l V yX9_perform (.code yX9_perform cX9_perform 6 (some .int)) 8 [.ref (y 0), .int a1] [(y 0, .inr (9, o9_rirrrrrrrrvviii (y 1) py0_1 (y 2) (y 10) (y 19) (y 25) (y 26) (y 30) (y 31) (y 32) o10 o11 py0_12 py0_13 py0_14)), (y 2, .inr (1, o1_iiiiiirrrrrrriiiii py2_0 py2_1 py2_2 py2_3 py2_4 py2_5 (y 3) (y 4) (y 5) (y 6) (y 7) (y 8) (y 9) py2_13 py2_14 py2_15 py2_16 py2_17)), (y 3, aI V 4 fy3), (y 9, aI V 900 fy9), (y 19, .inr (4, o4_rrrrrr (y 2) (y 20) (y 21) (y 22) (y 23) (y 24))), (y 20, aI V 2000 fy20), (y 21, aI V 6 fy21), (y 22, aI V 64 fy22), (y 26, .inr (5, o5_rrri (y 27) (y 28) (y 29) py26_3)), (y 27, aI V 10 fy27), (y 28, aI V 10 fy28), (y 29, aI V 10 fy29), (y 30, aT V 4 (va_up (va_up (va_up (va_up (fun _ => none) 0 (some (y 33))) 1 (some (y 35))) 2 (some (y 37))) 3 (some (y 39)))), (y 33, .inr (7, o7_rii (y 34) py33_1 py33_2)), (y 34, aJ V 40 fy34), (y 35, .inr (7, o7_rii (y 36) py35_1 py35_2)), (y 36, aJ V 40 fy36), (y 37, .inr (7, o7_rii (y 38) py37_1 py37_2)), (y 38, aJ V 40 fy38), (y 39, .inr (7, o7_rii (y 40) py39_1 py39_2)), (y 40, aJ V 40 fy40)] 0 0 (QI V (fun (r : Int32) (w : va_W) => ∃ (v0 : Int32) (v1 : Int32) (v2 : Int32) (g3 : Nat → Int32) (g4 : Nat → Int32) (g5 : Nat → Int32) (v6 : Int32) (g7 : Nat → Int32) (g8 : Nat → Int32) (g9 : Nat → Int32), iv 0 9999 v0 ∧ iv 0 9 v1 ∧ (∀ j, iv 0 10 (g3 j)) ∧ iv 0 10 v6 ∧ (∀ j, iv 0 9999 (g7 j)) ∧ (∀ j, iv 0 9 (g8 j)) ∧ iv (-6) 40 r ∧ r = (F_k_X9_perform_0 D9 a1 py0_12 py0_13 py0_14 py2_1 py26_3 fy27 fy28 fy29 py33_1 fy34 py35_1 fy36 py37_1 fy38 py39_1 fy40).1 ∧ v0 = (F_k_X9_perform_0 D9 a1 py0_12 py0_13 py0_14 py2_1 py26_3 fy27 fy28 fy29 py33_1 fy34 py35_1 fy36 py37_1 fy38 py39_1 fy40).2.1 ∧ v1 = (F_k_X9_perform_0 D9 a1 py0_12 py0_13 py0_14 py2_1 py26_3 fy27 fy28 fy29 py33_1 fy34 py35_1 fy36 py37_1 fy38 py39_1 fy40).2.2.1 ∧ v2 = (F_k_X9_perform_0 D9 a1 py0_12 py0_13 py0_14 py2_1 py26_3 fy27 fy28 fy29 py33_1 fy34 py35_1 fy36 py37_1 fy38 py39_1 fy40).2.2.2.1 ∧ v6 = (F_k_X9_perform_0 D9 a1 py0_12 py0_13 py0_14 py2_1 py26_3 fy27 fy28 fy29 py33_1 fy34 py35_1 fy36 py37_1 fy38 py39_1 fy40).2.2.2.2.1 ∧ g7 = (F_k_X9_perform_0 D9 a1 py0_12 py0_13 py0_14 py2_1 py26_3 fy27 fy28 fy29 py33_1 fy34 py35_1 fy36 py37_1 fy38 py39_1 fy40).2.2.2.2.2.1 ∧ g8 = (F_k_X9_perform_0 D9 a1 py0_12 py0_13 py0_14 py2_1 py26_3 fy27 fy28 fy29 py33_1 fy34 py35_1 fy36 py37_1 fy38 py39_1 fy40).2.2.2.2.2.2.1 ∧ g9 = (F_k_X9_perform_0 D9 a1 py0_12 py0_13 py0_14 py2_1 py26_3 fy27 fy28 fy29 py33_1 fy34 py35_1 fy36 py37_1 fy38 py39_1 fy40).2.2.2.2.2.2.2 ∧ KN D9 g3 ∧ w = [(y 0, .inr (9, o9_rirrrrrrrrvviii (y 1) py0_1 (y 2) (y 10) (y 19) (y 25) (y 26) (y 30) (y 31) (y 32) o10 o11 v0 v1 v2)), (y 2, .inr (1, o1_iiiiiirrrrrrriiiii py2_0 py2_1 py2_2 py2_3 py2_4 py2_5 (y 3) (y 4) (y 5) (y 6) (y 7) (y 8) (y 9) py2_13 py2_14 py2_15 py2_16 py2_17)), (y 3, aI V 4 fy3), (y 9, aI V 900 fy9), (y 19, .inr (4, o4_rrrrrr (y 2) (y 20) (y 21) (y 22) (y 23) (y 24))), (y 20, aI V 2000 g3), (y 21, aI V 6 g4), (y 22, aI V 64 g5), (y 26, .inr (5, o5_rrri (y 27) (y 28) (y 29) v6)), (y 27, aI V 10 g7), (y 28, aI V 10 g8), (y 29, aI V 10 g9), (y 30, aT V 4 (va_up (va_up (va_up (va_up (fun _ => none) 0 (some (y 33))) 1 (some (y 35))) 2 (some (y 37))) 3 (some (y 39)))), (y 33, .inr (7, o7_rii (y 34) py33_1 py33_2)), (y 34, aJ V 40 fy34), (y 35, .inr (7, o7_rii (y 36) py35_1 py35_2)), (y 36, aJ V 40 fy36), (y 37, .inr (7, o7_rii (y 38) py37_1 py37_2)), (y 38, aJ V 40 fy38), (y 39, .inr (7, o7_rii (y 40) py39_1 py39_2)), (y 40, aJ V 40 fy40)])) := by
  refine Ct.of (by decide) (Nat.le_of_ble_eq_true rfl) (fun p e s m below meth c A ls hx hb hr hml hown hlk hnm hg hP hK hD hE hA hS hl => ?_)
  have hl : lv_has ls 6 [(0, .ref (y 0)), (1, .int a1)] := hl
  obtain ⟨T0, hT0⟩ : ∃ T9, T9 = F_k_X9_perform_0 D9 a1 py0_12 py0_13 py0_14 py2_1 py26_3 fy27 fy28 fy29 py33_1 fy34 py35_1 fy36 py37_1 fy38 py39_1 fy40 := ⟨_, rfl⟩
  have hR := hT0.trans (F_k_X9_perform_0.eq_1 ..)
  refine lv_iload_n hx hb dX9_perform_0 rfl (lv_at hl 1 rfl) ?_
  refine jnI (wr := [(y 0, .inr (9, o9_rirrrrrrrrvviii (y 1) py0_1 (y 2) (y 10) (y 19) (y 25) (y 26) (y 30) (y 31) (y 32) o10 o11 py0_12 py0_13 py0_14)), (y 2, .inr (1, o1_iiiiiirrrrrrriiiii py2_0 py2_1 py2_2 py2_3 py2_4 py2_5 (y 3) (y 4) (y 5) (y 6) (y 7) (y 8) (y 9) py2_13 py2_14 py2_15 py2_16 py2_17)), (y 3, aI V 4 fy3), (y 9, aI V 900 fy9), (y 19, .inr (4, o4_rrrrrr (y 2) (y 20) (y 21) (y 22) (y 23) (y 24))), (y 20, aI V 2000 fy20), (y 21, aI V 6 fy21), (y 22, aI V 64 fy22), (y 26, .inr (5, o5_rrri (y 27) (y 28) (y 29) py26_3)), (y 27, aI V 10 fy27), (y 28, aI V 10 fy28), (y 29, aI V 10 fy29), (y 30, aT V 4 (va_up (va_up (va_up (va_up (fun _ => none) 0 (some (y 33))) 1 (some (y 35))) 2 (some (y 37))) 3 (some (y 39)))), (y 33, .inr (7, o7_rii (y 34) py33_1 py33_2)), (y 34, aJ V 40 fy34), (y 35, .inr (7, o7_rii (y 36) py35_1 py35_2)), (y 36, aJ V 40 fy36), (y 37, .inr (7, o7_rii (y 38) py37_1 py37_2)), (y 38, aJ V 40 fy38), (y 39, .inr (7, o7_rii (y 40) py39_1 py39_2)), (y 40, aJ V 40 fy40)]) (rnS (rest := []) ⟨hx, hb, hml, hown, hg⟩ (k_X9_isTray_0 l V a1) mt_X9_isTray q_3_228 ⟨Nat.le_of_ble_eq_true rfl, Nat.le_of_ble_eq_true rfl⟩ hK hP hD hS hA hE [] rfl rfl rfl hl.1 rfl (Nat.le_of_ble_eq_true rfl) dX9_perform_1 ⟨Nat.le_of_ble_eq_true rfl, Nat.le_of_ble_eq_true rfl⟩) hP hD hS hA [] [0, 1, 2, 3, 4, 5, 6, 7, 8, 9, 10, 11, 12, 13, 14, 15, 16, 17, 18, 19, 20] rfl rfl rfl (by decide) (fun r_1 w H locs hw hP hD hS => ?_)
  rcases hw with ⟨c_2, rfl, et_3, rfl⟩ | ⟨c_4, c_5, rfl, et_6, rfl⟩ | ⟨c_7, c_8, rfl, et_9, rfl⟩
  · have hP : va_P V.1 vwCl [(y 0, .inr (9, o9_rirrrrrrrrvviii (y 1) py0_1 (y 2) (y 10) (y 19) (y 25) (y 26) (y 30) (y 31) (y 32) o10 o11 py0_12 py0_13 py0_14)), (y 2, .inr (1, o1_iiiiiirrrrrrriiiii py2_0 py2_1 py2_2 py2_3 py2_4 py2_5 (y 3) (y 4) (y 5) (y 6) (y 7) (y 8) (y 9) py2_13 py2_14 py2_15 py2_16 py2_17)), (y 3, aI V 4 fy3), (y 9, aI V 900 fy9), (y 19, .inr (4, o4_rrrrrr (y 2) (y 20) (y 21) (y 22) (y 23) (y 24))), (y 20, aI V 2000 fy20), (y 21, aI V 6 fy21), (y 22, aI V 64 fy22), (y 26, .inr (5, o5_rrri (y 27) (y 28) (y 29) py26_3)), (y 27, aI V 10 fy27), (y 28, aI V 10 fy28), (y 29, aI V 10 fy29), (y 30, aT V 4 (va_up (va_up (va_up (va_up (fun _ => none) 0 (some (y 33))) 1 (some (y 35))) 2 (some (y 37))) 3 (some (y 39)))), (y 33, .inr (7, o7_rii (y 34) py33_1 py33_2)), (y 34, aJ V 40 fy34), (y 35, .inr (7, o7_rii (y 36) py35_1 py35_2)), (y 36, aJ V 40 fy36), (y 37, .inr (7, o7_rii (y 38) py37_1 py37_2)), (y 38, aJ V 40 fy38), (y 39, .inr (7, o7_rii (y 40) py39_1 py39_2)), (y 40, aJ V 40 fy40)] H := hP
    have hD := cpD hP hD
    replace hR := ti hR et_3.symm
    have b_10 : iv (-2147483648) (-1) a1 := iv_l1 c_2 (iv_top a1) (iv_c (0 : Int32) (a := 0) (b := 0) (by decide)) (by decide)
    refine lv_if_ne (tgt := 10) hx hb dX9_perform_4 (by decide) (fun c_12 => absurd c_12 (by decide)) (fun _ => ?_)
    refine lv_bipush (v := (-2)) hx hb dX9_perform_7 (by decide) ?_
    exact fiI hx hb hr hlk hK hP hD hS dX9_perform_9 (Nat.le_of_ble_eq_true rfl) (Nat.le_of_ble_eq_true rfl) (⟨py0_12, py0_13, py0_14, fy20, fy21, fy22, py26_3, fy27, fy28, fy29, bpy0_12, bpy0_13, tfy20, bpy26_3, tfy27, tfy28, (iv_c ((-2) : Int32) (by decide)), (congrArg Prod.fst (hR.symm.trans hT0)), (congrArg Prod.fst (congrArg Prod.snd (hR.symm.trans hT0))), (congrArg Prod.fst (congrArg Prod.snd (congrArg Prod.snd (hR.symm.trans hT0)))), (congrArg Prod.fst (congrArg Prod.snd (congrArg Prod.snd (congrArg Prod.snd (hR.symm.trans hT0))))), (congrArg Prod.fst (congrArg Prod.snd (congrArg Prod.snd (congrArg Prod.snd (congrArg Prod.snd (hR.symm.trans hT0)))))), (congrArg Prod.fst (congrArg Prod.snd (congrArg Prod.snd (congrArg Prod.snd (congrArg Prod.snd (congrArg Prod.snd (hR.symm.trans hT0))))))), (congrArg Prod.fst (congrArg Prod.snd (congrArg Prod.snd (congrArg Prod.snd (congrArg Prod.snd (congrArg Prod.snd (congrArg Prod.snd (hR.symm.trans hT0)))))))), (congrArg Prod.snd (congrArg Prod.snd (congrArg Prod.snd (congrArg Prod.snd (congrArg Prod.snd (congrArg Prod.snd (congrArg Prod.snd (hR.symm.trans hT0)))))))), hK9, rfl⟩)
  · have hP : va_P V.1 vwCl [(y 0, .inr (9, o9_rirrrrrrrrvviii (y 1) py0_1 (y 2) (y 10) (y 19) (y 25) (y 26) (y 30) (y 31) (y 32) o10 o11 py0_12 py0_13 py0_14)), (y 2, .inr (1, o1_iiiiiirrrrrrriiiii py2_0 py2_1 py2_2 py2_3 py2_4 py2_5 (y 3) (y 4) (y 5) (y 6) (y 7) (y 8) (y 9) py2_13 py2_14 py2_15 py2_16 py2_17)), (y 3, aI V 4 fy3), (y 9, aI V 900 fy9), (y 19, .inr (4, o4_rrrrrr (y 2) (y 20) (y 21) (y 22) (y 23) (y 24))), (y 20, aI V 2000 fy20), (y 21, aI V 6 fy21), (y 22, aI V 64 fy22), (y 26, .inr (5, o5_rrri (y 27) (y 28) (y 29) py26_3)), (y 27, aI V 10 fy27), (y 28, aI V 10 fy28), (y 29, aI V 10 fy29), (y 30, aT V 4 (va_up (va_up (va_up (va_up (fun _ => none) 0 (some (y 33))) 1 (some (y 35))) 2 (some (y 37))) 3 (some (y 39)))), (y 33, .inr (7, o7_rii (y 34) py33_1 py33_2)), (y 34, aJ V 40 fy34), (y 35, .inr (7, o7_rii (y 36) py35_1 py35_2)), (y 36, aJ V 40 fy36), (y 37, .inr (7, o7_rii (y 38) py37_1 py37_2)), (y 38, aJ V 40 fy38), (y 39, .inr (7, o7_rii (y 40) py39_1 py39_2)), (y 40, aJ V 40 fy40)] H := hP
    have hD := cpD hP hD
    replace hR := te hR (by rw [← et_6]; decide)
    replace hR := ti hR et_6.symm
    have b_13 : iv 0 2147483647 a1 := iv_e2 (Int32.not_lt.mp c_4) (iv_c (0 : Int32) (a := 0) (b := 0) (by decide)) (iv_top a1) (by decide)
    have b_14 : iv 4 2147483647 a1 := iv_e2 c_5 (iv_c (4 : Int32) (a := 4) (b := 4) (by decide)) b_13 (by decide)
    refine lv_if_ne (tgt := 10) hx hb dX9_perform_4 (by decide) (fun c_16 => absurd c_16 (by decide)) (fun _ => ?_)
    refine lv_bipush (v := (-2)) hx hb dX9_perform_7 (by decide) ?_
    exact fiI hx hb hr hlk hK hP hD hS dX9_perform_9 (Nat.le_of_ble_eq_true rfl) (Nat.le_of_ble_eq_true rfl) (⟨py0_12, py0_13, py0_14, fy20, fy21, fy22, py26_3, fy27, fy28, fy29, bpy0_12, bpy0_13, tfy20, bpy26_3, tfy27, tfy28, (iv_c ((-2) : Int32) (by decide)), (congrArg Prod.fst (hR.symm.trans hT0)), (congrArg Prod.fst (congrArg Prod.snd (hR.symm.trans hT0))), (congrArg Prod.fst (congrArg Prod.snd (congrArg Prod.snd (hR.symm.trans hT0)))), (congrArg Prod.fst (congrArg Prod.snd (congrArg Prod.snd (congrArg Prod.snd (hR.symm.trans hT0))))), (congrArg Prod.fst (congrArg Prod.snd (congrArg Prod.snd (congrArg Prod.snd (congrArg Prod.snd (hR.symm.trans hT0)))))), (congrArg Prod.fst (congrArg Prod.snd (congrArg Prod.snd (congrArg Prod.snd (congrArg Prod.snd (congrArg Prod.snd (hR.symm.trans hT0))))))), (congrArg Prod.fst (congrArg Prod.snd (congrArg Prod.snd (congrArg Prod.snd (congrArg Prod.snd (congrArg Prod.snd (congrArg Prod.snd (hR.symm.trans hT0)))))))), (congrArg Prod.snd (congrArg Prod.snd (congrArg Prod.snd (congrArg Prod.snd (congrArg Prod.snd (congrArg Prod.snd (congrArg Prod.snd (hR.symm.trans hT0)))))))), hK9, rfl⟩)
  · have hP : va_P V.1 vwCl [(y 0, .inr (9, o9_rirrrrrrrrvviii (y 1) py0_1 (y 2) (y 10) (y 19) (y 25) (y 26) (y 30) (y 31) (y 32) o10 o11 py0_12 py0_13 py0_14)), (y 2, .inr (1, o1_iiiiiirrrrrrriiiii py2_0 py2_1 py2_2 py2_3 py2_4 py2_5 (y 3) (y 4) (y 5) (y 6) (y 7) (y 8) (y 9) py2_13 py2_14 py2_15 py2_16 py2_17)), (y 3, aI V 4 fy3), (y 9, aI V 900 fy9), (y 19, .inr (4, o4_rrrrrr (y 2) (y 20) (y 21) (y 22) (y 23) (y 24))), (y 20, aI V 2000 fy20), (y 21, aI V 6 fy21), (y 22, aI V 64 fy22), (y 26, .inr (5, o5_rrri (y 27) (y 28) (y 29) py26_3)), (y 27, aI V 10 fy27), (y 28, aI V 10 fy28), (y 29, aI V 10 fy29), (y 30, aT V 4 (va_up (va_up (va_up (va_up (fun _ => none) 0 (some (y 33))) 1 (some (y 35))) 2 (some (y 37))) 3 (some (y 39)))), (y 33, .inr (7, o7_rii (y 34) py33_1 py33_2)), (y 34, aJ V 40 fy34), (y 35, .inr (7, o7_rii (y 36) py35_1 py35_2)), (y 36, aJ V 40 fy36), (y 37, .inr (7, o7_rii (y 38) py37_1 py37_2)), (y 38, aJ V 40 fy38), (y 39, .inr (7, o7_rii (y 40) py39_1 py39_2)), (y 40, aJ V 40 fy40)] H := hP
    have hD := cpD hP hD
    replace hR := te hR (by rw [← et_9]; decide)
    replace hR := te hR (by rw [← et_9]; decide)
    have b_17 : iv 0 2147483647 a1 := iv_e2 (Int32.not_lt.mp c_7) (iv_c (0 : Int32) (a := 0) (b := 0) (by decide)) (iv_top a1) (by decide)
    have b_18 : iv 0 3 a1 := iv_l1 (Int32.not_le.mp c_8) b_17 (iv_c (4 : Int32) (a := 4) (b := 4) (by decide)) (by decide)
    refine lv_if_ne (tgt := 10) hx hb dX9_perform_4 (by decide) (fun _ => ?_) (fun c_20 => absurd c_20 (by decide))
    refine lv_aload_n hx hb dX9_perform_10 rfl (lv_at hl 0 rfl) ?_
    refine va_get (ci := 9) (v := .ref (y 30)) (C := RX9) (T := TX9) (N := 15) hx hb hg inX9 hown hK hP 0 rfl rfl 7 (by decide) (hg _ q_2_43) (fun _ h9 => h9) rfl dX9_perform_11 ?_
    refine lv_iload_n hx hb dX9_perform_14 rfl (lv_at hl 1 rfl) ?_
    have c_21 : a1 = 0 ∨ a1 = 1 ∨ a1 = 2 ∨ a1 = 3 := by have q9 := b_18; unfold iv at q9; simp only [tI_eq, (by decide : (0 : Int32).toInt = 0), (by decide : (1 : Int32).toInt = 1), (by decide : (2 : Int32).toInt = 2), (by decide : (3 : Int32).toInt = 3)]; omega
    rcases c_21 with rfl | rfl | rfl | rfl
    · replace hR := ti hR rfl
      refine va_aldq hx hb hK hP 12 4 rfl rfl (vin (by decide +kernel)) dX9_perform_15 ?_
      refine W.eq (g2 := F0 m 16 ls (.ref (y 33) :: [])) rfl ?_
      refine jnI (wr := [(y 0, .inr (9, o9_rirrrrrrrrvviii (y 1) py0_1 (y 2) (y 10) (y 19) (y 25) (y 26) (y 30) (y 31) (y 32) o10 o11 py0_12 py0_13 py0_14)), (y 2, .inr (1, o1_iiiiiirrrrrrriiiii py2_0 py2_1 py2_2 py2_3 py2_4 py2_5 (y 3) (y 4) (y 5) (y 6) (y 7) (y 8) (y 9) py2_13 py2_14 py2_15 py2_16 py2_17)), (y 3, aI V 4 fy3), (y 9, aI V 900 fy9), (y 19, .inr (4, o4_rrrrrr (y 2) (y 20) (y 21) (y 22) (y 23) (y 24))), (y 20, aI V 2000 fy20), (y 21, aI V 6 fy21), (y 22, aI V 64 fy22), (y 26, .inr (5, o5_rrri (y 27) (y 28) (y 29) py26_3)), (y 27, aI V 10 fy27), (y 28, aI V 10 fy28), (y 29, aI V 10 fy29), (y 30, aT V 4 (va_up (va_up (va_up (va_up (fun _ => none) 0 (some (y 33))) 1 (some (y 35))) 2 (some (y 37))) 3 (some (y 39)))), (y 34, aJ V 40 fy34), (y 35, .inr (7, o7_rii (y 36) py35_1 py35_2)), (y 36, aJ V 40 fy36), (y 37, .inr (7, o7_rii (y 38) py37_1 py37_2)), (y 38, aJ V 40 fy38), (y 39, .inr (7, o7_rii (y 40) py39_1 py39_2)), (y 40, aJ V 40 fy40)]) (rnV (rest := []) ⟨hx, hb, hml, hown, hg⟩ (k_X7_isMissing_0 l V y py33_1 py33_2 bpy33_1) mt_X7_isMissing q_3_231 ⟨Nat.le_of_ble_eq_true rfl, Nat.le_of_ble_eq_true rfl⟩ hK hP hD hS hA hE [13] rfl rfl 13 rfl rfl rfl rfl hl.1 rfl (Nat.le_of_ble_eq_true rfl) dX9_perform_16 ⟨Nat.le_of_ble_eq_true rfl, Nat.le_of_ble_eq_true rfl⟩) hP hD hS hA [13] [0, 1, 2, 3, 4, 5, 6, 7, 8, 9, 10, 11, 12, 14, 15, 16, 17, 18, 19, 20] rfl rfl rfl (by decide) (fun r_22 w H locs hw hP hD hS => ?_)
      rcases hw with ⟨c_23, rfl, et_24, rfl⟩ | ⟨c_25, rfl, et_26, rfl⟩
      · have hP : va_P V.1 vwCl [(y 0, .inr (9, o9_rirrrrrrrrvviii (y 1) py0_1 (y 2) (y 10) (y 19) (y 25) (y 26) (y 30) (y 31) (y 32) o10 o11 py0_12 py0_13 py0_14)), (y 2, .inr (1, o1_iiiiiirrrrrrriiiii py2_0 py2_1 py2_2 py2_3 py2_4 py2_5 (y 3) (y 4) (y 5) (y 6) (y 7) (y 8) (y 9) py2_13 py2_14 py2_15 py2_16 py2_17)), (y 3, aI V 4 fy3), (y 9, aI V 900 fy9), (y 19, .inr (4, o4_rrrrrr (y 2) (y 20) (y 21) (y 22) (y 23) (y 24))), (y 20, aI V 2000 fy20), (y 21, aI V 6 fy21), (y 22, aI V 64 fy22), (y 26, .inr (5, o5_rrri (y 27) (y 28) (y 29) py26_3)), (y 27, aI V 10 fy27), (y 28, aI V 10 fy28), (y 29, aI V 10 fy29), (y 30, aT V 4 (va_up (va_up (va_up (va_up (fun _ => none) 0 (some (y 33))) 1 (some (y 35))) 2 (some (y 37))) 3 (some (y 39)))), (y 34, aJ V 40 fy34), (y 35, .inr (7, o7_rii (y 36) py35_1 py35_2)), (y 36, aJ V 40 fy36), (y 37, .inr (7, o7_rii (y 38) py37_1 py37_2)), (y 38, aJ V 40 fy38), (y 39, .inr (7, o7_rii (y 40) py39_1 py39_2)), (y 40, aJ V 40 fy40), (y 33, .inr (7, o7_rii (y 34) py33_1 py33_2))] H := hP
        have hD := cpD hP hD
        replace hR := ti hR et_24.symm
        have b_27 : iv 0 40 py33_1 := iv_e2 c_23 (iv_c (0 : Int32) (a := 0) (b := 0) (by decide)) bpy33_1 (by decide)
        refine lv_if_eq (tgt := 25) hx hb dX9_perform_19 (by decide) (fun _ => ?_) (fun c_29 => absurd c_29 (by decide))
        refine lv_aload_n hx hb dX9_perform_25 rfl (lv_at hl 0 rfl) ?_
        refine va_get (ci := 9) (v := .int py0_12) (C := RX9) (T := TX9) (N := 15) hx hb hg inX9 hown hK hP 0 rfl rfl 12 (by decide) (hg _ q_2_48) (fun _ h9 => h9) rfl dX9_perform_26 ?_
        refine lv_istore_n (lv' := [(2, .int py0_12), (0, .ref (y 0)), (1, .int 0)]) hx hb dX9_perform_29 rfl hl (by decide) rfl (fun ls hl => ?_)
        refine lv_aload_n hx hb dX9_perform_30 rfl (lv_at hl 1 rfl) ?_
        refine va_get (ci := 9) (v := .int py0_13) (C := RX9) (T := TX9) (N := 15) hx hb hg inX9 hown hK hP 0 rfl rfl 13 (by decide) (hg _ q_2_49) (fun _ h9 => h9) rfl dX9_perform_31 ?_
        refine lv_istore_n (lv' := [(3, .int py0_13), (2, .int py0_12), (0, .ref (y 0)), (1, .int 0)]) hx hb dX9_perform_34 rfl hl (by decide) rfl (fun ls hl => ?_)
        refine lv_aload_n hx hb dX9_perform_35 rfl (lv_at hl 2 rfl) ?_
        refine va_get (ci := 9) (v := .int py0_14) (C := RX9) (T := TX9) (N := 15) hx hb hg inX9 hown hK hP 0 rfl rfl 14 (by decide) (hg _ q_2_50) (fun _ h9 => h9) rfl dX9_perform_36 ?_
        refine lv_istore (lv' := [(4, .int py0_14), (3, .int py0_13), (2, .int py0_12), (0, .ref (y 0)), (1, .int 0)]) hx hb dX9_perform_39 hl (by decide) rfl (fun ls hl => ?_)
        refine lv_aload_n hx hb dX9_perform_41 rfl (lv_at hl 3 rfl) ?_
        refine lv_aload_n hx hb dX9_perform_42 rfl (lv_at hl 3 rfl) ?_
        refine va_get (ci := 9) (v := .ref (y 30)) (C := RX9) (T := TX9) (N := 15) hx hb hg inX9 hown hK hP 0 rfl rfl 7 (by decide) (hg _ q_2_43) (fun _ h9 => h9) rfl dX9_perform_43 ?_
        refine lv_iload_n hx hb dX9_perform_46 rfl (lv_at hl 4 rfl) ?_
        refine va_aldq hx hb hK hP 12 4 rfl rfl (vin (by decide +kernel)) dX9_perform_47 ?_
        refine W.eq (g2 := F0 m 48 ls (.ref (y 33) :: .ref (y 0) :: [])) rfl ?_
        refine jnI (wr := [(y 26, .inr (5, o5_rrri (y 27) (y 28) (y 29) py26_3)), (y 27, aI V 10 fy27), (y 28, aI V 10 fy28), (y 29, aI V 10 fy29), (y 30, aT V 4 (va_up (va_up (va_up (va_up (fun _ => none) 0 (some (y 33))) 1 (some (y 35))) 2 (some (y 37))) 3 (some (y 39)))), (y 35, .inr (7, o7_rii (y 36) py35_1 py35_2)), (y 36, aJ V 40 fy36), (y 37, .inr (7, o7_rii (y 38) py37_1 py37_2)), (y 38, aJ V 40 fy38), (y 39, .inr (7, o7_rii (y 40) py39_1 py39_2)), (y 40, aJ V 40 fy40)]) (rnV (rest := []) ⟨hx, hb, hml, hown, hg⟩ (k_X9_tryAll_0 l V y D9 py0_1 o10 o11 py0_12 py0_13 py0_14 py2_0 py2_1 py2_2 py2_3 py2_4 py2_5 py2_13 py2_14 py2_15 py2_16 py2_17 fy3 fy9 fy20 fy21 fy22 fy34 py33_1 py33_2 bpy0_1 bpy0_12 bpy0_13 bpy2_1 bpy2_2 bpy2_3 bpy2_4 bpy2_5 bpy2_13 bpy2_14 bpy2_15 bpy2_16 bpy2_17 tfy20 b_27 hL9 hK9) mt_X9_tryAll q_3_235 ⟨Nat.le_of_ble_eq_true rfl, Nat.le_of_ble_eq_true rfl⟩ hK hP hD hS hA hE [0, 1, 2, 3, 4, 5, 6, 7, 13, 20] rfl rfl 0 rfl rfl rfl rfl hl.1 rfl (Nat.le_of_ble_eq_true rfl) dX9_perform_48 ⟨Nat.le_of_ble_eq_true rfl, Nat.le_of_ble_eq_true rfl⟩) hP hD hS hA [0, 1, 2, 3, 4, 5, 6, 7, 13, 20] [8, 9, 10, 11, 12, 14, 15, 16, 17, 18, 19] rfl rfl rfl (by decide) (fun r_30 w H locs hw hP hD hS => ?_)
        obtain ⟨v_31, v_32, v_33, f_34, f_35, f_36, bv_31, bv_32, tf_34, br_30, ler_30, et_37, et_38, et_39, et_40, kn_41, rfl⟩ := hw
        replace hR := tb0 hR
        replace hR := tb hR et_37
        replace hR := tb hR et_38
        replace hR := tb hR et_39
        replace hR := tb hR et_40
        have hP : va_P V.1 vwCl [(y 26, .inr (5, o5_rrri (y 27) (y 28) (y 29) py26_3)), (y 27, aI V 10 fy27), (y 28, aI V 10 fy28), (y 29, aI V 10 fy29), (y 30, aT V 4 (va_up (va_up (va_up (va_up (fun _ => none) 0 (some (y 33))) 1 (some (y 35))) 2 (some (y 37))) 3 (some (y 39)))), (y 35, .inr (7, o7_rii (y 36) py35_1 py35_2)), (y 36, aJ V 40 fy36), (y 37, .inr (7, o7_rii (y 38) py37_1 py37_2)), (y 38, aJ V 40 fy38), (y 39, .inr (7, o7_rii (y 40) py39_1 py39_2)), (y 40, aJ V 40 fy40), (y 0, .inr (9, o9_rirrrrrrrrvviii (y 1) py0_1 (y 2) (y 10) (y 19) (y 25) (y 26) (y 30) (y 31) (y 32) o10 o11 v_31 v_32 v_33)), (y 2, .inr (1, o1_iiiiiirrrrrrriiiii py2_0 py2_1 py2_2 py2_3 py2_4 py2_5 (y 3) (y 4) (y 5) (y 6) (y 7) (y 8) (y 9) py2_13 py2_14 py2_15 py2_16 py2_17)), (y 3, aI V 4 fy3), (y 9, aI V 900 fy9), (y 19, .inr (4, o4_rrrrrr (y 2) (y 20) (y 21) (y 22) (y 23) (y 24))), (y 20, aI V 2000 f_34), (y 21, aI V 6 f_35), (y 22, aI V 64 f_36), (y 34, aJ V 40 fy34), (y 33, .inr (7, o7_rii (y 34) py33_1 py33_2))] H := hP
        have hD := cpD hP hD
        refine lv_istore (lv' := [(5, .int r_30), (4, .int py0_14), (3, .int py0_13), (2, .int py0_12), (0, .ref (y 0)), (1, .int 0)]) hx hb dX9_perform_51 hl (by decide) rfl (fun ls hl => ?_)
        refine lv_iload hx hb dX9_perform_53 (lv_at hl 0 rfl) ?_
        refine lv_if_le (tgt := 69) hx hb dX9_perform_55 (by decide) (fun c_43 => ?_) (fun c_43 => ?_)
        · replace hR := ti hR c_43
          have b_44 : iv 0 0 r_30 := iv_e1 c_43 br_30 (iv_c (0 : Int32) (a := 0) (b := 0) (by decide)) (by decide)
          refine lv_iload hx hb dX9_perform_69 (lv_at hl 0 rfl) ?_
          have hP := subP (ws' := [(y 0, .inr (9, o9_rirrrrrrrrvviii (y 1) py0_1 (y 2) (y 10) (y 19) (y 25) (y 26) (y 30) (y 31) (y 32) o10 o11 v_31 v_32 v_33)), (y 2, .inr (1, o1_iiiiiirrrrrrriiiii py2_0 py2_1 py2_2 py2_3 py2_4 py2_5 (y 3) (y 4) (y 5) (y 6) (y 7) (y 8) (y 9) py2_13 py2_14 py2_15 py2_16 py2_17)), (y 3, aI V 4 fy3), (y 9, aI V 900 fy9), (y 19, .inr (4, o4_rrrrrr (y 2) (y 20) (y 21) (y 22) (y 23) (y 24))), (y 20, aI V 2000 f_34), (y 21, aI V 6 f_35), (y 22, aI V 64 f_36), (y 26, .inr (5, o5_rrri (y 27) (y 28) (y 29) py26_3)), (y 27, aI V 10 fy27), (y 28, aI V 10 fy28), (y 29, aI V 10 fy29), (y 30, aT V 4 (va_up (va_up (va_up (va_up (fun _ => none) 0 (some (y 33))) 1 (some (y 35))) 2 (some (y 37))) 3 (some (y 39)))), (y 33, .inr (7, o7_rii (y 34) py33_1 py33_2)), (y 34, aJ V 40 fy34), (y 35, .inr (7, o7_rii (y 36) py35_1 py35_2)), (y 36, aJ V 40 fy36), (y 37, .inr (7, o7_rii (y 38) py37_1 py37_2)), (y 38, aJ V 40 fy38), (y 39, .inr (7, o7_rii (y 40) py39_1 py39_2)), (y 40, aJ V 40 fy40)]) hP [11, 12, 13, 14, 15, 16, 17, 18, 0, 1, 2, 3, 4, 20, 19, 5, 6, 7, 8, 9, 10] rfl
          have hD := subD hP hD [11, 12, 13, 14, 15, 16, 17, 18, 0, 1, 2, 3, 4, 20, 19, 5, 6, 7, 8, 9, 10] rfl rfl
          exact fiI hx hb hr hlk hK hP hD hS dX9_perform_71 (Nat.le_of_ble_eq_true rfl) (Nat.le_of_ble_eq_true rfl) (⟨v_31, v_32, v_33, f_34, f_35, f_36, py26_3, fy27, fy28, fy29, bv_31, bv_32, tf_34, bpy26_3, tfy27, tfy28, (iv_w b_44 (by decide)), (congrArg Prod.fst (hR.symm.trans hT0)), (congrArg Prod.fst (congrArg Prod.snd (hR.symm.trans hT0))), (congrArg Prod.fst (congrArg Prod.snd (congrArg Prod.snd (hR.symm.trans hT0)))), (congrArg Prod.fst (congrArg Prod.snd (congrArg Prod.snd (congrArg Prod.snd (hR.symm.trans hT0))))), (congrArg Prod.fst (congrArg Prod.snd (congrArg Prod.snd (congrArg Prod.snd (congrArg Prod.snd (hR.symm.trans hT0)))))), (congrArg Prod.fst (congrArg Prod.snd (congrArg Prod.snd (congrArg Prod.snd (congrArg Prod.snd (congrArg Prod.snd (hR.symm.trans hT0))))))), (congrArg Prod.fst (congrArg Prod.snd (congrArg Prod.snd (congrArg Prod.snd (congrArg Prod.snd (congrArg Prod.snd (congrArg Prod.snd (hR.symm.trans hT0)))))))), (congrArg Prod.snd (congrArg Prod.snd (congrArg Prod.snd (congrArg Prod.snd (congrArg Prod.snd (congrArg Prod.snd (congrArg Prod.snd (hR.symm.trans hT0)))))))), kn_41, rfl⟩)
        · replace hR := te hR c_43
          have b_45 : iv 1 40 r_30 := iv_l2 (Int32.not_le.mp c_43) (iv_c (0 : Int32) (a := 0) (b := 0) (by decide)) br_30 (by decide)
          refine lv_aload_n hx hb dX9_perform_58 rfl (lv_at hl 4 rfl) ?_
          refine va_get (ci := 9) (v := .ref (y 26)) (C := RX9) (T := TX9) (N := 15) hx hb hg inX9 hown hK hP 11 rfl rfl 6 (by decide) (hg _ q_2_42) (fun _ h9 => h9) rfl dX9_perform_59 ?_
          refine lv_iload_n hx hb dX9_perform_62 rfl (lv_at hl 3 rfl) ?_
          refine lv_iload_n hx hb dX9_perform_63 rfl (lv_at hl 2 rfl) ?_
          refine lv_iload hx hb dX9_perform_64 (lv_at hl 1 rfl) ?_
          refine jnV (wr := [(y 30, aT V 4 (va_up (va_up (va_up (va_up (fun _ => none) 0 (some (y 33))) 1 (some (y 35))) 2 (some (y 37))) 3 (some (y 39)))), (y 35, .inr (7, o7_rii (y 36) py35_1 py35_2)), (y 36, aJ V 40 fy36), (y 37, .inr (7, o7_rii (y 38) py37_1 py37_2)), (y 38, aJ V 40 fy38), (y 39, .inr (7, o7_rii (y 40) py39_1 py39_2)), (y 40, aJ V 40 fy40), (y 0, .inr (9, o9_rirrrrrrrrvviii (y 1) py0_1 (y 2) (y 10) (y 19) (y 25) (y 26) (y 30) (y 31) (y 32) o10 o11 v_31 v_32 v_33)), (y 2, .inr (1, o1_iiiiiirrrrrrriiiii py2_0 py2_1 py2_2 py2_3 py2_4 py2_5 (y 3) (y 4) (y 5) (y 6) (y 7) (y 8) (y 9) py2_13 py2_14 py2_15 py2_16 py2_17)), (y 3, aI V 4 fy3), (y 9, aI V 900 fy9), (y 19, .inr (4, o4_rrrrrr (y 2) (y 20) (y 21) (y 22) (y 23) (y 24))), (y 20, aI V 2000 f_34), (y 21, aI V 6 f_35), (y 22, aI V 64 f_36), (y 34, aJ V 40 fy34), (y 33, .inr (7, o7_rii (y 34) py33_1 py33_2))]) (rnV (rest := []) ⟨hx, hb, hml, hown, hg⟩ (k_X5_keep_0 l V y py0_12 py0_13 py0_14 py26_3 fy27 fy28 fy29 bpy0_12 bpy0_13 bpy26_3 tfy27 tfy28) mt_X5_keep q_3_177 ⟨Nat.le_of_ble_eq_true rfl, Nat.le_of_ble_eq_true rfl⟩ hK hP hD hS hA hE [0, 1, 2, 3] rfl rfl 0 rfl rfl rfl rfl hl.1 rfl (Nat.le_of_ble_eq_true rfl) dX9_perform_66 ⟨Nat.le_of_ble_eq_true rfl, Nat.le_of_ble_eq_true rfl⟩) hP hD hS hA [0, 1, 2, 3] [4, 5, 6, 7, 8, 9, 10, 11, 12, 13, 14, 15, 16, 17, 18, 19, 20] rfl rfl rfl (by decide) (fun  w H locs hw hP hD hS => ?_)
          obtain ⟨v_46, f_47, f_48, f_49, bv_46, tf_47, tf_48, et_50, et_51, et_52, et_53, rfl⟩ := hw
          replace hR := tb0 hR
          replace hR := tb hR et_50
          replace hR := tb hR et_51
          replace hR := tb hR et_52
          replace hR := tb hR et_53
          have hP : va_P V.1 vwCl [(y 30, aT V 4 (va_up (va_up (va_up (va_up (fun _ => none) 0 (some (y 33))) 1 (some (y 35))) 2 (some (y 37))) 3 (some (y 39)))), (y 35, .inr (7, o7_rii (y 36) py35_1 py35_2)), (y 36, aJ V 40 fy36), (y 37, .inr (7, o7_rii (y 38) py37_1 py37_2)), (y 38, aJ V 40 fy38), (y 39, .inr (7, o7_rii (y 40) py39_1 py39_2)), (y 40, aJ V 40 fy40), (y 0, .inr (9, o9_rirrrrrrrrvviii (y 1) py0_1 (y 2) (y 10) (y 19) (y 25) (y 26) (y 30) (y 31) (y 32) o10 o11 v_31 v_32 v_33)), (y 2, .inr (1, o1_iiiiiirrrrrrriiiii py2_0 py2_1 py2_2 py2_3 py2_4 py2_5 (y 3) (y 4) (y 5) (y 6) (y 7) (y 8) (y 9) py2_13 py2_14 py2_15 py2_16 py2_17)), (y 3, aI V 4 fy3), (y 9, aI V 900 fy9), (y 19, .inr (4, o4_rrrrrr (y 2) (y 20) (y 21) (y 22) (y 23) (y 24))), (y 20, aI V 2000 f_34), (y 21, aI V 6 f_35), (y 22, aI V 64 f_36), (y 34, aJ V 40 fy34), (y 33, .inr (7, o7_rii (y 34) py33_1 py33_2)), (y 26, .inr (5, o5_rrri (y 27) (y 28) (y 29) v_46)), (y 27, aI V 10 f_47), (y 28, aI V 10 f_48), (y 29, aI V 10 f_49)] H := hP
          have hD := cpD hP hD
          refine lv_iload hx hb dX9_perform_69 (lv_at hl 0 rfl) ?_
          have hP := subP (ws' := [(y 0, .inr (9, o9_rirrrrrrrrvviii (y 1) py0_1 (y 2) (y 10) (y 19) (y 25) (y 26) (y 30) (y 31) (y 32) o10 o11 v_31 v_32 v_33)), (y 2, .inr (1, o1_iiiiiirrrrrrriiiii py2_0 py2_1 py2_2 py2_3 py2_4 py2_5 (y 3) (y 4) (y 5) (y 6) (y 7) (y 8) (y 9) py2_13 py2_14 py2_15 py2_16 py2_17)), (y 3, aI V 4 fy3), (y 9, aI V 900 fy9), (y 19, .inr (4, o4_rrrrrr (y 2) (y 20) (y 21) (y 22) (y 23) (y 24))), (y 20, aI V 2000 f_34), (y 21, aI V 6 f_35), (y 22, aI V 64 f_36), (y 26, .inr (5, o5_rrri (y 27) (y 28) (y 29) v_46)), (y 27, aI V 10 f_47), (y 28, aI V 10 f_48), (y 29, aI V 10 f_49), (y 30, aT V 4 (va_up (va_up (va_up (va_up (fun _ => none) 0 (some (y 33))) 1 (some (y 35))) 2 (some (y 37))) 3 (some (y 39)))), (y 33, .inr (7, o7_rii (y 34) py33_1 py33_2)), (y 34, aJ V 40 fy34), (y 35, .inr (7, o7_rii (y 36) py35_1 py35_2)), (y 36, aJ V 40 fy36), (y 37, .inr (7, o7_rii (y 38) py37_1 py37_2)), (y 38, aJ V 40 fy38), (y 39, .inr (7, o7_rii (y 40) py39_1 py39_2)), (y 40, aJ V 40 fy40)]) hP [7, 8, 9, 10, 11, 12, 13, 14, 17, 18, 19, 20, 0, 16, 15, 1, 2, 3, 4, 5, 6] rfl
          have hD := subD hP hD [7, 8, 9, 10, 11, 12, 13, 14, 17, 18, 19, 20, 0, 16, 15, 1, 2, 3, 4, 5, 6] rfl rfl
          exact fiI hx hb hr hlk hK hP hD hS dX9_perform_71 (Nat.le_of_ble_eq_true rfl) (Nat.le_of_ble_eq_true rfl) (⟨v_31, v_32, v_33, f_34, f_35, f_36, v_46, f_47, f_48, f_49, bv_31, bv_32, tf_34, bv_46, tf_47, tf_48, (iv_w b_45 (by decide)), (congrArg Prod.fst (hR.symm.trans hT0)), (congrArg Prod.fst (congrArg Prod.snd (hR.symm.trans hT0))), (congrArg Prod.fst (congrArg Prod.snd (congrArg Prod.snd (hR.symm.trans hT0)))), (congrArg Prod.fst (congrArg Prod.snd (congrArg Prod.snd (congrArg Prod.snd (hR.symm.trans hT0))))), (congrArg Prod.fst (congrArg Prod.snd (congrArg Prod.snd (congrArg Prod.snd (congrArg Prod.snd (hR.symm.trans hT0)))))), (congrArg Prod.fst (congrArg Prod.snd (congrArg Prod.snd (congrArg Prod.snd (congrArg Prod.snd (congrArg Prod.snd (hR.symm.trans hT0))))))), (congrArg Prod.fst (congrArg Prod.snd (congrArg Prod.snd (congrArg Prod.snd (congrArg Prod.snd (congrArg Prod.snd (congrArg Prod.snd (hR.symm.trans hT0)))))))), (congrArg Prod.snd (congrArg Prod.snd (congrArg Prod.snd (congrArg Prod.snd (congrArg Prod.snd (congrArg Prod.snd (congrArg Prod.snd (hR.symm.trans hT0)))))))), kn_41, rfl⟩)
      · have hP : va_P V.1 vwCl [(y 0, .inr (9, o9_rirrrrrrrrvviii (y 1) py0_1 (y 2) (y 10) (y 19) (y 25) (y 26) (y 30) (y 31) (y 32) o10 o11 py0_12 py0_13 py0_14)), (y 2, .inr (1, o1_iiiiiirrrrrrriiiii py2_0 py2_1 py2_2 py2_3 py2_4 py2_5 (y 3) (y 4) (y 5) (y 6) (y 7) (y 8) (y 9) py2_13 py2_14 py2_15 py2_16 py2_17)), (y 3, aI V 4 fy3), (y 9, aI V 900 fy9), (y 19, .inr (4, o4_rrrrrr (y 2) (y 20) (y 21) (y 22) (y 23) (y 24))), (y 20, aI V 2000 fy20), (y 21, aI V 6 fy21), (y 22, aI V 64 fy22), (y 26, .inr (5, o5_rrri (y 27) (y 28) (y 29) py26_3)), (y 27, aI V 10 fy27), (y 28, aI V 10 fy28), (y 29, aI V 10 fy29), (y 30, aT V 4 (va_up (va_up (va_up (va_up (fun _ => none) 0 (some (y 33))) 1 (some (y 35))) 2 (some (y 37))) 3 (some (y 39)))), (y 34, aJ V 40 fy34), (y 35, .inr (7, o7_rii (y 36) py35_1 py35_2)), (y 36, aJ V 40 fy36), (y 37, .inr (7, o7_rii (y 38) py37_1 py37_2)), (y 38, aJ V 40 fy38), (y 39, .inr (7, o7_rii (y 40) py39_1 py39_2)), (y 40, aJ V 40 fy40), (y 33, .inr (7, o7_rii (y 34) py33_1 py33_2))] H := hP
        have hD := cpD hP hD
        replace hR := te hR (by rw [← et_26]; decide)
        have b_55 : iv (-1) (-1) py33_1 := iv_l1 (Int32.not_le.mp c_25) bpy33_1 (iv_c (0 : Int32) (a := 0) (b := 0) (by decide)) (by decide)
        refine lv_if_eq (tgt := 25) hx hb dX9_perform_19 (by decide) (fun c_57 => absurd c_57 (by decide)) (fun _ => ?_)
        refine lv_bipush (v := (-6)) hx hb dX9_perform_22 (by decide) ?_
        have hP := subP (ws' := [(y 0, .inr (9, o9_rirrrrrrrrvviii (y 1) py0_1 (y 2) (y 10) (y 19) (y 25) (y 26) (y 30) (y 31) (y 32) o10 o11 py0_12 py0_13 py0_14)), (y 2, .inr (1, o1_iiiiiirrrrrrriiiii py2_0 py2_1 py2_2 py2_3 py2_4 py2_5 (y 3) (y 4) (y 5) (y 6) (y 7) (y 8) (y 9) py2_13 py2_14 py2_15 py2_16 py2_17)), (y 3, aI V 4 fy3), (y 9, aI V 900 fy9), (y 19, .inr (4, o4_rrrrrr (y 2) (y 20) (y 21) (y 22) (y 23) (y 24))), (y 20, aI V 2000 fy20), (y 21, aI V 6 fy21), (y 22, aI V 64 fy22), (y 26, .inr (5, o5_rrri (y 27) (y 28) (y 29) py26_3)), (y 27, aI V 10 fy27), (y 28, aI V 10 fy28), (y 29, aI V 10 fy29), (y 30, aT V 4 (va_up (va_up (va_up (va_up (fun _ => none) 0 (some (y 33))) 1 (some (y 35))) 2 (some (y 37))) 3 (some (y 39)))), (y 33, .inr (7, o7_rii (y 34) py33_1 py33_2)), (y 34, aJ V 40 fy34), (y 35, .inr (7, o7_rii (y 36) py35_1 py35_2)), (y 36, aJ V 40 fy36), (y 37, .inr (7, o7_rii (y 38) py37_1 py37_2)), (y 38, aJ V 40 fy38), (y 39, .inr (7, o7_rii (y 40) py39_1 py39_2)), (y 40, aJ V 40 fy40)]) hP [0, 1, 2, 3, 4, 5, 6, 7, 8, 9, 10, 11, 12, 20, 13, 14, 15, 16, 17, 18, 19] rfl
        have hD := subD hP hD [0, 1, 2, 3, 4, 5, 6, 7, 8, 9, 10, 11, 12, 20, 13, 14, 15, 16, 17, 18, 19] rfl rfl
        exact fiI hx hb hr hlk hK hP hD hS dX9_perform_24 (Nat.le_of_ble_eq_true rfl) (Nat.le_of_ble_eq_true rfl) (⟨py0_12, py0_13, py0_14, fy20, fy21, fy22, py26_3, fy27, fy28, fy29, bpy0_12, bpy0_13, tfy20, bpy26_3, tfy27, tfy28, (iv_c ((-6) : Int32) (by decide)), (congrArg Prod.fst (hR.symm.trans hT0)), (congrArg Prod.fst (congrArg Prod.snd (hR.symm.trans hT0))), (congrArg Prod.fst (congrArg Prod.snd (congrArg Prod.snd (hR.symm.trans hT0)))), (congrArg Prod.fst (congrArg Prod.snd (congrArg Prod.snd (congrArg Prod.snd (hR.symm.trans hT0))))), (congrArg Prod.fst (congrArg Prod.snd (congrArg Prod.snd (congrArg Prod.snd (congrArg Prod.snd (hR.symm.trans hT0)))))), (congrArg Prod.fst (congrArg Prod.snd (congrArg Prod.snd (congrArg Prod.snd (congrArg Prod.snd (congrArg Prod.snd (hR.symm.trans hT0))))))), (congrArg Prod.fst (congrArg Prod.snd (congrArg Prod.snd (congrArg Prod.snd (congrArg Prod.snd (congrArg Prod.snd (congrArg Prod.snd (hR.symm.trans hT0)))))))), (congrArg Prod.snd (congrArg Prod.snd (congrArg Prod.snd (congrArg Prod.snd (congrArg Prod.snd (congrArg Prod.snd (congrArg Prod.snd (hR.symm.trans hT0)))))))), hK9, rfl⟩)
    · replace hR := te hR (by decide)
      replace hR := ti hR rfl
      refine va_aldq hx hb hK hP 12 4 rfl rfl (vin (by decide +kernel)) dX9_perform_15 ?_
      refine W.eq (g2 := F0 m 16 ls (.ref (y 35) :: [])) rfl ?_
      refine jnI (wr := [(y 0, .inr (9, o9_rirrrrrrrrvviii (y 1) py0_1 (y 2) (y 10) (y 19) (y 25) (y 26) (y 30) (y 31) (y 32) o10 o11 py0_12 py0_13 py0_14)), (y 2, .inr (1, o1_iiiiiirrrrrrriiiii py2_0 py2_1 py2_2 py2_3 py2_4 py2_5 (y 3) (y 4) (y 5) (y 6) (y 7) (y 8) (y 9) py2_13 py2_14 py2_15 py2_16 py2_17)), (y 3, aI V 4 fy3), (y 9, aI V 900 fy9), (y 19, .inr (4, o4_rrrrrr (y 2) (y 20) (y 21) (y 22) (y 23) (y 24))), (y 20, aI V 2000 fy20), (y 21, aI V 6 fy21), (y 22, aI V 64 fy22), (y 26, .inr (5, o5_rrri (y 27) (y 28) (y 29) py26_3)), (y 27, aI V 10 fy27), (y 28, aI V 10 fy28), (y 29, aI V 10 fy29), (y 30, aT V 4 (va_up (va_up (va_up (va_up (fun _ => none) 0 (some (y 33))) 1 (some (y 35))) 2 (some (y 37))) 3 (some (y 39)))), (y 33, .inr (7, o7_rii (y 34) py33_1 py33_2)), (y 34, aJ V 40 fy34), (y 36, aJ V 40 fy36), (y 37, .inr (7, o7_rii (y 38) py37_1 py37_2)), (y 38, aJ V 40 fy38), (y 39, .inr (7, o7_rii (y 40) py39_1 py39_2)), (y 40, aJ V 40 fy40)]) (rnV (rest := []) ⟨hx, hb, hml, hown, hg⟩ (k_X7_isMissing_1 l V y py35_1 py35_2 bpy35_1) mt_X7_isMissing q_3_231 ⟨Nat.le_of_ble_eq_true rfl, Nat.le_of_ble_eq_true rfl⟩ hK hP hD hS hA hE [15] rfl rfl 15 rfl rfl rfl rfl hl.1 rfl (Nat.le_of_ble_eq_true rfl) dX9_perform_16 ⟨Nat.le_of_ble_eq_true rfl, Nat.le_of_ble_eq_true rfl⟩) hP hD hS hA [15] [0, 1, 2, 3, 4, 5, 6, 7, 8, 9, 10, 11, 12, 13, 14, 16, 17, 18, 19, 20] rfl rfl rfl (by decide) (fun r_58 w H locs hw hP hD hS => ?_)
      rcases hw with ⟨c_59, rfl, et_60, rfl⟩ | ⟨c_61, rfl, et_62, rfl⟩
      · have hP : va_P V.1 vwCl [(y 0, .inr (9, o9_rirrrrrrrrvviii (y 1) py0_1 (y 2) (y 10) (y 19) (y 25) (y 26) (y 30) (y 31) (y 32) o10 o11 py0_12 py0_13 py0_14)), (y 2, .inr (1, o1_iiiiiirrrrrrriiiii py2_0 py2_1 py2_2 py2_3 py2_4 py2_5 (y 3) (y 4) (y 5) (y 6) (y 7) (y 8) (y 9) py2_13 py2_14 py2_15 py2_16 py2_17)), (y 3, aI V 4 fy3), (y 9, aI V 900 fy9), (y 19, .inr (4, o4_rrrrrr (y 2) (y 20) (y 21) (y 22) (y 23) (y 24))), (y 20, aI V 2000 fy20), (y 21, aI V 6 fy21), (y 22, aI V 64 fy22), (y 26, .inr (5, o5_rrri (y 27) (y 28) (y 29) py26_3)), (y 27, aI V 10 fy27), (y 28, aI V 10 fy28), (y 29, aI V 10 fy29), (y 30, aT V 4 (va_up (va_up (va_up (va_up (fun _ => none) 0 (some (y 33))) 1 (some (y 35))) 2 (some (y 37))) 3 (some (y 39)))), (y 33, .inr (7, o7_rii (y 34) py33_1 py33_2)), (y 34, aJ V 40 fy34), (y 36, aJ V 40 fy36), (y 37, .inr (7, o7_rii (y 38) py37_1 py37_2)), (y 38, aJ V 40 fy38), (y 39, .inr (7, o7_rii (y 40) py39_1 py39_2)), (y 40, aJ V 40 fy40), (y 35, .inr (7, o7_rii (y 36) py35_1 py35_2))] H := hP
        have hD := cpD hP hD
        replace hR := ti hR et_60.symm
        have b_63 : iv 0 40 py35_1 := iv_e2 c_59 (iv_c (0 : Int32) (a := 0) (b := 0) (by decide)) bpy35_1 (by decide)
        refine lv_if_eq (tgt := 25) hx hb dX9_perform_19 (by decide) (fun _ => ?_) (fun c_65 => absurd c_65 (by decide))
        refine lv_aload_n hx hb dX9_perform_25 rfl (lv_at hl 0 rfl) ?_
        refine va_get (ci := 9) (v := .int py0_12) (C := RX9) (T := TX9) (N := 15) hx hb hg inX9 hown hK hP 0 rfl rfl 12 (by decide) (hg _ q_2_48) (fun _ h9 => h9) rfl dX9_perform_26 ?_
        refine lv_istore_n (lv' := [(2, .int py0_12), (0, .ref (y 0)), (1, .int 1)]) hx hb dX9_perform_29 rfl hl (by decide) rfl (fun ls hl => ?_)
        refine lv_aload_n hx hb dX9_perform_30 rfl (lv_at hl 1 rfl) ?_
        refine va_get (ci := 9) (v := .int py0_13) (C := RX9) (T := TX9) (N := 15) hx hb hg inX9 hown hK hP 0 rfl rfl 13 (by decide) (hg _ q_2_49) (fun _ h9 => h9) rfl dX9_perform_31 ?_
        refine lv_istore_n (lv' := [(3, .int py0_13), (2, .int py0_12), (0, .ref (y 0)), (1, .int 1)]) hx hb dX9_perform_34 rfl hl (by decide) rfl (fun ls hl => ?_)
        refine lv_aload_n hx hb dX9_perform_35 rfl (lv_at hl 2 rfl) ?_
        refine va_get (ci := 9) (v := .int py0_14) (C := RX9) (T := TX9) (N := 15) hx hb hg inX9 hown hK hP 0 rfl rfl 14 (by decide) (hg _ q_2_50) (fun _ h9 => h9) rfl dX9_perform_36 ?_
        refine lv_istore (lv' := [(4, .int py0_14), (3, .int py0_13), (2, .int py0_12), (0, .ref (y 0)), (1, .int 1)]) hx hb dX9_perform_39 hl (by decide) rfl (fun ls hl => ?_)
        refine lv_aload_n hx hb dX9_perform_41 rfl (lv_at hl 3 rfl) ?_
        refine lv_aload_n hx hb dX9_perform_42 rfl (lv_at hl 3 rfl) ?_
        refine va_get (ci := 9) (v := .ref (y 30)) (C := RX9) (T := TX9) (N := 15) hx hb hg inX9 hown hK hP 0 rfl rfl 7 (by decide) (hg _ q_2_43) (fun _ h9 => h9) rfl dX9_perform_43 ?_
        refine lv_iload_n hx hb dX9_perform_46 rfl (lv_at hl 4 rfl) ?_
        refine va_aldq hx hb hK hP 12 4 rfl rfl (vin (by decide +kernel)) dX9_perform_47 ?_
        refine W.eq (g2 := F0 m 48 ls (.ref (y 35) :: .ref (y 0) :: [])) rfl ?_
        refine jnI (wr := [(y 26, .inr (5, o5_rrri (y 27) (y 28) (y 29) py26_3)), (y 27, aI V 10 fy27), (y 28, aI V 10 fy28), (y 29, aI V 10 fy29), (y 30, aT V 4 (va_up (va_up (va_up (va_up (fun _ => none) 0 (some (y 33))) 1 (some (y 35))) 2 (some (y 37))) 3 (some (y 39)))), (y 33, .inr (7, o7_rii (y 34) py33_1 py33_2)), (y 34, aJ V 40 fy34), (y 37, .inr (7, o7_rii (y 38) py37_1 py37_2)), (y 38, aJ V 40 fy38), (y 39, .inr (7, o7_rii (y 40) py39_1 py39_2)), (y 40, aJ V 40 fy40)]) (rnV (rest := []) ⟨hx, hb, hml, hown, hg⟩ (k_X9_tryAll_1 l V y D9 py0_1 o10 o11 py0_12 py0_13 py0_14 py2_0 py2_1 py2_2 py2_3 py2_4 py2_5 py2_13 py2_14 py2_15 py2_16 py2_17 fy3 fy9 fy20 fy21 fy22 fy36 py35_1 py35_2 bpy0_1 bpy0_12 bpy0_13 bpy2_1 bpy2_2 bpy2_3 bpy2_4 bpy2_5 bpy2_13 bpy2_14 bpy2_15 bpy2_16 bpy2_17 tfy20 b_63 hL9 hK9) mt_X9_tryAll q_3_235 ⟨Nat.le_of_ble_eq_true rfl, Nat.le_of_ble_eq_true rfl⟩ hK hP hD hS hA hE [0, 1, 2, 3, 4, 5, 6, 7, 15, 20] rfl rfl 0 rfl rfl rfl rfl hl.1 rfl (Nat.le_of_ble_eq_true rfl) dX9_perform_48 ⟨Nat.le_of_ble_eq_true rfl, Nat.le_of_ble_eq_true rfl⟩) hP hD hS hA [0, 1, 2, 3, 4, 5, 6, 7, 15, 20] [8, 9, 10, 11, 12, 13, 14, 16, 17, 18, 19] rfl rfl rfl (by decide) (fun r_66 w H locs hw hP hD hS => ?_)
        obtain ⟨v_67, v_68, v_69, f_70, f_71, f_72, bv_67, bv_68, tf_70, br_66, ler_66, et_73, et_74, et_75, et_76, kn_77, rfl⟩ := hw
        replace hR := tb0 hR
        replace hR := tb hR et_73
        replace hR := tb hR et_74
        replace hR := tb hR et_75
        replace hR := tb hR et_76
        have hP : va_P V.1 vwCl [(y 26, .inr (5, o5_rrri (y 27) (y 28) (y 29) py26_3)), (y 27, aI V 10 fy27), (y 28, aI V 10 fy28), (y 29, aI V 10 fy29), (y 30, aT V 4 (va_up (va_up (va_up (va_up (fun _ => none) 0 (some (y 33))) 1 (some (y 35))) 2 (some (y 37))) 3 (some (y 39)))), (y 33, .inr (7, o7_rii (y 34) py33_1 py33_2)), (y 34, aJ V 40 fy34), (y 37, .inr (7, o7_rii (y 38) py37_1 py37_2)), (y 38, aJ V 40 fy38), (y 39, .inr (7, o7_rii (y 40) py39_1 py39_2)), (y 40, aJ V 40 fy40), (y 0, .inr (9, o9_rirrrrrrrrvviii (y 1) py0_1 (y 2) (y 10) (y 19) (y 25) (y 26) (y 30) (y 31) (y 32) o10 o11 v_67 v_68 v_69)), (y 2, .inr (1, o1_iiiiiirrrrrrriiiii py2_0 py2_1 py2_2 py2_3 py2_4 py2_5 (y 3) (y 4) (y 5) (y 6) (y 7) (y 8) (y 9) py2_13 py2_14 py2_15 py2_16 py2_17)), (y 3, aI V 4 fy3), (y 9, aI V 900 fy9), (y 19, .inr (4, o4_rrrrrr (y 2) (y 20) (y 21) (y 22) (y 23) (y 24))), (y 20, aI V 2000 f_70), (y 21, aI V 6 f_71), (y 22, aI V 64 f_72), (y 36, aJ V 40 fy36), (y 35, .inr (7, o7_rii (y 36) py35_1 py35_2))] H := hP
        have hD := cpD hP hD
        refine lv_istore (lv' := [(5, .int r_66), (4, .int py0_14), (3, .int py0_13), (2, .int py0_12), (0, .ref (y 0)), (1, .int 1)]) hx hb dX9_perform_51 hl (by decide) rfl (fun ls hl => ?_)
        refine lv_iload hx hb dX9_perform_53 (lv_at hl 0 rfl) ?_
        refine lv_if_le (tgt := 69) hx hb dX9_perform_55 (by decide) (fun c_79 => ?_) (fun c_79 => ?_)
        · replace hR := ti hR c_79
          have b_80 : iv 0 0 r_66 := iv_e1 c_79 br_66 (iv_c (0 : Int32) (a := 0) (b := 0) (by decide)) (by decide)
          refine lv_iload hx hb dX9_perform_69 (lv_at hl 0 rfl) ?_
          have hP := subP (ws' := [(y 0, .inr (9, o9_rirrrrrrrrvviii (y 1) py0_1 (y 2) (y 10) (y 19) (y 25) (y 26) (y 30) (y 31) (y 32) o10 o11 v_67 v_68 v_69)), (y 2, .inr (1, o1_iiiiiirrrrrrriiiii py2_0 py2_1 py2_2 py2_3 py2_4 py2_5 (y 3) (y 4) (y 5) (y 6) (y 7) (y 8) (y 9) py2_13 py2_14 py2_15 py2_16 py2_17)), (y 3, aI V 4 fy3), (y 9, aI V 900 fy9), (y 19, .inr (4, o4_rrrrrr (y 2) (y 20) (y 21) (y 22) (y 23) (y 24))), (y 20, aI V 2000 f_70), (y 21, aI V 6 f_71), (y 22, aI V 64 f_72), (y 26, .inr (5, o5_rrri (y 27) (y 28) (y 29) py26_3)), (y 27, aI V 10 fy27), (y 28, aI V 10 fy28), (y 29, aI V 10 fy29), (y 30, aT V 4 (va_up (va_up (va_up (va_up (fun _ => none) 0 (some (y 33))) 1 (some (y 35))) 2 (some (y 37))) 3 (some (y 39)))), (y 33, .inr (7, o7_rii (y 34) py33_1 py33_2)), (y 34, aJ V 40 fy34), (y 35, .inr (7, o7_rii (y 36) py35_1 py35_2)), (y 36, aJ V 40 fy36), (y 37, .inr (7, o7_rii (y 38) py37_1 py37_2)), (y 38, aJ V 40 fy38), (y 39, .inr (7, o7_rii (y 40) py39_1 py39_2)), (y 40, aJ V 40 fy40)]) hP [11, 12, 13, 14, 15, 16, 17, 18, 0, 1, 2, 3, 4, 5, 6, 20, 19, 7, 8, 9, 10] rfl
          have hD := subD hP hD [11, 12, 13, 14, 15, 16, 17, 18, 0, 1, 2, 3, 4, 5, 6, 20, 19, 7, 8, 9, 10] rfl rfl
          exact fiI hx hb hr hlk hK hP hD hS dX9_perform_71 (Nat.le_of_ble_eq_true rfl) (Nat.le_of_ble_eq_true rfl) (⟨v_67, v_68, v_69, f_70, f_71, f_72, py26_3, fy27, fy28, fy29, bv_67, bv_68, tf_70, bpy26_3, tfy27, tfy28, (iv_w b_80 (by decide)), (congrArg Prod.fst (hR.symm.trans hT0)), (congrArg Prod.fst (congrArg Prod.snd (hR.symm.trans hT0))), (congrArg Prod.fst (congrArg Prod.snd (congrArg Prod.snd (hR.symm.trans hT0)))), (congrArg Prod.fst (congrArg Prod.snd (congrArg Prod.snd (congrArg Prod.snd (hR.symm.trans hT0))))), (congrArg Prod.fst (congrArg Prod.snd (congrArg Prod.snd (congrArg Prod.snd (congrArg Prod.snd (hR.symm.trans hT0)))))), (congrArg Prod.fst (congrArg Prod.snd (congrArg Prod.snd (congrArg Prod.snd (congrArg Prod.snd (congrArg Prod.snd (hR.symm.trans hT0))))))), (congrArg Prod.fst (congrArg Prod.snd (congrArg Prod.snd (congrArg Prod.snd (congrArg Prod.snd (congrArg Prod.snd (congrArg Prod.snd (hR.symm.trans hT0)))))))), (congrArg Prod.snd (congrArg Prod.snd (congrArg Prod.snd (congrArg Prod.snd (congrArg Prod.snd (congrArg Prod.snd (congrArg Prod.snd (hR.symm.trans hT0)))))))), kn_77, rfl⟩)
        · replace hR := te hR c_79
          have b_81 : iv 1 40 r_66 := iv_l2 (Int32.not_le.mp c_79) (iv_c (0 : Int32) (a := 0) (b := 0) (by decide)) br_66 (by decide)
          refine lv_aload_n hx hb dX9_perform_58 rfl (lv_at hl 4 rfl) ?_
          refine va_get (ci := 9) (v := .ref (y 26)) (C := RX9) (T := TX9) (N := 15) hx hb hg inX9 hown hK hP 11 rfl rfl 6 (by decide) (hg _ q_2_42) (fun _ h9 => h9) rfl dX9_perform_59 ?_
          refine lv_iload_n hx hb dX9_perform_62 rfl (lv_at hl 3 rfl) ?_
          refine lv_iload_n hx hb dX9_perform_63 rfl (lv_at hl 2 rfl) ?_
          refine lv_iload hx hb dX9_perform_64 (lv_at hl 1 rfl) ?_
          refine jnV (wr := [(y 30, aT V 4 (va_up (va_up (va_up (va_up (fun _ => none) 0 (some (y 33))) 1 (some (y 35))) 2 (some (y 37))) 3 (some (y 39)))), (y 33, .inr (7, o7_rii (y 34) py33_1 py33_2)), (y 34, aJ V 40 fy34), (y 37, .inr (7, o7_rii (y 38) py37_1 py37_2)), (y 38, aJ V 40 fy38), (y 39, .inr (7, o7_rii (y 40) py39_1 py39_2)), (y 40, aJ V 40 fy40), (y 0, .inr (9, o9_rirrrrrrrrvviii (y 1) py0_1 (y 2) (y 10) (y 19) (y 25) (y 26) (y 30) (y 31) (y 32) o10 o11 v_67 v_68 v_69)), (y 2, .inr (1, o1_iiiiiirrrrrrriiiii py2_0 py2_1 py2_2 py2_3 py2_4 py2_5 (y 3) (y 4) (y 5) (y 6) (y 7) (y 8) (y 9) py2_13 py2_14 py2_15 py2_16 py2_17)), (y 3, aI V 4 fy3), (y 9, aI V 900 fy9), (y 19, .inr (4, o4_rrrrrr (y 2) (y 20) (y 21) (y 22) (y 23) (y 24))), (y 20, aI V 2000 f_70), (y 21, aI V 6 f_71), (y 22, aI V 64 f_72), (y 36, aJ V 40 fy36), (y 35, .inr (7, o7_rii (y 36) py35_1 py35_2))]) (rnV (rest := []) ⟨hx, hb, hml, hown, hg⟩ (k_X5_keep_0 l V y py0_12 py0_13 py0_14 py26_3 fy27 fy28 fy29 bpy0_12 bpy0_13 bpy26_3 tfy27 tfy28) mt_X5_keep q_3_177 ⟨Nat.le_of_ble_eq_true rfl, Nat.le_of_ble_eq_true rfl⟩ hK hP hD hS hA hE [0, 1, 2, 3] rfl rfl 0 rfl rfl rfl rfl hl.1 rfl (Nat.le_of_ble_eq_true rfl) dX9_perform_66 ⟨Nat.le_of_ble_eq_true rfl, Nat.le_of_ble_eq_true rfl⟩) hP hD hS hA [0, 1, 2, 3] [4, 5, 6, 7, 8, 9, 10, 11, 12, 13, 14, 15, 16, 17, 18, 19, 20] rfl rfl rfl (by decide) (fun  w H locs hw hP hD hS => ?_)
          obtain ⟨v_82, f_83, f_84, f_85, bv_82, tf_83, tf_84, et_86, et_87, et_88, et_89, rfl⟩ := hw
          replace hR := tb0 hR
          replace hR := tb hR et_86
          replace hR := tb hR et_87
          replace hR := tb hR et_88
          replace hR := tb hR et_89
          have hP : va_P V.1 vwCl [(y 30, aT V 4 (va_up (va_up (va_up (va_up (fun _ => none) 0 (some (y 33))) 1 (some (y 35))) 2 (some (y 37))) 3 (some (y 39)))), (y 33, .inr (7, o7_rii (y 34) py33_1 py33_2)), (y 34, aJ V 40 fy34), (y 37, .inr (7, o7_rii (y 38) py37_1 py37_2)), (y 38, aJ V 40 fy38), (y 39, .inr (7, o7_rii (y 40) py39_1 py39_2)), (y 40, aJ V 40 fy40), (y 0, .inr (9, o9_rirrrrrrrrvviii (y 1) py0_1 (y 2) (y 10) (y 19) (y 25) (y 26) (y 30) (y 31) (y 32) o10 o11 v_67 v_68 v_69)), (y 2, .inr (1, o1_iiiiiirrrrrrriiiii py2_0 py2_1 py2_2 py2_3 py2_4 py2_5 (y 3) (y 4) (y 5) (y 6) (y 7) (y 8) (y 9) py2_13 py2_14 py2_15 py2_16 py2_17)), (y 3, aI V 4 fy3), (y 9, aI V 900 fy9), (y 19, .inr (4, o4_rrrrrr (y 2) (y 20) (y 21) (y 22) (y 23) (y 24))), (y 20, aI V 2000 f_70), (y 21, aI V 6 f_71), (y 22, aI V 64 f_72), (y 36, aJ V 40 fy36), (y 35, .inr (7, o7_rii (y 36) py35_1 py35_2)), (y 26, .inr (5, o5_rrri (y 27) (y 28) (y 29) v_82)), (y 27, aI V 10 f_83), (y 28, aI V 10 f_84), (y 29, aI V 10 f_85)] H := hP
          have hD := cpD hP hD
          refine lv_iload hx hb dX9_perform_69 (lv_at hl 0 rfl) ?_
          have hP := subP (ws' := [(y 0, .inr (9, o9_rirrrrrrrrvviii (y 1) py0_1 (y 2) (y 10) (y 19) (y 25) (y 26) (y 30) (y 31) (y 32) o10 o11 v_67 v_68 v_69)), (y 2, .inr (1, o1_iiiiiirrrrrrriiiii py2_0 py2_1 py2_2 py2_3 py2_4 py2_5 (y 3) (y 4) (y 5) (y 6) (y 7) (y 8) (y 9) py2_13 py2_14 py2_15 py2_16 py2_17)), (y 3, aI V 4 fy3), (y 9, aI V 900 fy9), (y 19, .inr (4, o4_rrrrrr (y 2) (y 20) (y 21) (y 22) (y 23) (y 24))), (y 20, aI V 2000 f_70), (y 21, aI V 6 f_71), (y 22, aI V 64 f_72), (y 26, .inr (5, o5_rrri (y 27) (y 28) (y 29) v_82)), (y 27, aI V 10 f_83), (y 28, aI V 10 f_84), (y 29, aI V 10 f_85), (y 30, aT V 4 (va_up (va_up (va_up (va_up (fun _ => none) 0 (some (y 33))) 1 (some (y 35))) 2 (some (y 37))) 3 (some (y 39)))), (y 33, .inr (7, o7_rii (y 34) py33_1 py33_2)), (y 34, aJ V 40 fy34), (y 35, .inr (7, o7_rii (y 36) py35_1 py35_2)), (y 36, aJ V 40 fy36), (y 37, .inr (7, o7_rii (y 38) py37_1 py37_2)), (y 38, aJ V 40 fy38), (y 39, .inr (7, o7_rii (y 40) py39_1 py39_2)), (y 40, aJ V 40 fy40)]) hP [7, 8, 9, 10, 11, 12, 13, 14, 17, 18, 19, 20, 0, 1, 2, 16, 15, 3, 4, 5, 6] rfl
          have hD := subD hP hD [7, 8, 9, 10, 11, 12, 13, 14, 17, 18, 19, 20, 0, 1, 2, 16, 15, 3, 4, 5, 6] rfl rfl
          exact fiI hx hb hr hlk hK hP hD hS dX9_perform_71 (Nat.le_of_ble_eq_true rfl) (Nat.le_of_ble_eq_true rfl) (⟨v_67, v_68, v_69, f_70, f_71, f_72, v_82, f_83, f_84, f_85, bv_67, bv_68, tf_70, bv_82, tf_83, tf_84, (iv_w b_81 (by decide)), (congrArg Prod.fst (hR.symm.trans hT0)), (congrArg Prod.fst (congrArg Prod.snd (hR.symm.trans hT0))), (congrArg Prod.fst (congrArg Prod.snd (congrArg Prod.snd (hR.symm.trans hT0)))), (congrArg Prod.fst (congrArg Prod.snd (congrArg Prod.snd (congrArg Prod.snd (hR.symm.trans hT0))))), (congrArg Prod.fst (congrArg Prod.snd (congrArg Prod.snd (congrArg Prod.snd (congrArg Prod.snd (hR.symm.trans hT0)))))), (congrArg Prod.fst (congrArg Prod.snd (congrArg Prod.snd (congrArg Prod.snd (congrArg Prod.snd (congrArg Prod.snd (hR.symm.trans hT0))))))), (congrArg Prod.fst (congrArg Prod.snd (congrArg Prod.snd (congrArg Prod.snd (congrArg Prod.snd (congrArg Prod.snd (congrArg Prod.snd (hR.symm.trans hT0)))))))), (congrArg Prod.snd (congrArg Prod.snd (congrArg Prod.snd (congrArg Prod.snd (congrArg Prod.snd (congrArg Prod.snd (congrArg Prod.snd (hR.symm.trans hT0)))))))), kn_77, rfl⟩)
      · have hP : va_P V.1 vwCl [(y 0, .inr (9, o9_rirrrrrrrrvviii (y 1) py0_1 (y 2) (y 10) (y 19) (y 25) (y 26) (y 30) (y 31) (y 32) o10 o11 py0_12 py0_13 py0_14)), (y 2, .inr (1, o1_iiiiiirrrrrrriiiii py2_0 py2_1 py2_2 py2_3 py2_4 py2_5 (y 3) (y 4) (y 5) (y 6) (y 7) (y 8) (y 9) py2_13 py2_14 py2_15 py2_16 py2_17)), (y 3, aI V 4 fy3), (y 9, aI V 900 fy9), (y 19, .inr (4, o4_rrrrrr (y 2) (y 20) (y 21) (y 22) (y 23) (y 24))), (y 20, aI V 2000 fy20), (y 21, aI V 6 fy21), (y 22, aI V 64 fy22), (y 26, .inr (5, o5_rrri (y 27) (y 28) (y 29) py26_3)), (y 27, aI V 10 fy27), (y 28, aI V 10 fy28), (y 29, aI V 10 fy29), (y 30, aT V 4 (va_up (va_up (va_up (va_up (fun _ => none) 0 (some (y 33))) 1 (some (y 35))) 2 (some (y 37))) 3 (some (y 39)))), (y 33, .inr (7, o7_rii (y 34) py33_1 py33_2)), (y 34, aJ V 40 fy34), (y 36, aJ V 40 fy36), (y 37, .inr (7, o7_rii (y 38) py37_1 py37_2)), (y 38, aJ V 40 fy38), (y 39, .inr (7, o7_rii (y 40) py39_1 py39_2)), (y 40, aJ V 40 fy40), (y 35, .inr (7, o7_rii (y 36) py35_1 py35_2))] H := hP
        have hD := cpD hP hD
        replace hR := te hR (by rw [← et_62]; decide)
        have b_91 : iv (-1) (-1) py35_1 := iv_l1 (Int32.not_le.mp c_61) bpy35_1 (iv_c (0 : Int32) (a := 0) (b := 0) (by decide)) (by decide)
        refine lv_if_eq (tgt := 25) hx hb dX9_perform_19 (by decide) (fun c_93 => absurd c_93 (by decide)) (fun _ => ?_)
        refine lv_bipush (v := (-6)) hx hb dX9_perform_22 (by decide) ?_
        have hP := subP (ws' := [(y 0, .inr (9, o9_rirrrrrrrrvviii (y 1) py0_1 (y 2) (y 10) (y 19) (y 25) (y 26) (y 30) (y 31) (y 32) o10 o11 py0_12 py0_13 py0_14)), (y 2, .inr (1, o1_iiiiiirrrrrrriiiii py2_0 py2_1 py2_2 py2_3 py2_4 py2_5 (y 3) (y 4) (y 5) (y 6) (y 7) (y 8) (y 9) py2_13 py2_14 py2_15 py2_16 py2_17)), (y 3, aI V 4 fy3), (y 9, aI V 900 fy9), (y 19, .inr (4, o4_rrrrrr (y 2) (y 20) (y 21) (y 22) (y 23) (y 24))), (y 20, aI V 2000 fy20), (y 21, aI V 6 fy21), (y 22, aI V 64 fy22), (y 26, .inr (5, o5_rrri (y 27) (y 28) (y 29) py26_3)), (y 27, aI V 10 fy27), (y 28, aI V 10 fy28), (y 29, aI V 10 fy29), (y 30, aT V 4 (va_up (va_up (va_up (va_up (fun _ => none) 0 (some (y 33))) 1 (some (y 35))) 2 (some (y 37))) 3 (some (y 39)))), (y 33, .inr (7, o7_rii (y 34) py33_1 py33_2)), (y 34, aJ V 40 fy34), (y 35, .inr (7, o7_rii (y 36) py35_1 py35_2)), (y 36, aJ V 40 fy36), (y 37, .inr (7, o7_rii (y 38) py37_1 py37_2)), (y 38, aJ V 40 fy38), (y 39, .inr (7, o7_rii (y 40) py39_1 py39_2)), (y 40, aJ V 40 fy40)]) hP [0, 1, 2, 3, 4, 5, 6, 7, 8, 9, 10, 11, 12, 13, 14, 20, 15, 16, 17, 18, 19] rfl
        have hD := subD hP hD [0, 1, 2, 3, 4, 5, 6, 7, 8, 9, 10, 11, 12, 13, 14, 20, 15, 16, 17, 18, 19] rfl rfl
        exact fiI hx hb hr hlk hK hP hD hS dX9_perform_24 (Nat.le_of_ble_eq_true rfl) (Nat.le_of_ble_eq_true rfl) (⟨py0_12, py0_13, py0_14, fy20, fy21, fy22, py26_3, fy27, fy28, fy29, bpy0_12, bpy0_13, tfy20, bpy26_3, tfy27, tfy28, (iv_c ((-6) : Int32) (by decide)), (congrArg Prod.fst (hR.symm.trans hT0)), (congrArg Prod.fst (congrArg Prod.snd (hR.symm.trans hT0))), (congrArg Prod.fst (congrArg Prod.snd (congrArg Prod.snd (hR.symm.trans hT0)))), (congrArg Prod.fst (congrArg Prod.snd (congrArg Prod.snd (congrArg Prod.snd (hR.symm.trans hT0))))), (congrArg Prod.fst (congrArg Prod.snd (congrArg Prod.snd (congrArg Prod.snd (congrArg Prod.snd (hR.symm.trans hT0)))))), (congrArg Prod.fst (congrArg Prod.snd (congrArg Prod.snd (congrArg Prod.snd (congrArg Prod.snd (congrArg Prod.snd (hR.symm.trans hT0))))))), (congrArg Prod.fst (congrArg Prod.snd (congrArg Prod.snd (congrArg Prod.snd (congrArg Prod.snd (congrArg Prod.snd (congrArg Prod.snd (hR.symm.trans hT0)))))))), (congrArg Prod.snd (congrArg Prod.snd (congrArg Prod.snd (congrArg Prod.snd (congrArg Prod.snd (congrArg Prod.snd (congrArg Prod.snd (hR.symm.trans hT0)))))))), hK9, rfl⟩)
    · replace hR := te hR (by decide)
      replace hR := te hR (by decide)
      replace hR := ti hR rfl
      refine va_aldq hx hb hK hP 12 4 rfl rfl (vin (by decide +kernel)) dX9_perform_15 ?_
      refine W.eq (g2 := F0 m 16 ls (.ref (y 37) :: [])) rfl ?_
      refine jnI (wr := [(y 0, .inr (9, o9_rirrrrrrrrvviii (y 1) py0_1 (y 2) (y 10) (y 19) (y 25) (y 26) (y 30) (y 31) (y 32) o10 o11 py0_12 py0_13 py0_14)), (y 2, .inr (1, o1_iiiiiirrrrrrriiiii py2_0 py2_1 py2_2 py2_3 py2_4 py2_5 (y 3) (y 4) (y 5) (y 6) (y 7) (y 8) (y 9) py2_13 py2_14 py2_15 py2_16 py2_17)), (y 3, aI V 4 fy3), (y 9, aI V 900 fy9), (y 19, .inr (4, o4_rrrrrr (y 2) (y 20) (y 21) (y 22) (y 23) (y 24))), (y 20, aI V 2000 fy20), (y 21, aI V 6 fy21), (y 22, aI V 64 fy22), (y 26, .inr (5, o5_rrri (y 27) (y 28) (y 29) py26_3)), (y 27, aI V 10 fy27), (y 28, aI V 10 fy28), (y 29, aI V 10 fy29), (y 30, aT V 4 (va_up (va_up (va_up (va_up (fun _ => none) 0 (some (y 33))) 1 (some (y 35))) 2 (some (y 37))) 3 (some (y 39)))), (y 33, .inr (7, o7_rii (y 34) py33_1 py33_2)), (y 34, aJ V 40 fy34), (y 35, .inr (7, o7_rii (y 36) py35_1 py35_2)), (y 36, aJ V 40 fy36), (y 38, aJ V 40 fy38), (y 39, .inr (7, o7_rii (y 40) py39_1 py39_2)), (y 40, aJ V 40 fy40)]) (rnV (rest := []) ⟨hx, hb, hml, hown, hg⟩ (k_X7_isMissing_2 l V y py37_1 py37_2 bpy37_1) mt_X7_isMissing q_3_231 ⟨Nat.le_of_ble_eq_true rfl, Nat.le_of_ble_eq_true rfl⟩ hK hP hD hS hA hE [17] rfl rfl 17 rfl rfl rfl rfl hl.1 rfl (Nat.le_of_ble_eq_true rfl) dX9_perform_16 ⟨Nat.le_of_ble_eq_true rfl, Nat.le_of_ble_eq_true rfl⟩) hP hD hS hA [17] [0, 1, 2, 3, 4, 5, 6, 7, 8, 9, 10, 11, 12, 13, 14, 15, 16, 18, 19, 20] rfl rfl rfl (by decide) (fun r_94 w H locs hw hP hD hS => ?_)
      rcases hw with ⟨c_95, rfl, et_96, rfl⟩ | ⟨c_97, rfl, et_98, rfl⟩
      · have hP : va_P V.1 vwCl [(y 0, .inr (9, o9_rirrrrrrrrvviii (y 1) py0_1 (y 2) (y 10) (y 19) (y 25) (y 26) (y 30) (y 31) (y 32) o10 o11 py0_12 py0_13 py0_14)), (y 2, .inr (1, o1_iiiiiirrrrrrriiiii py2_0 py2_1 py2_2 py2_3 py2_4 py2_5 (y 3) (y 4) (y 5) (y 6) (y 7) (y 8) (y 9) py2_13 py2_14 py2_15 py2_16 py2_17)), (y 3, aI V 4 fy3), (y 9, aI V 900 fy9), (y 19, .inr (4, o4_rrrrrr (y 2) (y 20) (y 21) (y 22) (y 23) (y 24))), (y 20, aI V 2000 fy20), (y 21, aI V 6 fy21), (y 22, aI V 64 fy22), (y 26, .inr (5, o5_rrri (y 27) (y 28) (y 29) py26_3)), (y 27, aI V 10 fy27), (y 28, aI V 10 fy28), (y 29, aI V 10 fy29), (y 30, aT V 4 (va_up (va_up (va_up (va_up (fun _ => none) 0 (some (y 33))) 1 (some (y 35))) 2 (some (y 37))) 3 (some (y 39)))), (y 33, .inr (7, o7_rii (y 34) py33_1 py33_2)), (y 34, aJ V 40 fy34), (y 35, .inr (7, o7_rii (y 36) py35_1 py35_2)), (y 36, aJ V 40 fy36), (y 38, aJ V 40 fy38), (y 39, .inr (7, o7_rii (y 40) py39_1 py39_2)), (y 40, aJ V 40 fy40), (y 37, .inr (7, o7_rii (y 38) py37_1 py37_2))] H := hP
        have hD := cpD hP hD
        replace hR := ti hR et_96.symm
        have b_99 : iv 0 40 py37_1 := iv_e2 c_95 (iv_c (0 : Int32) (a := 0) (b := 0) (by decide)) bpy37_1 (by decide)
        refine lv_if_eq (tgt := 25) hx hb dX9_perform_19 (by decide) (fun _ => ?_) (fun c_101 => absurd c_101 (by decide))
        refine lv_aload_n hx hb dX9_perform_25 rfl (lv_at hl 0 rfl) ?_
        refine va_get (ci := 9) (v := .int py0_12) (C := RX9) (T := TX9) (N := 15) hx hb hg inX9 hown hK hP 0 rfl rfl 12 (by decide) (hg _ q_2_48) (fun _ h9 => h9) rfl dX9_perform_26 ?_
        refine lv_istore_n (lv' := [(2, .int py0_12), (0, .ref (y 0)), (1, .int 2)]) hx hb dX9_perform_29 rfl hl (by decide) rfl (fun ls hl => ?_)
        refine lv_aload_n hx hb dX9_perform_30 rfl (lv_at hl 1 rfl) ?_
        refine va_get (ci := 9) (v := .int py0_13) (C := RX9) (T := TX9) (N := 15) hx hb hg inX9 hown hK hP 0 rfl rfl 13 (by decide) (hg _ q_2_49) (fun _ h9 => h9) rfl dX9_perform_31 ?_
        refine lv_istore_n (lv' := [(3, .int py0_13), (2, .int py0_12), (0, .ref (y 0)), (1, .int 2)]) hx hb dX9_perform_34 rfl hl (by decide) rfl (fun ls hl => ?_)
        refine lv_aload_n hx hb dX9_perform_35 rfl (lv_at hl 2 rfl) ?_
        refine va_get (ci := 9) (v := .int py0_14) (C := RX9) (T := TX9) (N := 15) hx hb hg inX9 hown hK hP 0 rfl rfl 14 (by decide) (hg _ q_2_50) (fun _ h9 => h9) rfl dX9_perform_36 ?_
        refine lv_istore (lv' := [(4, .int py0_14), (3, .int py0_13), (2, .int py0_12), (0, .ref (y 0)), (1, .int 2)]) hx hb dX9_perform_39 hl (by decide) rfl (fun ls hl => ?_)
        refine lv_aload_n hx hb dX9_perform_41 rfl (lv_at hl 3 rfl) ?_
        refine lv_aload_n hx hb dX9_perform_42 rfl (lv_at hl 3 rfl) ?_
        refine va_get (ci := 9) (v := .ref (y 30)) (C := RX9) (T := TX9) (N := 15) hx hb hg inX9 hown hK hP 0 rfl rfl 7 (by decide) (hg _ q_2_43) (fun _ h9 => h9) rfl dX9_perform_43 ?_
        refine lv_iload_n hx hb dX9_perform_46 rfl (lv_at hl 4 rfl) ?_
        refine va_aldq hx hb hK hP 12 4 rfl rfl (vin (by decide +kernel)) dX9_perform_47 ?_
        refine W.eq (g2 := F0 m 48 ls (.ref (y 37) :: .ref (y 0) :: [])) rfl ?_
        refine jnI (wr := [(y 26, .inr (5, o5_rrri (y 27) (y 28) (y 29) py26_3)), (y 27, aI V 10 fy27), (y 28, aI V 10 fy28), (y 29, aI V 10 fy29), (y 30, aT V 4 (va_up (va_up (va_up (va_up (fun _ => none) 0 (some (y 33))) 1 (some (y 35))) 2 (some (y 37))) 3 (some (y 39)))), (y 33, .inr (7, o7_rii (y 34) py33_1 py33_2)), (y 34, aJ V 40 fy34), (y 35, .inr (7, o7_rii (y 36) py35_1 py35_2)), (y 36, aJ V 40 fy36), (y 39, .inr (7, o7_rii (y 40) py39_1 py39_2)), (y 40, aJ V 40 fy40)]) (rnV (rest := []) ⟨hx, hb, hml, hown, hg⟩ (k_X9_tryAll_2 l V y D9 py0_1 o10 o11 py0_12 py0_13 py0_14 py2_0 py2_1 py2_2 py2_3 py2_4 py2_5 py2_13 py2_14 py2_15 py2_16 py2_17 fy3 fy9 fy20 fy21 fy22 fy38 py37_1 py37_2 bpy0_1 bpy0_12 bpy0_13 bpy2_1 bpy2_2 bpy2_3 bpy2_4 bpy2_5 bpy2_13 bpy2_14 bpy2_15 bpy2_16 bpy2_17 tfy20 b_99 hL9 hK9) mt_X9_tryAll q_3_235 ⟨Nat.le_of_ble_eq_true rfl, Nat.le_of_ble_eq_true rfl⟩ hK hP hD hS hA hE [0, 1, 2, 3, 4, 5, 6, 7, 17, 20] rfl rfl 0 rfl rfl rfl rfl hl.1 rfl (Nat.le_of_ble_eq_true rfl) dX9_perform_48 ⟨Nat.le_of_ble_eq_true rfl, Nat.le_of_ble_eq_true rfl⟩) hP hD hS hA [0, 1, 2, 3, 4, 5, 6, 7, 17, 20] [8, 9, 10, 11, 12, 13, 14, 15, 16, 18, 19] rfl rfl rfl (by decide) (fun r_102 w H locs hw hP hD hS => ?_)
        obtain ⟨v_103, v_104, v_105, f_106, f_107, f_108, bv_103, bv_104, tf_106, br_102, ler_102, et_109, et_110, et_111, et_112, kn_113, rfl⟩ := hw
        replace hR := tb0 hR
        replace hR := tb hR et_109
        replace hR := tb hR et_110
        replace hR := tb hR et_111
        replace hR := tb hR et_112
        have hP : va_P V.1 vwCl [(y 26, .inr (5, o5_rrri (y 27) (y 28) (y 29) py26_3)), (y 27, aI V 10 fy27), (y 28, aI V 10 fy28), (y 29, aI V 10 fy29), (y 30, aT V 4 (va_up (va_up (va_up (va_up (fun _ => none) 0 (some (y 33))) 1 (some (y 35))) 2 (some (y 37))) 3 (some (y 39)))), (y 33, .inr (7, o7_rii (y 34) py33_1 py33_2)), (y 34, aJ V 40 fy34), (y 35, .inr (7, o7_rii (y 36) py35_1 py35_2)), (y 36, aJ V 40 fy36), (y 39, .inr (7, o7_rii (y 40) py39_1 py39_2)), (y 40, aJ V 40 fy40), (y 0, .inr (9, o9_rirrrrrrrrvviii (y 1) py0_1 (y 2) (y 10) (y 19) (y 25) (y 26) (y 30) (y 31) (y 32) o10 o11 v_103 v_104 v_105)), (y 2, .inr (1, o1_iiiiiirrrrrrriiiii py2_0 py2_1 py2_2 py2_3 py2_4 py2_5 (y 3) (y 4) (y 5) (y 6) (y 7) (y 8) (y 9) py2_13 py2_14 py2_15 py2_16 py2_17)), (y 3, aI V 4 fy3), (y 9, aI V 900 fy9), (y 19, .inr (4, o4_rrrrrr (y 2) (y 20) (y 21) (y 22) (y 23) (y 24))), (y 20, aI V 2000 f_106), (y 21, aI V 6 f_107), (y 22, aI V 64 f_108), (y 38, aJ V 40 fy38), (y 37, .inr (7, o7_rii (y 38) py37_1 py37_2))] H := hP
        have hD := cpD hP hD
        refine lv_istore (lv' := [(5, .int r_102), (4, .int py0_14), (3, .int py0_13), (2, .int py0_12), (0, .ref (y 0)), (1, .int 2)]) hx hb dX9_perform_51 hl (by decide) rfl (fun ls hl => ?_)
        refine lv_iload hx hb dX9_perform_53 (lv_at hl 0 rfl) ?_
        refine lv_if_le (tgt := 69) hx hb dX9_perform_55 (by decide) (fun c_115 => ?_) (fun c_115 => ?_)
        · replace hR := ti hR c_115
          have b_116 : iv 0 0 r_102 := iv_e1 c_115 br_102 (iv_c (0 : Int32) (a := 0) (b := 0) (by decide)) (by decide)
          refine lv_iload hx hb dX9_perform_69 (lv_at hl 0 rfl) ?_
          have hP := subP (ws' := [(y 0, .inr (9, o9_rirrrrrrrrvviii (y 1) py0_1 (y 2) (y 10) (y 19) (y 25) (y 26) (y 30) (y 31) (y 32) o10 o11 v_103 v_104 v_105)), (y 2, .inr (1, o1_iiiiiirrrrrrriiiii py2_0 py2_1 py2_2 py2_3 py2_4 py2_5 (y 3) (y 4) (y 5) (y 6) (y 7) (y 8) (y 9) py2_13 py2_14 py2_15 py2_16 py2_17)), (y 3, aI V 4 fy3), (y 9, aI V 900 fy9), (y 19, .inr (4, o4_rrrrrr (y 2) (y 20) (y 21) (y 22) (y 23) (y 24))), (y 20, aI V 2000 f_106), (y 21, aI V 6 f_107), (y 22, aI V 64 f_108), (y 26, .inr (5, o5_rrri (y 27) (y 28) (y 29) py26_3)), (y 27, aI V 10 fy27), (y 28, aI V 10 fy28), (y 29, aI V 10 fy29), (y 30, aT V 4 (va_up (va_up (va_up (va_up (fun _ => none) 0 (some (y 33))) 1 (some (y 35))) 2 (some (y 37))) 3 (some (y 39)))), (y 33, .inr (7, o7_rii (y 34) py33_1 py33_2)), (y 34, aJ V 40 fy34), (y 35, .inr (7, o7_rii (y 36) py35_1 py35_2)), (y 36, aJ V 40 fy36), (y 37, .inr (7, o7_rii (y 38) py37_1 py37_2)), (y 38, aJ V 40 fy38), (y 39, .inr (7, o7_rii (y 40) py39_1 py39_2)), (y 40, aJ V 40 fy40)]) hP [11, 12, 13, 14, 15, 16, 17, 18, 0, 1, 2, 3, 4, 5, 6, 7, 8, 20, 19, 9, 10] rfl
          have hD := subD hP hD [11, 12, 13, 14, 15, 16, 17, 18, 0, 1, 2, 3, 4, 5, 6, 7, 8, 20, 19, 9, 10] rfl rfl
          exact fiI hx hb hr hlk hK hP hD hS dX9_perform_71 (Nat.le_of_ble_eq_true rfl) (Nat.le_of_ble_eq_true rfl) (⟨v_103, v_104, v_105, f_106, f_107, f_108, py26_3, fy27, fy28, fy29, bv_103, bv_104, tf_106, bpy26_3, tfy27, tfy28, (iv_w b_116 (by decide)), (congrArg Prod.fst (hR.symm.trans hT0)), (congrArg Prod.fst (congrArg Prod.snd (hR.symm.trans hT0))), (congrArg Prod.fst (congrArg Prod.snd (congrArg Prod.snd (hR.symm.trans hT0)))), (congrArg Prod.fst (congrArg Prod.snd (congrArg Prod.snd (congrArg Prod.snd (hR.symm.trans hT0))))), (congrArg Prod.fst (congrArg Prod.snd (congrArg Prod.snd (congrArg Prod.snd (congrArg Prod.snd (hR.symm.trans hT0)))))), (congrArg Prod.fst (congrArg Prod.snd (congrArg Prod.snd (congrArg Prod.snd (congrArg Prod.snd (congrArg Prod.snd (hR.symm.trans hT0))))))), (congrArg Prod.fst (congrArg Prod.snd (congrArg Prod.snd (congrArg Prod.snd (congrArg Prod.snd (congrArg Prod.snd (congrArg Prod.snd (hR.symm.trans hT0)))))))), (congrArg Prod.snd (congrArg Prod.snd (congrArg Prod.snd (congrArg Prod.snd (congrArg Prod.snd (congrArg Prod.snd (congrArg Prod.snd (hR.symm.trans hT0)))))))), kn_113, rfl⟩)
        · replace hR := te hR c_115
          have b_117 : iv 1 40 r_102 := iv_l2 (Int32.not_le.mp c_115) (iv_c (0 : Int32) (a := 0) (b := 0) (by decide)) br_102 (by decide)
          refine lv_aload_n hx hb dX9_perform_58 rfl (lv_at hl 4 rfl) ?_
          refine va_get (ci := 9) (v := .ref (y 26)) (C := RX9) (T := TX9) (N := 15) hx hb hg inX9 hown hK hP 11 rfl rfl 6 (by decide) (hg _ q_2_42) (fun _ h9 => h9) rfl dX9_perform_59 ?_
          refine lv_iload_n hx hb dX9_perform_62 rfl (lv_at hl 3 rfl) ?_
          refine lv_iload_n hx hb dX9_perform_63 rfl (lv_at hl 2 rfl) ?_
          refine lv_iload hx hb dX9_perform_64 (lv_at hl 1 rfl) ?_
          refine jnV (wr := [(y 30, aT V 4 (va_up (va_up (va_up (va_up (fun _ => none) 0 (some (y 33))) 1 (some (y 35))) 2 (some (y 37))) 3 (some (y 39)))), (y 33, .inr (7, o7_rii (y 34) py33_1 py33_2)), (y 34, aJ V 40 fy34), (y 35, .inr (7, o7_rii (y 36) py35_1 py35_2)), (y 36, aJ V 40 fy36), (y 39, .inr (7, o7_rii (y 40) py39_1 py39_2)), (y 40, aJ V 40 fy40), (y 0, .inr (9, o9_rirrrrrrrrvviii (y 1) py0_1 (y 2) (y 10) (y 19) (y 25) (y 26) (y 30) (y 31) (y 32) o10 o11 v_103 v_104 v_105)), (y 2, .inr (1, o1_iiiiiirrrrrrriiiii py2_0 py2_1 py2_2 py2_3 py2_4 py2_5 (y 3) (y 4) (y 5) (y 6) (y 7) (y 8) (y 9) py2_13 py2_14 py2_15 py2_16 py2_17)), (y 3, aI V 4 fy3), (y 9, aI V 900 fy9), (y 19, .inr (4, o4_rrrrrr (y 2) (y 20) (y 21) (y 22) (y 23) (y 24))), (y 20, aI V 2000 f_106), (y 21, aI V 6 f_107), (y 22, aI V 64 f_108), (y 38, aJ V 40 fy38), (y 37, .inr (7, o7_rii (y 38) py37_1 py37_2))]) (rnV (rest := []) ⟨hx, hb, hml, hown, hg⟩ (k_X5_keep_0 l V y py0_12 py0_13 py0_14 py26_3 fy27 fy28 fy29 bpy0_12 bpy0_13 bpy26_3 tfy27 tfy28) mt_X5_keep q_3_177 ⟨Nat.le_of_ble_eq_true rfl, Nat.le_of_ble_eq_true rfl⟩ hK hP hD hS hA hE [0, 1, 2, 3] rfl rfl 0 rfl rfl rfl rfl hl.1 rfl (Nat.le_of_ble_eq_true rfl) dX9_perform_66 ⟨Nat.le_of_ble_eq_true rfl, Nat.le_of_ble_eq_true rfl⟩) hP hD hS hA [0, 1, 2, 3] [4, 5, 6, 7, 8, 9, 10, 11, 12, 13, 14, 15, 16, 17, 18, 19, 20] rfl rfl rfl (by decide) (fun  w H locs hw hP hD hS => ?_)
          obtain ⟨v_118, f_119, f_120, f_121, bv_118, tf_119, tf_120, et_122, et_123, et_124, et_125, rfl⟩ := hw
          replace hR := tb0 hR
          replace hR := tb hR et_122
          replace hR := tb hR et_123
          replace hR := tb hR et_124
          replace hR := tb hR et_125
          have hP : va_P V.1 vwCl [(y 30, aT V 4 (va_up (va_up (va_up (va_up (fun _ => none) 0 (some (y 33))) 1 (some (y 35))) 2 (some (y 37))) 3 (some (y 39)))), (y 33, .inr (7, o7_rii (y 34) py33_1 py33_2)), (y 34, aJ V 40 fy34), (y 35, .inr (7, o7_rii (y 36) py35_1 py35_2)), (y 36, aJ V 40 fy36), (y 39, .inr (7, o7_rii (y 40) py39_1 py39_2)), (y 40, aJ V 40 fy40), (y 0, .inr (9, o9_rirrrrrrrrvviii (y 1) py0_1 (y 2) (y 10) (y 19) (y 25) (y 26) (y 30) (y 31) (y 32) o10 o11 v_103 v_104 v_105)), (y 2, .inr (1, o1_iiiiiirrrrrrriiiii py2_0 py2_1 py2_2 py2_3 py2_4 py2_5 (y 3) (y 4) (y 5) (y 6) (y 7) (y 8) (y 9) py2_13 py2_14 py2_15 py2_16 py2_17)), (y 3, aI V 4 fy3), (y 9, aI V 900 fy9), (y 19, .inr (4, o4_rrrrrr (y 2) (y 20) (y 21) (y 22) (y 23) (y 24))), (y 20, aI V 2000 f_106), (y 21, aI V 6 f_107), (y 22, aI V 64 f_108), (y 38, aJ V 40 fy38), (y 37, .inr (7, o7_rii (y 38) py37_1 py37_2)), (y 26, .inr (5, o5_rrri (y 27) (y 28) (y 29) v_118)), (y 27, aI V 10 f_119), (y 28, aI V 10 f_120), (y 29, aI V 10 f_121)] H := hP
          have hD := cpD hP hD
          refine lv_iload hx hb dX9_perform_69 (lv_at hl 0 rfl) ?_
          have hP := subP (ws' := [(y 0, .inr (9, o9_rirrrrrrrrvviii (y 1) py0_1 (y 2) (y 10) (y 19) (y 25) (y 26) (y 30) (y 31) (y 32) o10 o11 v_103 v_104 v_105)), (y 2, .inr (1, o1_iiiiiirrrrrrriiiii py2_0 py2_1 py2_2 py2_3 py2_4 py2_5 (y 3) (y 4) (y 5) (y 6) (y 7) (y 8) (y 9) py2_13 py2_14 py2_15 py2_16 py2_17)), (y 3, aI V 4 fy3), (y 9, aI V 900 fy9), (y 19, .inr (4, o4_rrrrrr (y 2) (y 20) (y 21) (y 22) (y 23) (y 24))), (y 20, aI V 2000 f_106), (y 21, aI V 6 f_107), (y 22, aI V 64 f_108), (y 26, .inr (5, o5_rrri (y 27) (y 28) (y 29) v_118)), (y 27, aI V 10 f_119), (y 28, aI V 10 f_120), (y 29, aI V 10 f_121), (y 30, aT V 4 (va_up (va_up (va_up (va_up (fun _ => none) 0 (some (y 33))) 1 (some (y 35))) 2 (some (y 37))) 3 (some (y 39)))), (y 33, .inr (7, o7_rii (y 34) py33_1 py33_2)), (y 34, aJ V 40 fy34), (y 35, .inr (7, o7_rii (y 36) py35_1 py35_2)), (y 36, aJ V 40 fy36), (y 37, .inr (7, o7_rii (y 38) py37_1 py37_2)), (y 38, aJ V 40 fy38), (y 39, .inr (7, o7_rii (y 40) py39_1 py39_2)), (y 40, aJ V 40 fy40)]) hP [7, 8, 9, 10, 11, 12, 13, 14, 17, 18, 19, 20, 0, 1, 2, 3, 4, 16, 15, 5, 6] rfl
          have hD := subD hP hD [7, 8, 9, 10, 11, 12, 13, 14, 17, 18, 19, 20, 0, 1, 2, 3, 4, 16, 15, 5, 6] rfl rfl
          exact fiI hx hb hr hlk hK hP hD hS dX9_perform_71 (Nat.le_of_ble_eq_true rfl) (Nat.le_of_ble_eq_true rfl) (⟨v_103, v_104, v_105, f_106, f_107, f_108, v_118, f_119, f_120, f_121, bv_103, bv_104, tf_106, bv_118, tf_119, tf_120, (iv_w b_117 (by decide)), (congrArg Prod.fst (hR.symm.trans hT0)), (congrArg Prod.fst (congrArg Prod.snd (hR.symm.trans hT0))), (congrArg Prod.fst (congrArg Prod.snd (congrArg Prod.snd (hR.symm.trans hT0)))), (congrArg Prod.fst (congrArg Prod.snd (congrArg Prod.snd (congrArg Prod.snd (hR.symm.trans hT0))))), (congrArg Prod.fst (congrArg Prod.snd (congrArg Prod.snd (congrArg Prod.snd (congrArg Prod.snd (hR.symm.trans hT0)))))), (congrArg Prod.fst (congrArg Prod.snd (congrArg Prod.snd (congrArg Prod.snd (congrArg Prod.snd (congrArg Prod.snd (hR.symm.trans hT0))))))), (congrArg Prod.fst (congrArg Prod.snd (congrArg Prod.snd (congrArg Prod.snd (congrArg Prod.snd (congrArg Prod.snd (congrArg Prod.snd (hR.symm.trans hT0)))))))), (congrArg Prod.snd (congrArg Prod.snd (congrArg Prod.snd (congrArg Prod.snd (congrArg Prod.snd (congrArg Prod.snd (congrArg Prod.snd (hR.symm.trans hT0)))))))), kn_113, rfl⟩)
      · have hP : va_P V.1 vwCl [(y 0, .inr (9, o9_rirrrrrrrrvviii (y 1) py0_1 (y 2) (y 10) (y 19) (y 25) (y 26) (y 30) (y 31) (y 32) o10 o11 py0_12 py0_13 py0_14)), (y 2, .inr (1, o1_iiiiiirrrrrrriiiii py2_0 py2_1 py2_2 py2_3 py2_4 py2_5 (y 3) (y 4) (y 5) (y 6) (y 7) (y 8) (y 9) py2_13 py2_14 py2_15 py2_16 py2_17)), (y 3, aI V 4 fy3), (y 9, aI V 900 fy9), (y 19, .inr (4, o4_rrrrrr (y 2) (y 20) (y 21) (y 22) (y 23) (y 24))), (y 20, aI V 2000 fy20), (y 21, aI V 6 fy21), (y 22, aI V 64 fy22), (y 26, .inr (5, o5_rrri (y 27) (y 28) (y 29) py26_3)), (y 27, aI V 10 fy27), (y 28, aI V 10 fy28), (y 29, aI V 10 fy29), (y 30, aT V 4 (va_up (va_up (va_up (va_up (fun _ => none) 0 (some (y 33))) 1 (some (y 35))) 2 (some (y 37))) 3 (some (y 39)))), (y 33, .inr (7, o7_rii (y 34) py33_1 py33_2)), (y 34, aJ V 40 fy34), (y 35, .inr (7, o7_rii (y 36) py35_1 py35_2)), (y 36, aJ V 40 fy36), (y 38, aJ V 40 fy38), (y 39, .inr (7, o7_rii (y 40) py39_1 py39_2)), (y 40, aJ V 40 fy40), (y 37, .inr (7, o7_rii (y 38) py37_1 py37_2))] H := hP
        have hD := cpD hP hD
        replace hR := te hR (by rw [← et_98]; decide)
        have b_127 : iv (-1) (-1) py37_1 := iv_l1 (Int32.not_le.mp c_97) bpy37_1 (iv_c (0 : Int32) (a := 0) (b := 0) (by decide)) (by decide)
        refine lv_if_eq (tgt := 25) hx hb dX9_perform_19 (by decide) (fun c_129 => absurd c_129 (by decide)) (fun _ => ?_)
        refine lv_bipush (v := (-6)) hx hb dX9_perform_22 (by decide) ?_
        have hP := subP (ws' := [(y 0, .inr (9, o9_rirrrrrrrrvviii (y 1) py0_1 (y 2) (y 10) (y 19) (y 25) (y 26) (y 30) (y 31) (y 32) o10 o11 py0_12 py0_13 py0_14)), (y 2, .inr (1, o1_iiiiiirrrrrrriiiii py2_0 py2_1 py2_2 py2_3 py2_4 py2_5 (y 3) (y 4) (y 5) (y 6) (y 7) (y 8) (y 9) py2_13 py2_14 py2_15 py2_16 py2_17)), (y 3, aI V 4 fy3), (y 9, aI V 900 fy9), (y 19, .inr (4, o4_rrrrrr (y 2) (y 20) (y 21) (y 22) (y 23) (y 24))), (y 20, aI V 2000 fy20), (y 21, aI V 6 fy21), (y 22, aI V 64 fy22), (y 26, .inr (5, o5_rrri (y 27) (y 28) (y 29) py26_3)), (y 27, aI V 10 fy27), (y 28, aI V 10 fy28), (y 29, aI V 10 fy29), (y 30, aT V 4 (va_up (va_up (va_up (va_up (fun _ => none) 0 (some (y 33))) 1 (some (y 35))) 2 (some (y 37))) 3 (some (y 39)))), (y 33, .inr (7, o7_rii (y 34) py33_1 py33_2)), (y 34, aJ V 40 fy34), (y 35, .inr (7, o7_rii (y 36) py35_1 py35_2)), (y 36, aJ V 40 fy36), (y 37, .inr (7, o7_rii (y 38) py37_1 py37_2)), (y 38, aJ V 40 fy38), (y 39, .inr (7, o7_rii (y 40) py39_1 py39_2)), (y 40, aJ V 40 fy40)]) hP [0, 1, 2, 3, 4, 5, 6, 7, 8, 9, 10, 11, 12, 13, 14, 15, 16, 20, 17, 18, 19] rfl
        have hD := subD hP hD [0, 1, 2, 3, 4, 5, 6, 7, 8, 9, 10, 11, 12, 13, 14, 15, 16, 20, 17, 18, 19] rfl rfl
        exact fiI hx hb hr hlk hK hP hD hS dX9_perform_24 (Nat.le_of_ble_eq_true rfl) (Nat.le_of_ble_eq_true rfl) (⟨py0_12, py0_13, py0_14, fy20, fy21, fy22, py26_3, fy27, fy28, fy29, bpy0_12, bpy0_13, tfy20, bpy26_3, tfy27, tfy28, (iv_c ((-6) : Int32) (by decide)), (congrArg Prod.fst (hR.symm.trans hT0)), (congrArg Prod.fst (congrArg Prod.snd (hR.symm.trans hT0))), (congrArg Prod.fst (congrArg Prod.snd (congrArg Prod.snd (hR.symm.trans hT0)))), (congrArg Prod.fst (congrArg Prod.snd (congrArg Prod.snd (congrArg Prod.snd (hR.symm.trans hT0))))), (congrArg Prod.fst (congrArg Prod.snd (congrArg Prod.snd (congrArg Prod.snd (congrArg Prod.snd (hR.symm.trans hT0)))))), (congrArg Prod.fst (congrArg Prod.snd (congrArg Prod.snd (congrArg Prod.snd (congrArg Prod.snd (congrArg Prod.snd (hR.symm.trans hT0))))))), (congrArg Prod.fst (congrArg Prod.snd (congrArg Prod.snd (congrArg Prod.snd (congrArg Prod.snd (congrArg Prod.snd (congrArg Prod.snd (hR.symm.trans hT0)))))))), (congrArg Prod.snd (congrArg Prod.snd (congrArg Prod.snd (congrArg Prod.snd (congrArg Prod.snd (congrArg Prod.snd (congrArg Prod.snd (hR.symm.trans hT0)))))))), hK9, rfl⟩)
    · replace hR := te hR (by decide)
      replace hR := te hR (by decide)
      replace hR := te hR (by decide)
      refine va_aldq hx hb hK hP 12 4 rfl rfl (vin (by decide +kernel)) dX9_perform_15 ?_
      refine W.eq (g2 := F0 m 16 ls (.ref (y 39) :: [])) rfl ?_
      refine jnI (wr := [(y 0, .inr (9, o9_rirrrrrrrrvviii (y 1) py0_1 (y 2) (y 10) (y 19) (y 25) (y 26) (y 30) (y 31) (y 32) o10 o11 py0_12 py0_13 py0_14)), (y 2, .inr (1, o1_iiiiiirrrrrrriiiii py2_0 py2_1 py2_2 py2_3 py2_4 py2_5 (y 3) (y 4) (y 5) (y 6) (y 7) (y 8) (y 9) py2_13 py2_14 py2_15 py2_16 py2_17)), (y 3, aI V 4 fy3), (y 9, aI V 900 fy9), (y 19, .inr (4, o4_rrrrrr (y 2) (y 20) (y 21) (y 22) (y 23) (y 24))), (y 20, aI V 2000 fy20), (y 21, aI V 6 fy21), (y 22, aI V 64 fy22), (y 26, .inr (5, o5_rrri (y 27) (y 28) (y 29) py26_3)), (y 27, aI V 10 fy27), (y 28, aI V 10 fy28), (y 29, aI V 10 fy29), (y 30, aT V 4 (va_up (va_up (va_up (va_up (fun _ => none) 0 (some (y 33))) 1 (some (y 35))) 2 (some (y 37))) 3 (some (y 39)))), (y 33, .inr (7, o7_rii (y 34) py33_1 py33_2)), (y 34, aJ V 40 fy34), (y 35, .inr (7, o7_rii (y 36) py35_1 py35_2)), (y 36, aJ V 40 fy36), (y 37, .inr (7, o7_rii (y 38) py37_1 py37_2)), (y 38, aJ V 40 fy38), (y 40, aJ V 40 fy40)]) (rnV (rest := []) ⟨hx, hb, hml, hown, hg⟩ (k_X7_isMissing_3 l V y py39_1 py39_2 bpy39_1) mt_X7_isMissing q_3_231 ⟨Nat.le_of_ble_eq_true rfl, Nat.le_of_ble_eq_true rfl⟩ hK hP hD hS hA hE [19] rfl rfl 19 rfl rfl rfl rfl hl.1 rfl (Nat.le_of_ble_eq_true rfl) dX9_perform_16 ⟨Nat.le_of_ble_eq_true rfl, Nat.le_of_ble_eq_true rfl⟩) hP hD hS hA [19] [0, 1, 2, 3, 4, 5, 6, 7, 8, 9, 10, 11, 12, 13, 14, 15, 16, 17, 18, 20] rfl rfl rfl (by decide) (fun r_130 w H locs hw hP hD hS => ?_)
      rcases hw with ⟨c_131, rfl, et_132, rfl⟩ | ⟨c_133, rfl, et_134, rfl⟩
      · have hP : va_P V.1 vwCl [(y 0, .inr (9, o9_rirrrrrrrrvviii (y 1) py0_1 (y 2) (y 10) (y 19) (y 25) (y 26) (y 30) (y 31) (y 32) o10 o11 py0_12 py0_13 py0_14)), (y 2, .inr (1, o1_iiiiiirrrrrrriiiii py2_0 py2_1 py2_2 py2_3 py2_4 py2_5 (y 3) (y 4) (y 5) (y 6) (y 7) (y 8) (y 9) py2_13 py2_14 py2_15 py2_16 py2_17)), (y 3, aI V 4 fy3), (y 9, aI V 900 fy9), (y 19, .inr (4, o4_rrrrrr (y 2) (y 20) (y 21) (y 22) (y 23) (y 24))), (y 20, aI V 2000 fy20), (y 21, aI V 6 fy21), (y 22, aI V 64 fy22), (y 26, .inr (5, o5_rrri (y 27) (y 28) (y 29) py26_3)), (y 27, aI V 10 fy27), (y 28, aI V 10 fy28), (y 29, aI V 10 fy29), (y 30, aT V 4 (va_up (va_up (va_up (va_up (fun _ => none) 0 (some (y 33))) 1 (some (y 35))) 2 (some (y 37))) 3 (some (y 39)))), (y 33, .inr (7, o7_rii (y 34) py33_1 py33_2)), (y 34, aJ V 40 fy34), (y 35, .inr (7, o7_rii (y 36) py35_1 py35_2)), (y 36, aJ V 40 fy36), (y 37, .inr (7, o7_rii (y 38) py37_1 py37_2)), (y 38, aJ V 40 fy38), (y 40, aJ V 40 fy40), (y 39, .inr (7, o7_rii (y 40) py39_1 py39_2))] H := hP
        have hD := cpD hP hD
        replace hR := ti hR et_132.symm
        have b_135 : iv 0 40 py39_1 := iv_e2 c_131 (iv_c (0 : Int32) (a := 0) (b := 0) (by decide)) bpy39_1 (by decide)
        refine lv_if_eq (tgt := 25) hx hb dX9_perform_19 (by decide) (fun _ => ?_) (fun c_137 => absurd c_137 (by decide))
        refine lv_aload_n hx hb dX9_perform_25 rfl (lv_at hl 0 rfl) ?_
        refine va_get (ci := 9) (v := .int py0_12) (C := RX9) (T := TX9) (N := 15) hx hb hg inX9 hown hK hP 0 rfl rfl 12 (by decide) (hg _ q_2_48) (fun _ h9 => h9) rfl dX9_perform_26 ?_
        refine lv_istore_n (lv' := [(2, .int py0_12), (0, .ref (y 0)), (1, .int 3)]) hx hb dX9_perform_29 rfl hl (by decide) rfl (fun ls hl => ?_)
        refine lv_aload_n hx hb dX9_perform_30 rfl (lv_at hl 1 rfl) ?_
        refine va_get (ci := 9) (v := .int py0_13) (C := RX9) (T := TX9) (N := 15) hx hb hg inX9 hown hK hP 0 rfl rfl 13 (by decide) (hg _ q_2_49) (fun _ h9 => h9) rfl dX9_perform_31 ?_
        refine lv_istore_n (lv' := [(3, .int py0_13), (2, .int py0_12), (0, .ref (y 0)), (1, .int 3)]) hx hb dX9_perform_34 rfl hl (by decide) rfl (fun ls hl => ?_)
        refine lv_aload_n hx hb dX9_perform_35 rfl (lv_at hl 2 rfl) ?_
        refine va_get (ci := 9) (v := .int py0_14) (C := RX9) (T := TX9) (N := 15) hx hb hg inX9 hown hK hP 0 rfl rfl 14 (by decide) (hg _ q_2_50) (fun _ h9 => h9) rfl dX9_perform_36 ?_
        refine lv_istore (lv' := [(4, .int py0_14), (3, .int py0_13), (2, .int py0_12), (0, .ref (y 0)), (1, .int 3)]) hx hb dX9_perform_39 hl (by decide) rfl (fun ls hl => ?_)
        refine lv_aload_n hx hb dX9_perform_41 rfl (lv_at hl 3 rfl) ?_
        refine lv_aload_n hx hb dX9_perform_42 rfl (lv_at hl 3 rfl) ?_
        refine va_get (ci := 9) (v := .ref (y 30)) (C := RX9) (T := TX9) (N := 15) hx hb hg inX9 hown hK hP 0 rfl rfl 7 (by decide) (hg _ q_2_43) (fun _ h9 => h9) rfl dX9_perform_43 ?_
        refine lv_iload_n hx hb dX9_perform_46 rfl (lv_at hl 4 rfl) ?_
        refine va_aldq hx hb hK hP 12 4 rfl rfl (vin (by decide +kernel)) dX9_perform_47 ?_
        refine W.eq (g2 := F0 m 48 ls (.ref (y 39) :: .ref (y 0) :: [])) rfl ?_
        refine jnI (wr := [(y 26, .inr (5, o5_rrri (y 27) (y 28) (y 29) py26_3)), (y 27, aI V 10 fy27), (y 28, aI V 10 fy28), (y 29, aI V 10 fy29), (y 30, aT V 4 (va_up (va_up (va_up (va_up (fun _ => none) 0 (some (y 33))) 1 (some (y 35))) 2 (some (y 37))) 3 (some (y 39)))), (y 33, .inr (7, o7_rii (y 34) py33_1 py33_2)), (y 34, aJ V 40 fy34), (y 35, .inr (7, o7_rii (y 36) py35_1 py35_2)), (y 36, aJ V 40 fy36), (y 37, .inr (7, o7_rii (y 38) py37_1 py37_2)), (y 38, aJ V 40 fy38)]) (rnV (rest := []) ⟨hx, hb, hml, hown, hg⟩ (k_X9_tryAll_3 l V y D9 py0_1 o10 o11 py0_12 py0_13 py0_14 py2_0 py2_1 py2_2 py2_3 py2_4 py2_5 py2_13 py2_14 py2_15 py2_16 py2_17 fy3 fy9 fy20 fy21 fy22 fy40 py39_1 py39_2 bpy0_1 bpy0_12 bpy0_13 bpy2_1 bpy2_2 bpy2_3 bpy2_4 bpy2_5 bpy2_13 bpy2_14 bpy2_15 bpy2_16 bpy2_17 tfy20 b_135 hL9 hK9) mt_X9_tryAll q_3_235 ⟨Nat.le_of_ble_eq_true rfl, Nat.le_of_ble_eq_true rfl⟩ hK hP hD hS hA hE [0, 1, 2, 3, 4, 5, 6, 7, 19, 20] rfl rfl 0 rfl rfl rfl rfl hl.1 rfl (Nat.le_of_ble_eq_true rfl) dX9_perform_48 ⟨Nat.le_of_ble_eq_true rfl, Nat.le_of_ble_eq_true rfl⟩) hP hD hS hA [0, 1, 2, 3, 4, 5, 6, 7, 19, 20] [8, 9, 10, 11, 12, 13, 14, 15, 16, 17, 18] rfl rfl rfl (by decide) (fun r_138 w H locs hw hP hD hS => ?_)
        obtain ⟨v_139, v_140, v_141, f_142, f_143, f_144, bv_139, bv_140, tf_142, br_138, ler_138, et_145, et_146, et_147, et_148, kn_149, rfl⟩ := hw
        replace hR := tb0 hR
        replace hR := tb hR et_145
        replace hR := tb hR et_146
        replace hR := tb hR et_147
        replace hR := tb hR et_148
        have hP : va_P V.1 vwCl [(y 26, .inr (5, o5_rrri (y 27) (y 28) (y 29) py26_3)), (y 27, aI V 10 fy27), (y 28, aI V 10 fy28), (y 29, aI V 10 fy29), (y 30, aT V 4 (va_up (va_up (va_up (va_up (fun _ => none) 0 (some (y 33))) 1 (some (y 35))) 2 (some (y 37))) 3 (some (y 39)))), (y 33, .inr (7, o7_rii (y 34) py33_1 py33_2)), (y 34, aJ V 40 fy34), (y 35, .inr (7, o7_rii (y 36) py35_1 py35_2)), (y 36, aJ V 40 fy36), (y 37, .inr (7, o7_rii (y 38) py37_1 py37_2)), (y 38, aJ V 40 fy38), (y 0, .inr (9, o9_rirrrrrrrrvviii (y 1) py0_1 (y 2) (y 10) (y 19) (y 25) (y 26) (y 30) (y 31) (y 32) o10 o11 v_139 v_140 v_141)), (y 2, .inr (1, o1_iiiiiirrrrrrriiiii py2_0 py2_1 py2_2 py2_3 py2_4 py2_5 (y 3) (y 4) (y 5) (y 6) (y 7) (y 8) (y 9) py2_13 py2_14 py2_15 py2_16 py2_17)), (y 3, aI V 4 fy3), (y 9, aI V 900 fy9), (y 19, .inr (4, o4_rrrrrr (y 2) (y 20) (y 21) (y 22) (y 23) (y 24))), (y 20, aI V 2000 f_142), (y 21, aI V 6 f_143), (y 22, aI V 64 f_144), (y 40, aJ V 40 fy40), (y 39, .inr (7, o7_rii (y 40) py39_1 py39_2))] H := hP
        have hD := cpD hP hD
        refine lv_istore (lv' := [(5, .int r_138), (4, .int py0_14), (3, .int py0_13), (2, .int py0_12), (0, .ref (y 0)), (1, .int 3)]) hx hb dX9_perform_51 hl (by decide) rfl (fun ls hl => ?_)
        refine lv_iload hx hb dX9_perform_53 (lv_at hl 0 rfl) ?_
        refine lv_if_le (tgt := 69) hx hb dX9_perform_55 (by decide) (fun c_151 => ?_) (fun c_151 => ?_)
        · replace hR := ti hR c_151
          have b_152 : iv 0 0 r_138 := iv_e1 c_151 br_138 (iv_c (0 : Int32) (a := 0) (b := 0) (by decide)) (by decide)
          refine lv_iload hx hb dX9_perform_69 (lv_at hl 0 rfl) ?_
          have hP := subP (ws' := [(y 0, .inr (9, o9_rirrrrrrrrvviii (y 1) py0_1 (y 2) (y 10) (y 19) (y 25) (y 26) (y 30) (y 31) (y 32) o10 o11 v_139 v_140 v_141)), (y 2, .inr (1, o1_iiiiiirrrrrrriiiii py2_0 py2_1 py2_2 py2_3 py2_4 py2_5 (y 3) (y 4) (y 5) (y 6) (y 7) (y 8) (y 9) py2_13 py2_14 py2_15 py2_16 py2_17)), (y 3, aI V 4 fy3), (y 9, aI V 900 fy9), (y 19, .inr (4, o4_rrrrrr (y 2) (y 20) (y 21) (y 22) (y 23) (y 24))), (y 20, aI V 2000 f_142), (y 21, aI V 6 f_143), (y 22, aI V 64 f_144), (y 26, .inr (5, o5_rrri (y 27) (y 28) (y 29) py26_3)), (y 27, aI V 10 fy27), (y 28, aI V 10 fy28), (y 29, aI V 10 fy29), (y 30, aT V 4 (va_up (va_up (va_up (va_up (fun _ => none) 0 (some (y 33))) 1 (some (y 35))) 2 (some (y 37))) 3 (some (y 39)))), (y 33, .inr (7, o7_rii (y 34) py33_1 py33_2)), (y 34, aJ V 40 fy34), (y 35, .inr (7, o7_rii (y 36) py35_1 py35_2)), (y 36, aJ V 40 fy36), (y 37, .inr (7, o7_rii (y 38) py37_1 py37_2)), (y 38, aJ V 40 fy38), (y 39, .inr (7, o7_rii (y 40) py39_1 py39_2)), (y 40, aJ V 40 fy40)]) hP [11, 12, 13, 14, 15, 16, 17, 18, 0, 1, 2, 3, 4, 5, 6, 7, 8, 9, 10, 20, 19] rfl
          have hD := subD hP hD [11, 12, 13, 14, 15, 16, 17, 18, 0, 1, 2, 3, 4, 5, 6, 7, 8, 9, 10, 20, 19] rfl rfl
          exact fiI hx hb hr hlk hK hP hD hS dX9_perform_71 (Nat.le_of_ble_eq_true rfl) (Nat.le_of_ble_eq_true rfl) (⟨v_139, v_140, v_141, f_142, f_143, f_144, py26_3, fy27, fy28, fy29, bv_139, bv_140, tf_142, bpy26_3, tfy27, tfy28, (iv_w b_152 (by decide)), (congrArg Prod.fst (hR.symm.trans hT0)), (congrArg Prod.fst (congrArg Prod.snd (hR.symm.trans hT0))), (congrArg Prod.fst (congrArg Prod.snd (congrArg Prod.snd (hR.symm.trans hT0)))), (congrArg Prod.fst (congrArg Prod.snd (congrArg Prod.snd (congrArg Prod.snd (hR.symm.trans hT0))))), (congrArg Prod.fst (congrArg Prod.snd (congrArg Prod.snd (congrArg Prod.snd (congrArg Prod.snd (hR.symm.trans hT0)))))), (congrArg Prod.fst (congrArg Prod.snd (congrArg Prod.snd (congrArg Prod.snd (congrArg Prod.snd (congrArg Prod.snd (hR.symm.trans hT0))))))), (congrArg Prod.fst (congrArg Prod.snd (congrArg Prod.snd (congrArg Prod.snd (congrArg Prod.snd (congrArg Prod.snd (congrArg Prod.snd (hR.symm.trans hT0)))))))), (congrArg Prod.snd (congrArg Prod.snd (congrArg Prod.snd (congrArg Prod.snd (congrArg Prod.snd (congrArg Prod.snd (congrArg Prod.snd (hR.symm.trans hT0)))))))), kn_149, rfl⟩)
        · replace hR := te hR c_151
          have b_153 : iv 1 40 r_138 := iv_l2 (Int32.not_le.mp c_151) (iv_c (0 : Int32) (a := 0) (b := 0) (by decide)) br_138 (by decide)
          refine lv_aload_n hx hb dX9_perform_58 rfl (lv_at hl 4 rfl) ?_
          refine va_get (ci := 9) (v := .ref (y 26)) (C := RX9) (T := TX9) (N := 15) hx hb hg inX9 hown hK hP 11 rfl rfl 6 (by decide) (hg _ q_2_42) (fun _ h9 => h9) rfl dX9_perform_59 ?_
          refine lv_iload_n hx hb dX9_perform_62 rfl (lv_at hl 3 rfl) ?_
          refine lv_iload_n hx hb dX9_perform_63 rfl (lv_at hl 2 rfl) ?_
          refine lv_iload hx hb dX9_perform_64 (lv_at hl 1 rfl) ?_
          refine jnV (wr := [(y 30, aT V 4 (va_up (va_up (va_up (va_up (fun _ => none) 0 (some (y 33))) 1 (some (y 35))) 2 (some (y 37))) 3 (some (y 39)))), (y 33, .inr (7, o7_rii (y 34) py33_1 py33_2)), (y 34, aJ V 40 fy34), (y 35, .inr (7, o7_rii (y 36) py35_1 py35_2)), (y 36, aJ V 40 fy36), (y 37, .inr (7, o7_rii (y 38) py37_1 py37_2)), (y 38, aJ V 40 fy38), (y 0, .inr (9, o9_rirrrrrrrrvviii (y 1) py0_1 (y 2) (y 10) (y 19) (y 25) (y 26) (y 30) (y 31) (y 32) o10 o11 v_139 v_140 v_141)), (y 2, .inr (1, o1_iiiiiirrrrrrriiiii py2_0 py2_1 py2_2 py2_3 py2_4 py2_5 (y 3) (y 4) (y 5) (y 6) (y 7) (y 8) (y 9) py2_13 py2_14 py2_15 py2_16 py2_17)), (y 3, aI V 4 fy3), (y 9, aI V 900 fy9), (y 19, .inr (4, o4_rrrrrr (y 2) (y 20) (y 21) (y 22) (y 23) (y 24))), (y 20, aI V 2000 f_142), (y 21, aI V 6 f_143), (y 22, aI V 64 f_144), (y 40, aJ V 40 fy40), (y 39, .inr (7, o7_rii (y 40) py39_1 py39_2))]) (rnV (rest := []) ⟨hx, hb, hml, hown, hg⟩ (k_X5_keep_0 l V y py0_12 py0_13 py0_14 py26_3 fy27 fy28 fy29 bpy0_12 bpy0_13 bpy26_3 tfy27 tfy28) mt_X5_keep q_3_177 ⟨Nat.le_of_ble_eq_true rfl, Nat.le_of_ble_eq_true rfl⟩ hK hP hD hS hA hE [0, 1, 2, 3] rfl rfl 0 rfl rfl rfl rfl hl.1 rfl (Nat.le_of_ble_eq_true rfl) dX9_perform_66 ⟨Nat.le_of_ble_eq_true rfl, Nat.le_of_ble_eq_true rfl⟩) hP hD hS hA [0, 1, 2, 3] [4, 5, 6, 7, 8, 9, 10, 11, 12, 13, 14, 15, 16, 17, 18, 19, 20] rfl rfl rfl (by decide) (fun  w H locs hw hP hD hS => ?_)
          obtain ⟨v_154, f_155, f_156, f_157, bv_154, tf_155, tf_156, et_158, et_159, et_160, et_161, rfl⟩ := hw
          replace hR := tb0 hR
          replace hR := tb hR et_158
          replace hR := tb hR et_159
          replace hR := tb hR et_160
          replace hR := tb hR et_161
          have hP : va_P V.1 vwCl [(y 30, aT V 4 (va_up (va_up (va_up (va_up (fun _ => none) 0 (some (y 33))) 1 (some (y 35))) 2 (some (y 37))) 3 (some (y 39)))), (y 33, .inr (7, o7_rii (y 34) py33_1 py33_2)), (y 34, aJ V 40 fy34), (y 35, .inr (7, o7_rii (y 36) py35_1 py35_2)), (y 36, aJ V 40 fy36), (y 37, .inr (7, o7_rii (y 38) py37_1 py37_2)), (y 38, aJ V 40 fy38), (y 0, .inr (9, o9_rirrrrrrrrvviii (y 1) py0_1 (y 2) (y 10) (y 19) (y 25) (y 26) (y 30) (y 31) (y 32) o10 o11 v_139 v_140 v_141)), (y 2, .inr (1, o1_iiiiiirrrrrrriiiii py2_0 py2_1 py2_2 py2_3 py2_4 py2_5 (y 3) (y 4) (y 5) (y 6) (y 7) (y 8) (y 9) py2_13 py2_14 py2_15 py2_16 py2_17)), (y 3, aI V 4 fy3), (y 9, aI V 900 fy9), (y 19, .inr (4, o4_rrrrrr (y 2) (y 20) (y 21) (y 22) (y 23) (y 24))), (y 20, aI V 2000 f_142), (y 21, aI V 6 f_143), (y 22, aI V 64 f_144), (y 40, aJ V 40 fy40), (y 39, .inr (7, o7_rii (y 40) py39_1 py39_2)), (y 26, .inr (5, o5_rrri (y 27) (y 28) (y 29) v_154)), (y 27, aI V 10 f_155), (y 28, aI V 10 f_156), (y 29, aI V 10 f_157)] H := hP
          have hD := cpD hP hD
          refine lv_iload hx hb dX9_perform_69 (lv_at hl 0 rfl) ?_
          have hP := subP (ws' := [(y 0, .inr (9, o9_rirrrrrrrrvviii (y 1) py0_1 (y 2) (y 10) (y 19) (y 25) (y 26) (y 30) (y 31) (y 32) o10 o11 v_139 v_140 v_141)), (y 2, .inr (1, o1_iiiiiirrrrrrriiiii py2_0 py2_1 py2_2 py2_3 py2_4 py2_5 (y 3) (y 4) (y 5) (y 6) (y 7) (y 8) (y 9) py2_13 py2_14 py2_15 py2_16 py2_17)), (y 3, aI V 4 fy3), (y 9, aI V 900 fy9), (y 19, .inr (4, o4_rrrrrr (y 2) (y 20) (y 21) (y 22) (y 23) (y 24))), (y 20, aI V 2000 f_142), (y 21, aI V 6 f_143), (y 22, aI V 64 f_144), (y 26, .inr (5, o5_rrri (y 27) (y 28) (y 29) v_154)), (y 27, aI V 10 f_155), (y 28, aI V 10 f_156), (y 29, aI V 10 f_157), (y 30, aT V 4 (va_up (va_up (va_up (va_up (fun _ => none) 0 (some (y 33))) 1 (some (y 35))) 2 (some (y 37))) 3 (some (y 39)))), (y 33, .inr (7, o7_rii (y 34) py33_1 py33_2)), (y 34, aJ V 40 fy34), (y 35, .inr (7, o7_rii (y 36) py35_1 py35_2)), (y 36, aJ V 40 fy36), (y 37, .inr (7, o7_rii (y 38) py37_1 py37_2)), (y 38, aJ V 40 fy38), (y 39, .inr (7, o7_rii (y 40) py39_1 py39_2)), (y 40, aJ V 40 fy40)]) hP [7, 8, 9, 10, 11, 12, 13, 14, 17, 18, 19, 20, 0, 1, 2, 3, 4, 5, 6, 16, 15] rfl
          have hD := subD hP hD [7, 8, 9, 10, 11, 12, 13, 14, 17, 18, 19, 20, 0, 1, 2, 3, 4, 5, 6, 16, 15] rfl rfl
          exact fiI hx hb hr hlk hK hP hD hS dX9_perform_71 (Nat.le_of_ble_eq_true rfl) (Nat.le_of_ble_eq_true rfl) (⟨v_139, v_140, v_141, f_142, f_143, f_144, v_154, f_155, f_156, f_157, bv_139, bv_140, tf_142, bv_154, tf_155, tf_156, (iv_w b_153 (by decide)), (congrArg Prod.fst (hR.symm.trans hT0)), (congrArg Prod.fst (congrArg Prod.snd (hR.symm.trans hT0))), (congrArg Prod.fst (congrArg Prod.snd (congrArg Prod.snd (hR.symm.trans hT0)))), (congrArg Prod.fst (congrArg Prod.snd (congrArg Prod.snd (congrArg Prod.snd (hR.symm.trans hT0))))), (congrArg Prod.fst (congrArg Prod.snd (congrArg Prod.snd (congrArg Prod.snd (congrArg Prod.snd (hR.symm.trans hT0)))))), (congrArg Prod.fst (congrArg Prod.snd (congrArg Prod.snd (congrArg Prod.snd (congrArg Prod.snd (congrArg Prod.snd (hR.symm.trans hT0))))))), (congrArg Prod.fst (congrArg Prod.snd (congrArg Prod.snd (congrArg Prod.snd (congrArg Prod.snd (congrArg Prod.snd (congrArg Prod.snd (hR.symm.trans hT0)))))))), (congrArg Prod.snd (congrArg Prod.snd (congrArg Prod.snd (congrArg Prod.snd (congrArg Prod.snd (congrArg Prod.snd (congrArg Prod.snd (hR.symm.trans hT0)))))))), kn_149, rfl⟩)
      · have hP : va_P V.1 vwCl [(y 0, .inr (9, o9_rirrrrrrrrvviii (y 1) py0_1 (y 2) (y 10) (y 19) (y 25) (y 26) (y 30) (y 31) (y 32) o10 o11 py0_12 py0_13 py0_14)), (y 2, .inr (1, o1_iiiiiirrrrrrriiiii py2_0 py2_1 py2_2 py2_3 py2_4 py2_5 (y 3) (y 4) (y 5) (y 6) (y 7) (y 8) (y 9) py2_13 py2_14 py2_15 py2_16 py2_17)), (y 3, aI V 4 fy3), (y 9, aI V 900 fy9), (y 19, .inr (4, o4_rrrrrr (y 2) (y 20) (y 21) (y 22) (y 23) (y 24))), (y 20, aI V 2000 fy20), (y 21, aI V 6 fy21), (y 22, aI V 64 fy22), (y 26, .inr (5, o5_rrri (y 27) (y 28) (y 29) py26_3)), (y 27, aI V 10 fy27), (y 28, aI V 10 fy28), (y 29, aI V 10 fy29), (y 30, aT V 4 (va_up (va_up (va_up (va_up (fun _ => none) 0 (some (y 33))) 1 (some (y 35))) 2 (some (y 37))) 3 (some (y 39)))), (y 33, .inr (7, o7_rii (y 34) py33_1 py33_2)), (y 34, aJ V 40 fy34), (y 35, .inr (7, o7_rii (y 36) py35_1 py35_2)), (y 36, aJ V 40 fy36), (y 37, .inr (7, o7_rii (y 38) py37_1 py37_2)), (y 38, aJ V 40 fy38), (y 40, aJ V 40 fy40), (y 39, .inr (7, o7_rii (y 40) py39_1 py39_2))] H := hP
        have hD := cpD hP hD
        replace hR := te hR (by rw [← et_134]; decide)
        have b_163 : iv (-1) (-1) py39_1 := iv_l1 (Int32.not_le.mp c_133) bpy39_1 (iv_c (0 : Int32) (a := 0) (b := 0) (by decide)) (by decide)
        refine lv_if_eq (tgt := 25) hx hb dX9_perform_19 (by decide) (fun c_165 => absurd c_165 (by decide)) (fun _ => ?_)
        refine lv_bipush (v := (-6)) hx hb dX9_perform_22 (by decide) ?_
        have hP := subP (ws' := [(y 0, .inr (9, o9_rirrrrrrrrvviii (y 1) py0_1 (y 2) (y 10) (y 19) (y 25) (y 26) (y 30) (y 31) (y 32) o10 o11 py0_12 py0_13 py0_14)), (y 2, .inr (1, o1_iiiiiirrrrrrriiiii py2_0 py2_1 py2_2 py2_3 py2_4 py2_5 (y 3) (y 4) (y 5) (y 6) (y 7) (y 8) (y 9) py2_13 py2_14 py2_15 py2_16 py2_17)), (y 3, aI V 4 fy3), (y 9, aI V 900 fy9), (y 19, .inr (4, o4_rrrrrr (y 2) (y 20) (y 21) (y 22) (y 23) (y 24))), (y 20, aI V 2000 fy20), (y 21, aI V 6 fy21), (y 22, aI V 64 fy22), (y 26, .inr (5, o5_rrri (y 27) (y 28) (y 29) py26_3)), (y 27, aI V 10 fy27), (y 28, aI V 10 fy28), (y 29, aI V 10 fy29), (y 30, aT V 4 (va_up (va_up (va_up (va_up (fun _ => none) 0 (some (y 33))) 1 (some (y 35))) 2 (some (y 37))) 3 (some (y 39)))), (y 33, .inr (7, o7_rii (y 34) py33_1 py33_2)), (y 34, aJ V 40 fy34), (y 35, .inr (7, o7_rii (y 36) py35_1 py35_2)), (y 36, aJ V 40 fy36), (y 37, .inr (7, o7_rii (y 38) py37_1 py37_2)), (y 38, aJ V 40 fy38), (y 39, .inr (7, o7_rii (y 40) py39_1 py39_2)), (y 40, aJ V 40 fy40)]) hP [0, 1, 2, 3, 4, 5, 6, 7, 8, 9, 10, 11, 12, 13, 14, 15, 16, 17, 18, 20, 19] rfl
        have hD := subD hP hD [0, 1, 2, 3, 4, 5, 6, 7, 8, 9, 10, 11, 12, 13, 14, 15, 16, 17, 18, 20, 19] rfl rfl
        exact fiI hx hb hr hlk hK hP hD hS dX9_perform_24 (Nat.le_of_ble_eq_true rfl) (Nat.le_of_ble_eq_true rfl) (⟨py0_12, py0_13, py0_14, fy20, fy21, fy22, py26_3, fy27, fy28, fy29, bpy0_12, bpy0_13, tfy20, bpy26_3, tfy27, tfy28, (iv_c ((-6) : Int32) (by decide)), (congrArg Prod.fst (hR.symm.trans hT0)), (congrArg Prod.fst (congrArg Prod.snd (hR.symm.trans hT0))), (congrArg Prod.fst (congrArg Prod.snd (congrArg Prod.snd (hR.symm.trans hT0)))), (congrArg Prod.fst (congrArg Prod.snd (congrArg Prod.snd (congrArg Prod.snd (hR.symm.trans hT0))))), (congrArg Prod.fst (congrArg Prod.snd (congrArg Prod.snd (congrArg Prod.snd (congrArg Prod.snd (hR.symm.trans hT0)))))), (congrArg Prod.fst (congrArg Prod.snd (congrArg Prod.snd (congrArg Prod.snd (congrArg Prod.snd (congrArg Prod.snd (hR.symm.trans hT0))))))), (congrArg Prod.fst (congrArg Prod.snd (congrArg Prod.snd (congrArg Prod.snd (congrArg Prod.snd (congrArg Prod.snd (congrArg Prod.snd (hR.symm.trans hT0)))))))), (congrArg Prod.snd (congrArg Prod.snd (congrArg Prod.snd (congrArg Prod.snd (congrArg Prod.snd (congrArg Prod.snd (congrArg Prod.snd (hR.symm.trans hT0)))))))), hK9, rfl⟩)
theorem q_4_13 : Cond.constant "BeaconDelay" 225 (1103515245 : Int32) ∈ gw := gw_4 (i := 13) (by decide +kernel) rfl
theorem dX9_drawnFrom_0 : decode cX9_drawnFrom 0 = .ok (.ldc 225, 2) := by decide +kernel
theorem dX9_drawnFrom_2 : decode cX9_drawnFrom 2 = .ok (.iload_n 0, 1) := by decide +kernel
theorem dX9_drawnFrom_3 : decode cX9_drawnFrom 3 = .ok (.imul, 1) := by decide +kernel
theorem dX9_drawnFrom_4 : decode cX9_drawnFrom 4 = .ok (.sipush 12345, 3) := by decide +kernel
theorem dX9_drawnFrom_7 : decode cX9_drawnFrom 7 = .ok (.iadd, 1) := by decide +kernel
theorem dX9_drawnFrom_8 : decode cX9_drawnFrom 8 = .ok (.ireturn, 1) := by decide +kernel
set_option maxRecDepth 100000 in
noncomputable def F_k_X9_drawnFrom_0 (a0 : Int32) : Int32 := bnd ((1103515245 : Int32) * a0 : Int32) fun (x_1 : Int32) => bnd (x_1 + (12345 : Int32) : Int32) fun (x_2 : Int32) => (x_2)
set_option maxHeartbeats 4000000 in
set_option maxRecDepth 100000 in
theorem k_X9_drawnFrom_0 (l : Launch) (V : GV) (a0 : Int32) : Ct l V yX9_drawnFrom (.code yX9_drawnFrom cX9_drawnFrom 1 (some .int)) 1 [.int a0] [] 0 0 (QI V (fun (r : Int32) (w : va_W) => r = (F_k_X9_drawnFrom_0 a0) ∧ w = [])) := by
  refine Ct.of (by decide) (Nat.le_of_ble_eq_true rfl) (fun p e s m below meth c A ls hx hb hr hml hown hlk hnm hg hP hK hD hE hA hS hl => ?_)
  have hl : lv_has ls 1 [(0, .int a0)] := hl
  obtain ⟨T0, hT0⟩ : ∃ T9, T9 = F_k_X9_drawnFrom_0 a0 := ⟨_, rfl⟩
  have hR := hT0.trans (F_k_X9_drawnFrom_0.eq_1 ..)
  refine lv_ldc (v := 1103515245) hx hb hown (hg _ q_4_13) dX9_drawnFrom_0 ?_
  refine lv_iload_n hx hb dX9_drawnFrom_2 rfl (lv_at hl 0 rfl) ?_
  refine lv_imul hx hb dX9_drawnFrom_3 ?_
  refine lv_topi (fun x_1 ex_1 => ?_)
  replace hR := tb hR ex_1
  refine lv_sipush (v := 12345) hx hb dX9_drawnFrom_4 (by decide) ?_
  refine lv_iadd hx hb dX9_drawnFrom_7 ?_
  refine lv_topi (fun x_2 ex_2 => ?_)
  replace hR := tb hR ex_2
  exact fiI hx hb hr hlk hK hP hD hS dX9_drawnFrom_8 (Nat.le_of_ble_eq_true rfl) (Nat.le_of_ble_eq_true rfl) (⟨(hR.symm.trans hT0), rfl⟩)
theorem dX9_drawnDeed_0 : decode cX9_drawnDeed 0 = .ok (.iload_n 0, 1) := by decide +kernel
theorem dX9_drawnDeed_1 : decode cX9_drawnDeed 1 = .ok (.iconst 3, 1) := by decide +kernel
theorem dX9_drawnDeed_2 : decode cX9_drawnDeed 2 = .ok (.if_icmp .ne 9, 3) := by decide +kernel
theorem dX9_drawnDeed_11 : decode cX9_drawnDeed 11 = .ok (.iload_n 0, 1) := by decide +kernel
theorem dX9_drawnDeed_12 : decode cX9_drawnDeed 12 = .ok (.iconst 4, 1) := by decide +kernel
theorem dX9_drawnDeed_13 : decode cX9_drawnDeed 13 = .ok (.if_icmp .ne 12, 3) := by decide +kernel
theorem dX9_drawnDeed_25 : decode cX9_drawnDeed 25 = .ok (.bipush 20, 2) := by decide +kernel
theorem dX9_drawnDeed_27 : decode cX9_drawnDeed 27 = .ok (.iload_n 1, 1) := by decide +kernel
theorem dX9_drawnDeed_28 : decode cX9_drawnDeed 28 = .ok (.bipush 10, 2) := by decide +kernel
theorem dX9_drawnDeed_30 : decode cX9_drawnDeed 30 = .ok (.irem, 1) := by decide +kernel
theorem dX9_drawnDeed_31 : decode cX9_drawnDeed 31 = .ok (.iadd, 1) := by decide +kernel
theorem dX9_drawnDeed_32 : decode cX9_drawnDeed 32 = .ok (.ireturn, 1) := by decide +kernel
theorem dX9_drawnDeed_16 : decode cX9_drawnDeed 16 = .ok (.bipush 10, 2) := by decide +kernel
theorem dX9_drawnDeed_18 : decode cX9_drawnDeed 18 = .ok (.iload_n 1, 1) := by decide +kernel
theorem dX9_drawnDeed_19 : decode cX9_drawnDeed 19 = .ok (.iconst 4, 1) := by decide +kernel
theorem dX9_drawnDeed_20 : decode cX9_drawnDeed 20 = .ok (.irem, 1) := by decide +kernel
theorem dX9_drawnDeed_21 : decode cX9_drawnDeed 21 = .ok (.iadd, 1) := by decide +kernel
theorem dX9_drawnDeed_22 : decode cX9_drawnDeed 22 = .ok (.goto 10, 3) := by decide +kernel
theorem dX9_drawnDeed_5 : decode cX9_drawnDeed 5 = .ok (.iload_n 1, 1) := by decide +kernel
theorem dX9_drawnDeed_6 : decode cX9_drawnDeed 6 = .ok (.iconst 4, 1) := by decide +kernel
theorem dX9_drawnDeed_7 : decode cX9_drawnDeed 7 = .ok (.irem, 1) := by decide +kernel
theorem dX9_drawnDeed_8 : decode cX9_drawnDeed 8 = .ok (.goto 24, 3) := by decide +kernel
set_option maxRecDepth 100000 in
noncomputable def F_k_X9_drawnDeed_0 (a0 : Int32) (a1 : Int32) : Int32 := if a0 = (3 : Int32) then (bnd (a1 - a1 / (4 : Int32) * (4 : Int32) : Int32) fun (x_9 : Int32) => (x_9)) else (if a0 = (4 : Int32) then (bnd (a1 - a1 / (4 : Int32) * (4 : Int32) : Int32) fun (x_6 : Int32) => bnd ((10 : Int32) + x_6 : Int32) fun (x_7 : Int32) => (x_7)) else (bnd (a1 - a1 / (10 : Int32) * (10 : Int32) : Int32) fun (x_3 : Int32) => bnd ((20 : Int32) + x_3 : Int32) fun (x_4 : Int32) => (x_4)))
set_option maxHeartbeats 4000000 in
set_option maxRecDepth 100000 in
theorem k_X9_drawnDeed_0 (l : Launch) (V : GV) (a0 : Int32) (a1 : Int32) : Ct l V yX9_drawnDeed (.code yX9_drawnDeed cX9_drawnDeed 2 (some .int)) 1 [.int a0, .int a1] [] 0 0 (QI V (fun (r : Int32) (w : va_W) => r = (F_k_X9_drawnDeed_0 a0 a1) ∧ w = [])) := by
  refine Ct.of (by decide) (Nat.le_of_ble_eq_true rfl) (fun p e s m below meth c A ls hx hb hr hml hown hlk hnm hg hP hK hD hE hA hS hl => ?_)
  have hl : lv_has ls 2 [(0, .int a0), (1, .int a1)] := hl
  obtain ⟨T0, hT0⟩ : ∃ T9, T9 = F_k_X9_drawnDeed_0 a0 a1 := ⟨_, rfl⟩
  have hR := hT0.trans (F_k_X9_drawnDeed_0.eq_1 ..)
  refine lv_iload_n hx hb dX9_drawnDeed_0 rfl (lv_at hl 0 rfl) ?_
  refine lv_iconst (v := 3) hx hb dX9_drawnDeed_1 (by decide) ?_
  refine lv_icmp_ne (tgt := 11) hx hb dX9_drawnDeed_2 (by decide) (fun c_1 => ?_) (fun c_1 => ?_)
  · replace hR := te hR c_1
    refine lv_iload_n hx hb dX9_drawnDeed_11 rfl (lv_at hl 0 rfl) ?_
    refine lv_iconst (v := 4) hx hb dX9_drawnDeed_12 (by decide) ?_
    refine lv_icmp_ne (tgt := 25) hx hb dX9_drawnDeed_13 (by decide) (fun c_2 => ?_) (fun c_2 => ?_)
    · replace hR := te hR c_2
      refine lv_bipush (v := 20) hx hb dX9_drawnDeed_25 (by decide) ?_
      refine lv_iload_n hx hb dX9_drawnDeed_27 rfl (lv_at hl 1 rfl) ?_
      refine lv_bipush (v := 10) hx hb dX9_drawnDeed_28 (by decide) ?_
      refine lv_irem hx hb dX9_drawnDeed_30 (by decide) ?_
      refine lv_topi (fun x_3 ex_3 => ?_)
      replace hR := tb hR ex_3
      refine lv_iadd hx hb dX9_drawnDeed_31 ?_
      refine lv_topi (fun x_4 ex_4 => ?_)
      replace hR := tb hR ex_4
      exact fiI hx hb hr hlk hK hP hD hS dX9_drawnDeed_32 (Nat.le_of_ble_eq_true rfl) (Nat.le_of_ble_eq_true rfl) (⟨(hR.symm.trans hT0), rfl⟩)
    · replace hR := ti hR c_2
      have b_5 : iv 4 4 a0 := iv_q c_2 (iv_c (4 : Int32) (a := 4) (b := 4) (by decide))
      refine lv_bipush (v := 10) hx hb dX9_drawnDeed_16 (by decide) ?_
      refine lv_iload_n hx hb dX9_drawnDeed_18 rfl (lv_at hl 1 rfl) ?_
      refine lv_iconst (v := 4) hx hb dX9_drawnDeed_19 (by decide) ?_
      refine lv_irem hx hb dX9_drawnDeed_20 (by decide) ?_
      refine lv_topi (fun x_6 ex_6 => ?_)
      replace hR := tb hR ex_6
      refine lv_iadd hx hb dX9_drawnDeed_21 ?_
      refine lv_topi (fun x_7 ex_7 => ?_)
      replace hR := tb hR ex_7
      refine lv_goto (tgt := 32) hx hb dX9_drawnDeed_22 (by decide) ?_
      exact fiI hx hb hr hlk hK hP hD hS dX9_drawnDeed_32 (Nat.le_of_ble_eq_true rfl) (Nat.le_of_ble_eq_true rfl) (⟨(hR.symm.trans hT0), rfl⟩)
  · replace hR := ti hR c_1
    have b_8 : iv 3 3 a0 := iv_q c_1 (iv_c (3 : Int32) (a := 3) (b := 3) (by decide))
    refine lv_iload_n hx hb dX9_drawnDeed_5 rfl (lv_at hl 1 rfl) ?_
    refine lv_iconst (v := 4) hx hb dX9_drawnDeed_6 (by decide) ?_
    refine lv_irem hx hb dX9_drawnDeed_7 (by decide) ?_
    refine lv_topi (fun x_9 ex_9 => ?_)
    replace hR := tb hR ex_9
    refine lv_goto (tgt := 32) hx hb dX9_drawnDeed_8 (by decide) ?_
    exact fiI hx hb hr hlk hK hP hD hS dX9_drawnDeed_32 (Nat.le_of_ble_eq_true rfl) (Nat.le_of_ble_eq_true rfl) (⟨(hR.symm.trans hT0), rfl⟩)
theorem dX9_century_0 : decode cX9_century 0 = .ok (.iload_n 2, 1) := by decide +kernel
theorem dX9_century_1 : decode cX9_century 1 = .ok (.iconst 1, 1) := by decide +kernel
theorem dX9_century_2 : decode cX9_century 2 = .ok (.if_icmp .lt 9, 3) := by decide +kernel
theorem dX9_century_11 : decode cX9_century 11 = .ok (.bipush (-3), 2) := by decide +kernel
theorem dX9_century_13 : decode cX9_century 13 = .ok (.ireturn, 1) := by decide +kernel
theorem dX9_century_5 : decode cX9_century 5 = .ok (.iload_n 2, 1) := by decide +kernel
theorem dX9_century_6 : decode cX9_century 6 = .ok (.bipush 40, 2) := by decide +kernel
theorem dX9_century_8 : decode cX9_century 8 = .ok (.if_icmp .le 6, 3) := by decide +kernel
theorem dX9_century_14 : decode cX9_century 14 = .ok (.aload_n 0, 1) := by decide +kernel
theorem dX9_century_15 : decode cX9_century 15 = .ok (.getfield 113, 3) := by decide +kernel
theorem dX9_century_18 : decode cX9_century 18 = .ok (.istore_n 3, 1) := by decide +kernel
theorem dX9_century_19 : decode cX9_century 19 = .ok (.aload_n 0, 1) := by decide +kernel
theorem dX9_century_20 : decode cX9_century 20 = .ok (.getfield 116, 3) := by decide +kernel
theorem dX9_century_23 : decode cX9_century 23 = .ok (.istore 4, 2) := by decide +kernel
theorem dX9_century_25 : decode cX9_century 25 = .ok (.aload_n 0, 1) := by decide +kernel
theorem dX9_century_26 : decode cX9_century 26 = .ok (.getfield 119, 3) := by decide +kernel
theorem dX9_century_29 : decode cX9_century 29 = .ok (.istore 5, 2) := by decide +kernel
theorem dX9_century_31 : decode cX9_century 31 = .ok (.iconst 0, 1) := by decide +kernel
theorem dX9_century_32 : decode cX9_century 32 = .ok (.istore 6, 2) := by decide +kernel
theorem dX9_century_34 : decode cX9_century 34 = .ok (.iload_n 1, 1) := by decide +kernel
theorem dX9_century_35 : decode cX9_century 35 = .ok (.istore 7, 2) := by decide +kernel
theorem dX9_century_37 : decode cX9_century 37 = .ok (.iconst 0, 1) := by decide +kernel
theorem dX9_century_38 : decode cX9_century 38 = .ok (.istore 8, 2) := by decide +kernel
theorem dX9_century_40 : decode cX9_century 40 = .ok (.iload 8, 2) := by decide +kernel
theorem dX9_century_42 : decode cX9_century 42 = .ok (.iload_n 2, 1) := by decide +kernel
theorem dX9_century_43 : decode cX9_century 43 = .ok (.if_icmp .ge 67, 3) := by decide +kernel
theorem dX9_century_110 : decode cX9_century 110 = .ok (.iload 6, 2) := by decide +kernel
theorem dX9_century_112 : decode cX9_century 112 = .ok (.ifCond .le 15, 3) := by decide +kernel
theorem dX9_century_127 : decode cX9_century 127 = .ok (.iload 6, 2) := by decide +kernel
theorem dX9_century_129 : decode cX9_century 129 = .ok (.ireturn, 1) := by decide +kernel
theorem dX9_century_115 : decode cX9_century 115 = .ok (.aload_n 0, 1) := by decide +kernel
theorem dX9_century_116 : decode cX9_century 116 = .ok (.getfield 48, 3) := by decide +kernel
theorem dX9_century_119 : decode cX9_century 119 = .ok (.iload_n 3, 1) := by decide +kernel
theorem dX9_century_120 : decode cX9_century 120 = .ok (.iload 4, 2) := by decide +kernel
theorem dX9_century_122 : decode cX9_century 122 = .ok (.iload 5, 2) := by decide +kernel
theorem dX9_century_124 : decode cX9_century 124 = .ok (.invokevirtual 165, 3) := by decide +kernel
theorem dX9_century_46 : decode cX9_century 46 = .ok (.iload 7, 2) := by decide +kernel
theorem q_4_12 : Cond.code yX9_drawnFrom prog_1_method_31_code 1 (some FieldType.int) ∈ gw := gw_4 (i := 12) (rfl) rfl
theorem q_4_11 : Cond.static yX9_drawnFrom ∈ gw := gw_4 (i := 11) (by decide +kernel) rfl
theorem mt_X9_drawnFrom : MtS yX9_drawnFrom cX9_drawnFrom 1 (some .int) 1 := ⟨⟨q_4_12, q_1_1, by decide +kernel, by decide +kernel, by decide +kernel⟩, q_4_11⟩
theorem q_4_10 : Cond.methodLink "BeaconDelay" 219 yX9_drawnFrom ∈ gw := gw_4 (i := 10) (by decide +kernel) rfl
theorem dX9_century_48 : decode cX9_century 48 = .ok (.invokestatic 219, 3) := by decide +kernel
theorem dX9_century_51 : decode cX9_century 51 = .ok (.istore 7, 2) := by decide +kernel
theorem dX9_century_53 : decode cX9_century 53 = .ok (.iload 7, 2) := by decide +kernel
theorem dX9_century_55 : decode cX9_century 55 = .ok (.bipush 16, 2) := by decide +kernel
theorem dX9_century_57 : decode cX9_century 57 = .ok (.iushr, 1) := by decide +kernel
theorem dX9_century_58 : decode cX9_century 58 = .ok (.bipush 6, 2) := by decide +kernel
theorem dX9_century_60 : decode cX9_century 60 = .ok (.irem, 1) := by decide +kernel
theorem dX9_century_61 : decode cX9_century 61 = .ok (.istore 9, 2) := by decide +kernel
theorem dX9_century_63 : decode cX9_century 63 = .ok (.iconst 0, 1) := by decide +kernel
theorem dX9_century_64 : decode cX9_century 64 = .ok (.istore 10, 2) := by decide +kernel
theorem dX9_century_66 : decode cX9_century 66 = .ok (.iload 9, 2) := by decide +kernel
theorem dX9_century_68 : decode cX9_century 68 = .ok (.iconst 2, 1) := by decide +kernel
theorem dX9_century_69 : decode cX9_century 69 = .ok (.if_icmp .le 22, 3) := by decide +kernel
theorem dX9_century_91 : decode cX9_century 91 = .ok (.aload_n 0, 1) := by decide +kernel
theorem dX9_century_92 : decode cX9_century 92 = .ok (.iload 10, 2) := by decide +kernel
theorem dX9_century_94 : decode cX9_century 94 = .ok (.i2l, 1) := by decide +kernel
theorem dX9_century_95 : decode cX9_century 95 = .ok (.invokevirtual 169, 3) := by decide +kernel
theorem dX9_century_98 : decode cX9_century 98 = .ok (.ifCond .ne 6, 3) := by decide +kernel
theorem dX9_century_104 : decode cX9_century 104 = .ok (.iinc 8 1, 3) := by decide +kernel
theorem dX9_century_107 : decode cX9_century 107 = .ok (.goto (-67), 3) := by decide +kernel
theorem dX9_century_101 : decode cX9_century 101 = .ok (.iinc 6 1, 3) := by decide +kernel
theorem dX9_century_72 : decode cX9_century 72 = .ok (.iload 7, 2) := by decide +kernel
theorem dX9_century_74 : decode cX9_century 74 = .ok (.invokestatic 219, 3) := by decide +kernel
theorem dX9_century_77 : decode cX9_century 77 = .ok (.istore 7, 2) := by decide +kernel
theorem dX9_century_79 : decode cX9_century 79 = .ok (.iload 9, 2) := by decide +kernel
theorem dX9_century_81 : decode cX9_century 81 = .ok (.iload 7, 2) := by decide +kernel
theorem dX9_century_83 : decode cX9_century 83 = .ok (.bipush 16, 2) := by decide +kernel
theorem dX9_century_85 : decode cX9_century 85 = .ok (.iushr, 1) := by decide +kernel
theorem q_4_16 : Cond.code yX9_drawnDeed prog_1_method_32_code 2 (some FieldType.int) ∈ gw := gw_4 (i := 16) (rfl) rfl
theorem q_4_15 : Cond.static yX9_drawnDeed ∈ gw := gw_4 (i := 15) (by decide +kernel) rfl
theorem mt_X9_drawnDeed : MtS yX9_drawnDeed cX9_drawnDeed 2 (some .int) 2 := ⟨⟨q_4_16, q_1_1, by decide +kernel, by decide +kernel, by decide +kernel⟩, q_4_15⟩
theorem q_4_14 : Cond.methodLink "BeaconDelay" 222 yX9_drawnDeed ∈ gw := gw_4 (i := 14) (by decide +kernel) rfl
theorem dX9_century_86 : decode cX9_century 86 = .ok (.invokestatic 222, 3) := by decide +kernel
theorem dX9_century_89 : decode cX9_century 89 = .ok (.istore 10, 2) := by decide +kernel
set_option maxRecDepth 100000 in
noncomputable def B_k_X9_century_0_1 (D9 : Nat → Int32) (a2 : Int32) (fy27 : Nat → Int32) (fy28 : Nat → Int32) (fy29 : Nat → Int32) (py0_12 : Int32) (py0_13 : Int32) (py0_14 : Int32) (py26_3 : Int32) (py2_1 : Int32) (u_6 : Int32) (u_7 : Int32) (u_8 : Int32) (u_9 : Int32) (u_10 : Int32) (u_11 : Int32) : (Int32 × Int32 × Int32 × Int32 × Int32 × Int32) ⊕ (Int32 × Int32 × Int32 × Int32 × Int32 × (Nat → Int32) × (Nat → Int32) × (Nat → Int32)) := if a2 ≤ u_6 then (if u_8 ≤ (0 : Int32) then (Sum.inr ((u_8, u_9, u_10, u_11, py26_3, fy27, fy28, fy29))) else (bnd (F_k_X5_keep_0 py0_12 py0_13 py0_14 py26_3 fy27 fy28 fy29 : Int32 × (Nat → Int32) × (Nat → Int32) × (Nat → Int32)) fun (q_29 : Int32 × (Nat → Int32) × (Nat → Int32) × (Nat → Int32)) => bnd (q_29.1 : Int32) fun (v_21 : Int32) => bnd (q_29.2.1 : Nat → Int32) fun (f_22 : Nat → Int32) => bnd (q_29.2.2.1 : Nat → Int32) fun (f_23 : Nat → Int32) => bnd (q_29.2.2.2 : Nat → Int32) fun (f_24 : Nat → Int32) => Sum.inr ((u_8, u_9, u_10, u_11, v_21, f_22, f_23, f_24)))) else (bnd (F_k_X9_drawnFrom_0 u_7 : Int32) fun (r_31 : Int32) => bnd ((r_31.toUInt32 >>> ((16 : Int32).toUInt32 &&& Int32.toUInt32 31)).toInt32 : Int32) fun (x_34 : Int32) => bnd (x_34 - x_34 / (6 : Int32) * (6 : Int32) : Int32) fun (x_35 : Int32) => if x_35 ≤ (2 : Int32) then (bnd (F_k_X9_tryDeed_0 D9 (0 : Int64) u_9 u_10 u_11 py2_1 : Int32 × Int32 × Int32 × Int32) fun (q_50 : Int32 × Int32 × Int32 × Int32) => bnd (q_50.1 : Int32) fun (r_38 : Int32) => bnd (q_50.2.1 : Int32) fun (v_42 : Int32) => bnd (q_50.2.2.1 : Int32) fun (v_43 : Int32) => bnd (q_50.2.2.2 : Int32) fun (v_44 : Int32) => if r_38 = (0 : Int32) then (bnd (u_8 + 1 : Int32) fun (x_55 : Int32) => bnd (u_6 + 1 : Int32) fun (x_56 : Int32) => Sum.inl (x_56, r_31, x_55, v_42, v_43, v_44)) else (bnd (u_6 + 1 : Int32) fun (x_53 : Int32) => Sum.inl (x_53, r_31, u_8, v_42, v_43, v_44))) else (bnd (F_k_X9_drawnFrom_0 r_31 : Int32) fun (r_58 : Int32) => bnd ((r_58.toUInt32 >>> ((16 : Int32).toUInt32 &&& Int32.toUInt32 31)).toInt32 : Int32) fun (x_61 : Int32) => bnd (F_k_X9_drawnDeed_0 x_35 x_61 : Int32) fun (r_62 : Int32) => bnd (r_62.toInt64 : Int64) fun (j_65 : Int64) => bnd (F_k_X9_tryDeed_0 D9 j_65 u_9 u_10 u_11 py2_1 : Int32 × Int32 × Int32 × Int32) fun (q_78 : Int32 × Int32 × Int32 × Int32) => bnd (q_78.1 : Int32) fun (r_66 : Int32) => bnd (q_78.2.1 : Int32) fun (v_70 : Int32) => bnd (q_78.2.2.1 : Int32) fun (v_71 : Int32) => bnd (q_78.2.2.2 : Int32) fun (v_72 : Int32) => if r_66 = (0 : Int32) then (bnd (u_8 + 1 : Int32) fun (x_83 : Int32) => bnd (u_6 + 1 : Int32) fun (x_84 : Int32) => Sum.inl (x_84, r_58, x_83, v_70, v_71, v_72)) else (bnd (u_6 + 1 : Int32) fun (x_81 : Int32) => Sum.inl (x_81, r_58, u_8, v_70, v_71, v_72))))
noncomputable def L_k_X9_century_0_1 (D9 : Nat → Int32) (a2 : Int32) (fy27 : Nat → Int32) (fy28 : Nat → Int32) (fy29 : Nat → Int32) (py0_12 : Int32) (py0_13 : Int32) (py0_14 : Int32) (py26_3 : Int32) (py2_1 : Int32) (q9 : Int32 × Int32 × Int32 × Int32 × Int32 × Int32) : (Int32 × Int32 × Int32 × Int32 × Int32 × Int32) ⊕ (Int32 × Int32 × Int32 × Int32 × Int32 × (Nat → Int32) × (Nat → Int32) × (Nat → Int32)) := B_k_X9_century_0_1 D9 a2 fy27 fy28 fy29 py0_12 py0_13 py0_14 py26_3 py2_1 q9.1 q9.2.1 q9.2.2.1 q9.2.2.2.1 q9.2.2.2.2.1 q9.2.2.2.2.2
set_option maxRecDepth 100000 in
noncomputable def F_k_X9_century_0 (D9 : Nat → Int32) (a1 : Int32) (a2 : Int32) (py0_12 : Int32) (py0_13 : Int32) (py0_14 : Int32) (py2_1 : Int32) (py26_3 : Int32) (fy27 : Nat → Int32) (fy28 : Nat → Int32) (fy29 : Nat → Int32) : Int32 × Int32 × Int32 × Int32 × Int32 × (Nat → Int32) × (Nat → Int32) × (Nat → Int32) := if a2 < (1 : Int32) then ((((-3) : Int32), py0_12, py0_13, py0_14, py26_3, fy27, fy28, fy29)) else (if a2 ≤ (40 : Int32) then (W9 (L_k_X9_century_0_1 D9 a2 fy27 fy28 fy29 py0_12 py0_13 py0_14 py26_3 py2_1) (0, a1, 0, py0_12, py0_13, py0_14)) else ((((-3) : Int32), py0_12, py0_13, py0_14, py26_3, fy27, fy28, fy29)))
set_option maxHeartbeats 4000000 in
set_option maxRecDepth 100000 in
theorem k_X9_century_0 (l : Launch) (V : GV) (y : Nat → Nat) (D9 : Nat → Int32) (a1 : Int32) (a2 : Int32) (py0_1 : Int32) (o10 : Value) (o11 : Value) (py0_12 : Int32) (py0_13 : Int32) (py0_14 : Int32) (py2_0 : Int32) (py2_1 : Int32) (py2_2 : Int32) (py2_3 : Int32) (py2_4 : Int32) (py2_5 : Int32) (py2_13 : Int32) (py2_14 : Int32) (py2_15 : Int32) (py2_16 : Int32) (py2_17 : Int32) (fy3 : Nat → Int32) (fy9 : Nat → Int32) (fy20 : Nat → Int32) (fy21 : Nat → Int32) (fy22 : Nat → Int32) (py26_3 : Int32) (fy27 : Nat → Int32) (fy28 : Nat → Int32) (fy29 : Nat → Int32) (bpy0_1 : iv 0 900 py0_1) (bpy0_12 : iv 0 9999 py0_12) (bpy0_13 : iv 0 9 py0_13) (bpy2_1 : iv 0 4 py2_1) (bpy2_2 : iv 0 4 py2_2) (bpy2_3 : iv 0 8 py2_3) (bpy2_4 : iv 0 9999 py2_4) (bpy2_5 : iv 0 9 py2_5) (bpy2_13 : iv 0 900 py2_13) (bpy2_14 : iv 0 900 py2_14) (bpy2_15 : iv 0 900 py2_15) (bpy2_16 : iv 0 900 py2_16) (bpy2_17 : iv 0 900 py2_17) (tfy20 : ∀ j, iv 0 10 (fy20 j)) (bpy26_3 : iv 0 10 py26_3) (tfy27 : ∀ j, iv 0 9999 (fy27 j)) (tfy28 : ∀ j, iv 0 9 (fy28 j)) (hL9 : LW D9 fy3 fy9 py2_14 py2_15 py2_16 py2_17) (hK9 : KN D9 fy20) : Ct l V yX9_century (.code yX9_century cX9_century 11 (some .int)) 7 [.ref (y 0), .int a1, .int a2] [(y 0, .inr (9, o9_rirrrrrrrrvviii (y 1) py0_1 (y 2) (y 10) (y 19) (y 25) (y 26) (y 30) (y 31) (y 32) o10 o11 py0_12 py0_13 py0_14)), (y 2, .inr (1, o1_iiiiiirrrrrrriiiii py2_0 py2_1 py2_2 py2_3 py2_4 py2_5 (y 3) (y 4) (y 5) (y 6) (y 7) (y 8) (y 9) py2_13 py2_14 py2_15 py2_16 py2_17)), (y 3, aI V 4 fy3), (y 9, aI V 900 fy9), (y 19, .inr (4, o4_rrrrrr (y 2) (y 20) (y 21) (y 22) (y 23) (y 24))), (y 20, aI V 2000 fy20), (y 21, aI V 6 fy21), (y 22, aI V 64 fy22), (y 26, .inr (5, o5_rrri (y 27) (y 28) (y 29) py26_3)), (y 27, aI V 10 fy27), (y 28, aI V 10 fy28), (y 29, aI V 10 fy29)] 0 0 (QI V (fun (r : Int32) (w : va_W) => ∃ (v0 : Int32) (v1 : Int32) (v2 : Int32) (g3 : Nat → Int32) (g4 : Nat → Int32) (g5 : Nat → Int32) (v6 : Int32) (g7 : Nat → Int32) (g8 : Nat → Int32) (g9 : Nat → Int32), iv 0 9999 v0 ∧ iv 0 9 v1 ∧ (∀ j, iv 0 10 (g3 j)) ∧ iv 0 10 v6 ∧ (∀ j, iv 0 9999 (g7 j)) ∧ (∀ j, iv 0 9 (g8 j)) ∧ r = (F_k_X9_century_0 D9 a1 a2 py0_12 py0_13 py0_14 py2_1 py26_3 fy27 fy28 fy29).1 ∧ v0 = (F_k_X9_century_0 D9 a1 a2 py0_12 py0_13 py0_14 py2_1 py26_3 fy27 fy28 fy29).2.1 ∧ v1 = (F_k_X9_century_0 D9 a1 a2 py0_12 py0_13 py0_14 py2_1 py26_3 fy27 fy28 fy29).2.2.1 ∧ v2 = (F_k_X9_century_0 D9 a1 a2 py0_12 py0_13 py0_14 py2_1 py26_3 fy27 fy28 fy29).2.2.2.1 ∧ v6 = (F_k_X9_century_0 D9 a1 a2 py0_12 py0_13 py0_14 py2_1 py26_3 fy27 fy28 fy29).2.2.2.2.1 ∧ g7 = (F_k_X9_century_0 D9 a1 a2 py0_12 py0_13 py0_14 py2_1 py26_3 fy27 fy28 fy29).2.2.2.2.2.1 ∧ g8 = (F_k_X9_century_0 D9 a1 a2 py0_12 py0_13 py0_14 py2_1 py26_3 fy27 fy28 fy29).2.2.2.2.2.2.1 ∧ g9 = (F_k_X9_century_0 D9 a1 a2 py0_12 py0_13 py0_14 py2_1 py26_3 fy27 fy28 fy29).2.2.2.2.2.2.2 ∧ KN D9 g3 ∧ w = [(y 0, .inr (9, o9_rirrrrrrrrvviii (y 1) py0_1 (y 2) (y 10) (y 19) (y 25) (y 26) (y 30) (y 31) (y 32) o10 o11 v0 v1 v2)), (y 2, .inr (1, o1_iiiiiirrrrrrriiiii py2_0 py2_1 py2_2 py2_3 py2_4 py2_5 (y 3) (y 4) (y 5) (y 6) (y 7) (y 8) (y 9) py2_13 py2_14 py2_15 py2_16 py2_17)), (y 3, aI V 4 fy3), (y 9, aI V 900 fy9), (y 19, .inr (4, o4_rrrrrr (y 2) (y 20) (y 21) (y 22) (y 23) (y 24))), (y 20, aI V 2000 g3), (y 21, aI V 6 g4), (y 22, aI V 64 g5), (y 26, .inr (5, o5_rrri (y 27) (y 28) (y 29) v6)), (y 27, aI V 10 g7), (y 28, aI V 10 g8), (y 29, aI V 10 g9)])) := by
  refine Ct.of (by decide) (Nat.le_of_ble_eq_true rfl) (fun p e s m below meth c A ls hx hb hr hml hown hlk hnm hg hP hK hD hE hA hS hl => ?_)
  have hl : lv_has ls 11 [(0, .ref (y 0)), (1, .int a1), (2, .int a2)] := hl
  obtain ⟨T0, hT0⟩ : ∃ T9, T9 = F_k_X9_century_0 D9 a1 a2 py0_12 py0_13 py0_14 py2_1 py26_3 fy27 fy28 fy29 := ⟨_, rfl⟩
  have hR := hT0.trans (F_k_X9_century_0.eq_1 ..)
  refine lv_iload_n hx hb dX9_century_0 rfl (lv_at hl 2 rfl) ?_
  refine lv_iconst (v := 1) hx hb dX9_century_1 (by decide) ?_
  refine lv_icmp_lt (tgt := 11) hx hb dX9_century_2 (by decide) (fun c_1 => ?_) (fun c_1 => ?_)
  · replace hR := ti hR c_1
    have b_2 : iv (-2147483648) 0 a2 := iv_l1 c_1 (iv_top a2) (iv_c (1 : Int32) (a := 1) (b := 1) (by decide)) (by decide)
    refine lv_bipush (v := (-3)) hx hb dX9_century_11 (by decide) ?_
    exact fiI hx hb hr hlk hK hP hD hS dX9_century_13 (Nat.le_of_ble_eq_true rfl) (Nat.le_of_ble_eq_true rfl) (⟨py0_12, py0_13, py0_14, fy20, fy21, fy22, py26_3, fy27, fy28, fy29, bpy0_12, bpy0_13, tfy20, bpy26_3, tfy27, tfy28, (congrArg Prod.fst (hR.symm.trans hT0)), (congrArg Prod.fst (congrArg Prod.snd (hR.symm.trans hT0))), (congrArg Prod.fst (congrArg Prod.snd (congrArg Prod.snd (hR.symm.trans hT0)))), (congrArg Prod.fst (congrArg Prod.snd (congrArg Prod.snd (congrArg Prod.snd (hR.symm.trans hT0))))), (congrArg Prod.fst (congrArg Prod.snd (congrArg Prod.snd (congrArg Prod.snd (congrArg Prod.snd (hR.symm.trans hT0)))))), (congrArg Prod.fst (congrArg Prod.snd (congrArg Prod.snd (congrArg Prod.snd (congrArg Prod.snd (congrArg Prod.snd (hR.symm.trans hT0))))))), (congrArg Prod.fst (congrArg Prod.snd (congrArg Prod.snd (congrArg Prod.snd (congrArg Prod.snd (congrArg Prod.snd (congrArg Prod.snd (hR.symm.trans hT0)))))))), (congrArg Prod.snd (congrArg Prod.snd (congrArg Prod.snd (congrArg Prod.snd (congrArg Prod.snd (congrArg Prod.snd (congrArg Prod.snd (hR.symm.trans hT0)))))))), hK9, rfl⟩)
  · replace hR := te hR c_1
    have b_3 : iv 1 2147483647 a2 := iv_e2 (Int32.not_lt.mp c_1) (iv_c (1 : Int32) (a := 1) (b := 1) (by decide)) (iv_top a2) (by decide)
    refine lv_iload_n hx hb dX9_century_5 rfl (lv_at hl 2 rfl) ?_
    refine lv_bipush (v := 40) hx hb dX9_century_6 (by decide) ?_
    refine lv_icmp_le (tgt := 14) hx hb dX9_century_8 (by decide) (fun c_4 => ?_) (fun c_4 => ?_)
    · replace hR := ti hR c_4
      have b_5 : iv 1 40 a2 := iv_e1 c_4 b_3 (iv_c (40 : Int32) (a := 40) (b := 40) (by decide)) (by decide)
      refine lv_aload_n hx hb dX9_century_14 rfl (lv_at hl 0 rfl) ?_
      refine va_get (ci := 9) (v := .int py0_12) (C := RX9) (T := TX9) (N := 15) hx hb hg inX9 hown hK hP 0 rfl rfl 12 (by decide) (hg _ q_2_48) (fun _ h9 => h9) rfl dX9_century_15 ?_
      refine lv_istore_n (lv' := [(3, .int py0_12), (0, .ref (y 0)), (1, .int a1), (2, .int a2)]) hx hb dX9_century_18 rfl hl (by decide) rfl (fun ls hl => ?_)
      refine lv_aload_n hx hb dX9_century_19 rfl (lv_at hl 1 rfl) ?_
      refine va_get (ci := 9) (v := .int py0_13) (C := RX9) (T := TX9) (N := 15) hx hb hg inX9 hown hK hP 0 rfl rfl 13 (by decide) (hg _ q_2_49) (fun _ h9 => h9) rfl dX9_century_20 ?_
      refine lv_istore (lv' := [(4, .int py0_13), (3, .int py0_12), (0, .ref (y 0)), (1, .int a1), (2, .int a2)]) hx hb dX9_century_23 hl (by decide) rfl (fun ls hl => ?_)
      refine lv_aload_n hx hb dX9_century_25 rfl (lv_at hl 2 rfl) ?_
      refine va_get (ci := 9) (v := .int py0_14) (C := RX9) (T := TX9) (N := 15) hx hb hg inX9 hown hK hP 0 rfl rfl 14 (by decide) (hg _ q_2_50) (fun _ h9 => h9) rfl dX9_century_26 ?_
      refine lv_istore (lv' := [(5, .int py0_14), (4, .int py0_13), (3, .int py0_12), (0, .ref (y 0)), (1, .int a1), (2, .int a2)]) hx hb dX9_century_29 hl (by decide) rfl (fun ls hl => ?_)
      refine lv_iconst (v := 0) hx hb dX9_century_31 (by decide) ?_
      refine lv_istore (lv' := [(6, .int 0), (5, .int py0_14), (4, .int py0_13), (3, .int py0_12), (0, .ref (y 0)), (1, .int a1), (2, .int a2)]) hx hb dX9_century_32 hl (by decide) rfl (fun ls hl => ?_)
      refine lv_iload_n hx hb dX9_century_34 rfl (lv_at hl 5 rfl) ?_
      refine lv_istore (lv' := [(7, .int a1), (6, .int 0), (5, .int py0_14), (4, .int py0_13), (3, .int py0_12), (0, .ref (y 0)), (1, .int a1), (2, .int a2)]) hx hb dX9_century_35 hl (by decide) rfl (fun ls hl => ?_)
      refine lv_iconst (v := 0) hx hb dX9_century_37 (by decide) ?_
      refine lv_istore (lv' := [(8, .int 0), (7, .int a1), (6, .int 0), (5, .int py0_14), (4, .int py0_13), (3, .int py0_12), (0, .ref (y 0)), (1, .int a1), (2, .int a2)]) hx hb dX9_century_38 hl (by decide) rfl (fun ls hl => ?_)
      refine loopF (X := fun (n_15 : Nat) (H : Heap) (locs : List Loc) (ls : Array Slot) => ∃ (u_6 : Int32) (u_7 : Int32) (u_8 : Int32) (u_9 : Int32) (u_10 : Int32) (u_11 : Int32) (f_12 : Nat → Int32) (f_13 : Nat → Int32) (f_14 : Nat → Int32), (iv 0 2147483647 u_6) ∧ (iv 0 9999 u_9) ∧ (iv 0 9 u_10) ∧ (∀ j, iv 0 10 (f_12 j)) ∧ KN D9 f_12 ∧ T0 = W9 (L_k_X9_century_0_1 D9 a2 fy27 fy28 fy29 py0_12 py0_13 py0_14 py26_3 py2_1) (u_6, u_7, u_8, u_9, u_10, u_11) ∧ n_15 = (2147483647 - (u_6 : Int32).toInt).toNat ∧ va_P V.1 vwCl [(y 0, .inr (9, o9_rirrrrrrrrvviii (y 1) py0_1 (y 2) (y 10) (y 19) (y 25) (y 26) (y 30) (y 31) (y 32) o10 o11 u_9 u_10 u_11)), (y 2, .inr (1, o1_iiiiiirrrrrrriiiii py2_0 py2_1 py2_2 py2_3 py2_4 py2_5 (y 3) (y 4) (y 5) (y 6) (y 7) (y 8) (y 9) py2_13 py2_14 py2_15 py2_16 py2_17)), (y 3, aI V 4 fy3), (y 9, aI V 900 fy9), (y 19, .inr (4, o4_rrrrrr (y 2) (y 20) (y 21) (y 22) (y 23) (y 24))), (y 20, aI V 2000 f_12), (y 21, aI V 6 f_13), (y 22, aI V 64 f_14), (y 26, .inr (5, o5_rrri (y 27) (y 28) (y 29) py26_3)), (y 27, aI V 10 fy27), (y 28, aI V 10 fy28), (y 29, aI V 10 fy29)] H ∧ va_D A [(y 0, .inr (9, o9_rirrrrrrrrvviii (y 1) py0_1 (y 2) (y 10) (y 19) (y 25) (y 26) (y 30) (y 31) (y 32) o10 o11 u_9 u_10 u_11)), (y 2, .inr (1, o1_iiiiiirrrrrrriiiii py2_0 py2_1 py2_2 py2_3 py2_4 py2_5 (y 3) (y 4) (y 5) (y 6) (y 7) (y 8) (y 9) py2_13 py2_14 py2_15 py2_16 py2_17)), (y 3, aI V 4 fy3), (y 9, aI V 900 fy9), (y 19, .inr (4, o4_rrrrrr (y 2) (y 20) (y 21) (y 22) (y 23) (y 24))), (y 20, aI V 2000 f_12), (y 21, aI V 6 f_13), (y 22, aI V 64 f_14), (y 26, .inr (5, o5_rrri (y 27) (y 28) (y 29) py26_3)), (y 27, aI V 10 fy27), (y 28, aI V 10 fy28), (y 29, aI V 10 fy29)] ∧ va_S A s.heap H locs ∧ lv_has ls 11 [(8, .int u_6), (7, .int u_7), (6, .int u_8), (5, .int py0_14), (4, .int py0_13), (3, .int py0_12), (0, .ref (y 0)), (1, .int a1), (2, .int a2)]) (g := fun ls => F0 m 40 ls []) (fun n_15 H locs ls hX ihn_15 => ?_) _ ⟨0, a1, 0, py0_12, py0_13, py0_14, fy20, fy21, fy22, (iv_c (0 : Int32) (by decide)), bpy0_12, bpy0_13, tfy20, hK9, hR, rfl, hP, hD, hS, lv_sub hl [0, 1, 2, 3, 4, 5, 6, 7, 8] rfl⟩
      obtain ⟨u_6, u_7, u_8, u_9, u_10, u_11, f_12, f_13, f_14, bu_6, bu_9, bu_10, tf_12, knn_15, hR, en_15, hP, hD, hS, hl⟩ := hX
      obtain ⟨Tn_15, hR, hAn_15⟩ := tw hR
      replace hR : Tn_15 = B_k_X9_century_0_1 D9 a2 fy27 fy28 fy29 py0_12 py0_13 py0_14 py26_3 py2_1 u_6 u_7 u_8 u_9 u_10 u_11 := hR
      replace hR := hR.trans (B_k_X9_century_0_1.eq_1 ..)
      refine lv_iload hx hb dX9_century_40 (lv_at hl 0 rfl) ?_
      refine lv_iload_n hx hb dX9_century_42 rfl (lv_at hl 8 rfl) ?_
      refine lv_icmp_ge (tgt := 110) hx hb dX9_century_43 (by decide) (fun c_16 => ?_) (fun c_16 => ?_)
      · replace hR := ti hR c_16
        have b_17 : iv 1 2147483647 u_6 := iv_e2 c_16 b_5 bu_6 (by decide)
        refine lv_iload hx hb dX9_century_110 (lv_at hl 2 rfl) ?_
        refine lv_if_le (tgt := 127) hx hb dX9_century_112 (by decide) (fun c_18 => ?_) (fun c_18 => ?_)
        · replace hR := ti hR c_18
          have b_19 : iv (-2147483648) 0 u_8 := iv_e1 c_18 (iv_top u_8) (iv_c (0 : Int32) (a := 0) (b := 0) (by decide)) (by decide)
          refine lv_iload hx hb dX9_century_127 (lv_at hl 2 rfl) ?_
          exact fiI hx hb hr hlk hK hP hD hS dX9_century_129 (Nat.le_of_ble_eq_true rfl) (Nat.le_of_ble_eq_true rfl) (⟨u_9, u_10, u_11, f_12, f_13, f_14, py26_3, fy27, fy28, fy29, bu_9, bu_10, tf_12, bpy26_3, tfy27, tfy28, (congrArg Prod.fst ((tx hAn_15 hR).symm.trans hT0)), (congrArg Prod.fst (congrArg Prod.snd ((tx hAn_15 hR).symm.trans hT0))), (congrArg Prod.fst (congrArg Prod.snd (congrArg Prod.snd ((tx hAn_15 hR).symm.trans hT0)))), (congrArg Prod.fst (congrArg Prod.snd (congrArg Prod.snd (congrArg Prod.snd ((tx hAn_15 hR).symm.trans hT0))))), (congrArg Prod.fst (congrArg Prod.snd (congrArg Prod.snd (congrArg Prod.snd (congrArg Prod.snd ((tx hAn_15 hR).symm.trans hT0)))))), (congrArg Prod.fst (congrArg Prod.snd (congrArg Prod.snd (congrArg Prod.snd (congrArg Prod.snd (congrArg Prod.snd ((tx hAn_15 hR).symm.trans hT0))))))), (congrArg Prod.fst (congrArg Prod.snd (congrArg Prod.snd (congrArg Prod.snd (congrArg Prod.snd (congrArg Prod.snd (congrArg Prod.snd ((tx hAn_15 hR).symm.trans hT0)))))))), (congrArg Prod.snd (congrArg Prod.snd (congrArg Prod.snd (congrArg Prod.snd (congrArg Prod.snd (congrArg Prod.snd (congrArg Prod.snd ((tx hAn_15 hR).symm.trans hT0)))))))), knn_15, rfl⟩)
        · replace hR := te hR c_18
          have b_20 : iv 1 2147483647 u_8 := iv_l2 (Int32.not_le.mp c_18) (iv_c (0 : Int32) (a := 0) (b := 0) (by decide)) (iv_top u_8) (by decide)
          refine lv_aload_n hx hb dX9_century_115 rfl (lv_at hl 6 rfl) ?_
          refine va_get (ci := 9) (v := .ref (y 26)) (C := RX9) (T := TX9) (N := 15) hx hb hg inX9 hown hK hP 0 rfl rfl 6 (by decide) (hg _ q_2_42) (fun _ h9 => h9) rfl dX9_century_116 ?_
          refine lv_iload_n hx hb dX9_century_119 rfl (lv_at hl 5 rfl) ?_
          refine lv_iload hx hb dX9_century_120 (lv_at hl 4 rfl) ?_
          refine lv_iload hx hb dX9_century_122 (lv_at hl 3 rfl) ?_
          refine jnV (wr := [(y 0, .inr (9, o9_rirrrrrrrrvviii (y 1) py0_1 (y 2) (y 10) (y 19) (y 25) (y 26) (y 30) (y 31) (y 32) o10 o11 u_9 u_10 u_11)), (y 2, .inr (1, o1_iiiiiirrrrrrriiiii py2_0 py2_1 py2_2 py2_3 py2_4 py2_5 (y 3) (y 4) (y 5) (y 6) (y 7) (y 8) (y 9) py2_13 py2_14 py2_15 py2_16 py2_17)), (y 3, aI V 4 fy3), (y 9, aI V 900 fy9), (y 19, .inr (4, o4_rrrrrr (y 2) (y 20) (y 21) (y 22) (y 23) (y 24))), (y 20, aI V 2000 f_12), (y 21, aI V 6 f_13), (y 22, aI V 64 f_14)]) (rnV (rest := []) ⟨hx, hb, hml, hown, hg⟩ (k_X5_keep_0 l V y py0_12 py0_13 py0_14 py26_3 fy27 fy28 fy29 bpy0_12 bpy0_13 bpy26_3 tfy27 tfy28) mt_X5_keep q_3_177 ⟨Nat.le_of_ble_eq_true rfl, Nat.le_of_ble_eq_true rfl⟩ hK hP hD hS hA hE [8, 9, 10, 11] rfl rfl 8 rfl rfl rfl rfl hl.1 rfl (Nat.le_of_ble_eq_true rfl) dX9_century_124 ⟨Nat.le_of_ble_eq_true rfl, Nat.le_of_ble_eq_true rfl⟩) hP hD hS hA [8, 9, 10, 11] [0, 1, 2, 3, 4, 5, 6, 7] rfl rfl rfl (by decide) (fun  w H locs hw hP hD hS => ?_)
          obtain ⟨v_21, f_22, f_23, f_24, bv_21, tf_22, tf_23, et_25, et_26, et_27, et_28, rfl⟩ := hw
          replace hR := tb0 hR
          replace hR := tb hR et_25
          replace hR := tb hR et_26
          replace hR := tb hR et_27
          replace hR := tb hR et_28
          have hP : va_P V.1 vwCl [(y 0, .inr (9, o9_rirrrrrrrrvviii (y 1) py0_1 (y 2) (y 10) (y 19) (y 25) (y 26) (y 30) (y 31) (y 32) o10 o11 u_9 u_10 u_11)), (y 2, .inr (1, o1_iiiiiirrrrrrriiiii py2_0 py2_1 py2_2 py2_3 py2_4 py2_5 (y 3) (y 4) (y 5) (y 6) (y 7) (y 8) (y 9) py2_13 py2_14 py2_15 py2_16 py2_17)), (y 3, aI V 4 fy3), (y 9, aI V 900 fy9), (y 19, .inr (4, o4_rrrrrr (y 2) (y 20) (y 21) (y 22) (y 23) (y 24))), (y 20, aI V 2000 f_12), (y 21, aI V 6 f_13), (y 22, aI V 64 f_14), (y 26, .inr (5, o5_rrri (y 27) (y 28) (y 29) v_21)), (y 27, aI V 10 f_22), (y 28, aI V 10 f_23), (y 29, aI V 10 f_24)] H := hP
          have hD := cpD hP hD
          refine lv_iload hx hb dX9_century_127 (lv_at hl 2 rfl) ?_
          exact fiI hx hb hr hlk hK hP hD hS dX9_century_129 (Nat.le_of_ble_eq_true rfl) (Nat.le_of_ble_eq_true rfl) (⟨u_9, u_10, u_11, f_12, f_13, f_14, v_21, f_22, f_23, f_24, bu_9, bu_10, tf_12, bv_21, tf_22, tf_23, (congrArg Prod.fst ((tx hAn_15 hR).symm.trans hT0)), (congrArg Prod.fst (congrArg Prod.snd ((tx hAn_15 hR).symm.trans hT0))), (congrArg Prod.fst (congrArg Prod.snd (congrArg Prod.snd ((tx hAn_15 hR).symm.trans hT0)))), (congrArg Prod.fst (congrArg Prod.snd (congrArg Prod.snd (congrArg Prod.snd ((tx hAn_15 hR).symm.trans hT0))))), (congrArg Prod.fst (congrArg Prod.snd (congrArg Prod.snd (congrArg Prod.snd (congrArg Prod.snd ((tx hAn_15 hR).symm.trans hT0)))))), (congrArg Prod.fst (congrArg Prod.snd (congrArg Prod.snd (congrArg Prod.snd (congrArg Prod.snd (congrArg Prod.snd ((tx hAn_15 hR).symm.trans hT0))))))), (congrArg Prod.fst (congrArg Prod.snd (congrArg Prod.snd (congrArg Prod.snd (congrArg Prod.snd (congrArg Prod.snd (congrArg Prod.snd ((tx hAn_15 hR).symm.trans hT0)))))))), (congrArg Prod.snd (congrArg Prod.snd (congrArg Prod.snd (congrArg Prod.snd (congrArg Prod.snd (congrArg Prod.snd (congrArg Prod.snd ((tx hAn_15 hR).symm.trans hT0)))))))), knn_15, rfl⟩)
      · replace hR := te hR c_16
        have b_30 : iv 0 39 u_6 := iv_l1 (Int32.not_le.mp c_16) bu_6 b_5 (by decide)
        refine lv_iload hx hb dX9_century_46 (lv_at hl 1 rfl) ?_
        refine jnI (wr := [(y 0, .inr (9, o9_rirrrrrrrrvviii (y 1) py0_1 (y 2) (y 10) (y 19) (y 25) (y 26) (y 30) (y 31) (y 32) o10 o11 u_9 u_10 u_11)), (y 2, .inr (1, o1_iiiiiirrrrrrriiiii py2_0 py2_1 py2_2 py2_3 py2_4 py2_5 (y 3) (y 4) (y 5) (y 6) (y 7) (y 8) (y 9) py2_13 py2_14 py2_15 py2_16 py2_17)), (y 3, aI V 4 fy3), (y 9, aI V 900 fy9), (y 19, .inr (4, o4_rrrrrr (y 2) (y 20) (y 21) (y 22) (y 23) (y 24))), (y 20, aI V 2000 f_12), (y 21, aI V 6 f_13), (y 22, aI V 64 f_14), (y 26, .inr (5, o5_rrri (y 27) (y 28) (y 29) py26_3)), (y 27, aI V 10 fy27), (y 28, aI V 10 fy28), (y 29, aI V 10 fy29)]) (rnS (rest := []) ⟨hx, hb, hml, hown, hg⟩ (k_X9_drawnFrom_0 l V u_7) mt_X9_drawnFrom q_4_10 ⟨Nat.le_of_ble_eq_true rfl, Nat.le_of_ble_eq_true rfl⟩ hK hP hD hS hA hE [] rfl rfl rfl hl.1 rfl (Nat.le_of_ble_eq_true rfl) dX9_century_48 ⟨Nat.le_of_ble_eq_true rfl, Nat.le_of_ble_eq_true rfl⟩) hP hD hS hA [] [0, 1, 2, 3, 4, 5, 6, 7, 8, 9, 10, 11] rfl rfl rfl (by decide) (fun r_31 w H locs hw hP hD hS => ?_)
        obtain ⟨et_32, rfl⟩ := hw
        replace hR := tb hR et_32
        have hP : va_P V.1 vwCl [(y 0, .inr (9, o9_rirrrrrrrrvviii (y 1) py0_1 (y 2) (y 10) (y 19) (y 25) (y 26) (y 30) (y 31) (y 32) o10 o11 u_9 u_10 u_11)), (y 2, .inr (1, o1_iiiiiirrrrrrriiiii py2_0 py2_1 py2_2 py2_3 py2_4 py2_5 (y 3) (y 4) (y 5) (y 6) (y 7) (y 8) (y 9) py2_13 py2_14 py2_15 py2_16 py2_17)), (y 3, aI V 4 fy3), (y 9, aI V 900 fy9), (y 19, .inr (4, o4_rrrrrr (y 2) (y 20) (y 21) (y 22) (y 23) (y 24))), (y 20, aI V 2000 f_12), (y 21, aI V 6 f_13), (y 22, aI V 64 f_14), (y 26, .inr (5, o5_rrri (y 27) (y 28) (y 29) py26_3)), (y 27, aI V 10 fy27), (y 28, aI V 10 fy28), (y 29, aI V 10 fy29)] H := hP
        have hD := cpD hP hD
        refine lv_istore (lv' := [(7, .int r_31), (8, .int u_6), (6, .int u_8), (5, .int py0_14), (4, .int py0_13), (3, .int py0_12), (0, .ref (y 0)), (1, .int a1), (2, .int a2)]) hx hb dX9_century_51 hl (by decide) rfl (fun ls hl => ?_)
        refine lv_iload hx hb dX9_century_53 (lv_at hl 0 rfl) ?_
        refine lv_bipush (v := 16) hx hb dX9_century_55 (by decide) ?_
        refine lv_iushr hx hb dX9_century_57 rfl ?_
        refine lv_topi (fun x_34 ex_34 => ?_)
        replace hR := tb hR ex_34
        refine lv_bipush (v := 6) hx hb dX9_century_58 (by decide) ?_
        refine lv_irem hx hb dX9_century_60 (by decide) ?_
        refine lv_topi (fun x_35 ex_35 => ?_)
        replace hR := tb hR ex_35
        refine lv_istore (lv' := [(9, .int x_35), (7, .int r_31), (8, .int u_6), (6, .int u_8), (5, .int py0_14), (4, .int py0_13), (3, .int py0_12), (0, .ref (y 0)), (1, .int a1), (2, .int a2)]) hx hb dX9_century_61 hl (by decide) rfl (fun ls hl => ?_)
        refine lv_iconst (v := 0) hx hb dX9_century_63 (by decide) ?_
        refine lv_istore (lv' := [(10, .int 0), (9, .int x_35), (7, .int r_31), (8, .int u_6), (6, .int u_8), (5, .int py0_14), (4, .int py0_13), (3, .int py0_12), (0, .ref (y 0)), (1, .int a1), (2, .int a2)]) hx hb dX9_century_64 hl (by decide) rfl (fun ls hl => ?_)
        refine lv_iload hx hb dX9_century_66 (lv_at hl 1 rfl) ?_
        refine lv_iconst (v := 2) hx hb dX9_century_68 (by decide) ?_
        refine lv_icmp_le (tgt := 91) hx hb dX9_century_69 (by decide) (fun c_36 => ?_) (fun c_36 => ?_)
        · replace hR := ti hR c_36
          have b_37 : iv (-2147483648) 2 x_35 := iv_e1 c_36 (iv_top x_35) (iv_c (2 : Int32) (a := 2) (b := 2) (by decide)) (by decide)
          refine lv_aload_n hx hb dX9_century_91 rfl (lv_at hl 8 rfl) ?_
          refine lv_iload hx hb dX9_century_92 (lv_at hl 0 rfl) ?_
          refine lv_i2l (v := 0) hx hb dX9_century_94 (by decide +kernel) ?_
          refine jnI (wr := [(y 26, .inr (5, o5_rrri (y 27) (y 28) (y 29) py26_3)), (y 27, aI V 10 fy27), (y 28, aI V 10 fy28), (y 29, aI V 10 fy29)]) (rnV (rest := []) ⟨hx, hb, hml, hown, hg⟩ (k_X9_tryDeed_0 l V y D9 0 fy3 fy9 f_12 f_13 f_14 py0_1 o10 o11 u_9 u_10 u_11 py2_0 py2_1 py2_2 py2_3 py2_4 py2_5 py2_13 py2_14 py2_15 py2_16 py2_17 tf_12 bpy0_1 bu_9 bu_10 bpy2_1 bpy2_2 bpy2_3 bpy2_4 bpy2_5 bpy2_13 bpy2_14 bpy2_15 bpy2_16 bpy2_17 hL9 knn_15) mt_X9_tryDeed q_3_185 ⟨Nat.le_of_ble_eq_true rfl, Nat.le_of_ble_eq_true rfl⟩ hK hP hD hS hA hE [2, 3, 4, 5, 6, 7, 0, 1] rfl rfl 0 rfl rfl rfl rfl hl.1 rfl (Nat.le_of_ble_eq_true rfl) dX9_century_95 ⟨Nat.le_of_ble_eq_true rfl, Nat.le_of_ble_eq_true rfl⟩) hP hD hS hA [2, 3, 4, 5, 6, 7, 0, 1] [8, 9, 10, 11] rfl rfl rfl (by decide) (fun r_38 w H locs hw hP hD hS => ?_)
          obtain ⟨f_39, f_40, f_41, v_42, v_43, v_44, tf_39, bv_42, bv_43, br_38, et_45, et_46, et_47, et_48, kn_49, rfl⟩ := hw
          replace hR := tb0 hR
          replace hR := tb hR et_45
          replace hR := tb hR et_46
          replace hR := tb hR et_47
          replace hR := tb hR et_48
          have hP : va_P V.1 vwCl [(y 26, .inr (5, o5_rrri (y 27) (y 28) (y 29) py26_3)), (y 27, aI V 10 fy27), (y 28, aI V 10 fy28), (y 29, aI V 10 fy29), (y 3, aI V 4 fy3), (y 9, aI V 900 fy9), (y 19, .inr (4, o4_rrrrrr (y 2) (y 20) (y 21) (y 22) (y 23) (y 24))), (y 20, aI V 2000 f_39), (y 21, aI V 6 f_40), (y 22, aI V 64 f_41), (y 0, .inr (9, o9_rirrrrrrrrvviii (y 1) py0_1 (y 2) (y 10) (y 19) (y 25) (y 26) (y 30) (y 31) (y 32) o10 o11 v_42 v_43 v_44)), (y 2, .inr (1, o1_iiiiiirrrrrrriiiii py2_0 py2_1 py2_2 py2_3 py2_4 py2_5 (y 3) (y 4) (y 5) (y 6) (y 7) (y 8) (y 9) py2_13 py2_14 py2_15 py2_16 py2_17))] H := hP
          have hD := cpD hP hD
          refine lv_if_ne (tgt := 104) hx hb dX9_century_98 (by decide) (fun c_51 => ?_) (fun c_51 => ?_)
          · replace hR := te hR c_51
            have b_52 : iv 1 2 r_38 := iv_n0 c_51 br_38 (iv_c (0 : Int32) (a := 0) (b := 0) (by decide)) (by decide)
            obtain ⟨x_53, ex_53⟩ : ∃ z9 : Int32, z9 = u_6 + 1 := ⟨_, rfl⟩
            have bx_53 : iv 1 40 x_53 := by rw [ex_53]; exact iv_add b_30 (iv_c (1 : Int32) (a := 1) (b := 1) (by decide)) (by decide)
            replace hR := tb hR ex_53
            refine lv_iinc (v := x_53) (lv' := [(8, .int x_53), (10, .int 0), (9, .int x_35), (7, .int r_31), (6, .int u_8), (5, .int py0_14), (4, .int py0_13), (3, .int py0_12), (0, .ref (y 0)), (1, .int a1), (2, .int a2)]) hx hb dX9_century_104 hl (k := 3) rfl (by rw [ex_53]; rfl) (by decide) rfl (fun ls hl => ?_)
            refine lv_goto (tgt := 40) hx hb dX9_century_107 (by decide) ?_
            have hP := subP (ws' := [(y 0, .inr (9, o9_rirrrrrrrrvviii (y 1) py0_1 (y 2) (y 10) (y 19) (y 25) (y 26) (y 30) (y 31) (y 32) o10 o11 v_42 v_43 v_44)), (y 2, .inr (1, o1_iiiiiirrrrrrriiiii py2_0 py2_1 py2_2 py2_3 py2_4 py2_5 (y 3) (y 4) (y 5) (y 6) (y 7) (y 8) (y 9) py2_13 py2_14 py2_15 py2_16 py2_17)), (y 3, aI V 4 fy3), (y 9, aI V 900 fy9), (y 19, .inr (4, o4_rrrrrr (y 2) (y 20) (y 21) (y 22) (y 23) (y 24))), (y 20, aI V 2000 f_39), (y 21, aI V 6 f_40), (y 22, aI V 64 f_41), (y 26, .inr (5, o5_rrri (y 27) (y 28) (y 29) py26_3)), (y 27, aI V 10 fy27), (y 28, aI V 10 fy28), (y 29, aI V 10 fy29)]) hP [10, 11, 4, 5, 6, 7, 8, 9, 0, 1, 2, 3] rfl
            have hD := subD hP hD [10, 11, 4, 5, 6, 7, 8, 9, 0, 1, 2, 3] rfl rfl
            exact ihn_15 _ _ _ _ (by rw [en_15, ex_53]; exact mu_up b_30 (by decide)) ⟨x_53, r_31, u_8, v_42, v_43, v_44, f_39, f_40, f_41, (iv_w bx_53 (by decide)), bv_42, bv_43, tf_39, kn_49, (tbk hAn_15 hR), rfl, hP, hD, hS, lv_sub hl [0, 3, 4, 5, 6, 7, 8, 9, 10] rfl⟩
          · replace hR := ti hR c_51
            have b_54 : iv 0 0 r_38 := iv_q c_51 (iv_c (0 : Int32) (a := 0) (b := 0) (by decide))
            obtain ⟨x_55, ex_55⟩ : ∃ z9 : Int32, z9 = u_8 + 1 := ⟨_, rfl⟩
            replace hR := tb hR ex_55
            refine lv_iinc (v := x_55) (lv' := [(6, .int x_55), (10, .int 0), (9, .int x_35), (7, .int r_31), (8, .int u_6), (5, .int py0_14), (4, .int py0_13), (3, .int py0_12), (0, .ref (y 0)), (1, .int a1), (2, .int a2)]) hx hb dX9_century_101 hl (k := 4) rfl (by rw [ex_55]; rfl) (by decide) rfl (fun ls hl => ?_)
            obtain ⟨x_56, ex_56⟩ : ∃ z9 : Int32, z9 = u_6 + 1 := ⟨_, rfl⟩
            have bx_56 : iv 1 40 x_56 := by rw [ex_56]; exact iv_add b_30 (iv_c (1 : Int32) (a := 1) (b := 1) (by decide)) (by decide)
            replace hR := tb hR ex_56
            refine lv_iinc (v := x_56) (lv' := [(8, .int x_56), (6, .int x_55), (10, .int 0), (9, .int x_35), (7, .int r_31), (5, .int py0_14), (4, .int py0_13), (3, .int py0_12), (0, .ref (y 0)), (1, .int a1), (2, .int a2)]) hx hb dX9_century_104 hl (k := 4) rfl (by rw [ex_56]; rfl) (by decide) rfl (fun ls hl => ?_)
            refine lv_goto (tgt := 40) hx hb dX9_century_107 (by decide) ?_
            have hP := subP (ws' := [(y 0, .inr (9, o9_rirrrrrrrrvviii (y 1) py0_1 (y 2) (y 10) (y 19) (y 25) (y 26) (y 30) (y 31) (y 32) o10 o11 v_42 v_43 v_44)), (y 2, .inr (1, o1_iiiiiirrrrrrriiiii py2_0 py2_1 py2_2 py2_3 py2_4 py2_5 (y 3) (y 4) (y 5) (y 6) (y 7) (y 8) (y 9) py2_13 py2_14 py2_15 py2_16 py2_17)), (y 3, aI V 4 fy3), (y 9, aI V 900 fy9), (y 19, .inr (4, o4_rrrrrr (y 2) (y 20) (y 21) (y 22) (y 23) (y 24))), (y 20, aI V 2000 f_39), (y 21, aI V 6 f_40), (y 22, aI V 64 f_41), (y 26, .inr (5, o5_rrri (y 27) (y 28) (y 29) py26_3)), (y 27, aI V 10 fy27), (y 28, aI V 10 fy28), (y 29, aI V 10 fy29)]) hP [10, 11, 4, 5, 6, 7, 8, 9, 0, 1, 2, 3] rfl
            have hD := subD hP hD [10, 11, 4, 5, 6, 7, 8, 9, 0, 1, 2, 3] rfl rfl
            exact ihn_15 _ _ _ _ (by rw [en_15, ex_56]; exact mu_up b_30 (by decide)) ⟨x_56, r_31, x_55, v_42, v_43, v_44, f_39, f_40, f_41, (iv_w bx_56 (by decide)), bv_42, bv_43, tf_39, kn_49, (tbk hAn_15 hR), rfl, hP, hD, hS, lv_sub hl [0, 4, 1, 5, 6, 7, 8, 9, 10] rfl⟩
        · replace hR := te hR c_36
          have b_57 : iv 3 2147483647 x_35 := iv_l2 (Int32.not_le.mp c_36) (iv_c (2 : Int32) (a := 2) (b := 2) (by decide)) (iv_top x_35) (by decide)
          refine lv_iload hx hb dX9_century_72 (lv_at hl 2 rfl) ?_
          refine jnI (wr := [(y 0, .inr (9, o9_rirrrrrrrrvviii (y 1) py0_1 (y 2) (y 10) (y 19) (y 25) (y 26) (y 30) (y 31) (y 32) o10 o11 u_9 u_10 u_11)), (y 2, .inr (1, o1_iiiiiirrrrrrriiiii py2_0 py2_1 py2_2 py2_3 py2_4 py2_5 (y 3) (y 4) (y 5) (y 6) (y 7) (y 8) (y 9) py2_13 py2_14 py2_15 py2_16 py2_17)), (y 3, aI V 4 fy3), (y 9, aI V 900 fy9), (y 19, .inr (4, o4_rrrrrr (y 2) (y 20) (y 21) (y 22) (y 23) (y 24))), (y 20, aI V 2000 f_12), (y 21, aI V 6 f_13), (y 22, aI V 64 f_14), (y 26, .inr (5, o5_rrri (y 27) (y 28) (y 29) py26_3)), (y 27, aI V 10 fy27), (y 28, aI V 10 fy28), (y 29, aI V 10 fy29)]) (rnS (rest := []) ⟨hx, hb, hml, hown, hg⟩ (k_X9_drawnFrom_0 l V r_31) mt_X9_drawnFrom q_4_10 ⟨Nat.le_of_ble_eq_true rfl, Nat.le_of_ble_eq_true rfl⟩ hK hP hD hS hA hE [] rfl rfl rfl hl.1 rfl (Nat.le_of_ble_eq_true rfl) dX9_century_74 ⟨Nat.le_of_ble_eq_true rfl, Nat.le_of_ble_eq_true rfl⟩) hP hD hS hA [] [0, 1, 2, 3, 4, 5, 6, 7, 8, 9, 10, 11] rfl rfl rfl (by decide) (fun r_58 w H locs hw hP hD hS => ?_)
          obtain ⟨et_59, rfl⟩ := hw
          replace hR := tb hR et_59
          have hP : va_P V.1 vwCl [(y 0, .inr (9, o9_rirrrrrrrrvviii (y 1) py0_1 (y 2) (y 10) (y 19) (y 25) (y 26) (y 30) (y 31) (y 32) o10 o11 u_9 u_10 u_11)), (y 2, .inr (1, o1_iiiiiirrrrrrriiiii py2_0 py2_1 py2_2 py2_3 py2_4 py2_5 (y 3) (y 4) (y 5) (y 6) (y 7) (y 8) (y 9) py2_13 py2_14 py2_15 py2_16 py2_17)), (y 3, aI V 4 fy3), (y 9, aI V 900 fy9), (y 19, .inr (4, o4_rrrrrr (y 2) (y 20) (y 21) (y 22) (y 23) (y 24))), (y 20, aI V 2000 f_12), (y 21, aI V 6 f_13), (y 22, aI V 64 f_14), (y 26, .inr (5, o5_rrri (y 27) (y 28) (y 29) py26_3)), (y 27, aI V 10 fy27), (y 28, aI V 10 fy28), (y 29, aI V 10 fy29)] H := hP
          have hD := cpD hP hD
          refine lv_istore (lv' := [(7, .int r_58), (10, .int 0), (9, .int x_35), (8, .int u_6), (6, .int u_8), (5, .int py0_14), (4, .int py0_13), (3, .int py0_12), (0, .ref (y 0)), (1, .int a1), (2, .int a2)]) hx hb dX9_century_77 hl (by decide) rfl (fun ls hl => ?_)
          refine lv_iload hx hb dX9_century_79 (lv_at hl 2 rfl) ?_
          refine lv_iload hx hb dX9_century_81 (lv_at hl 0 rfl) ?_
          refine lv_bipush (v := 16) hx hb dX9_century_83 (by decide) ?_
          refine lv_iushr hx hb dX9_century_85 rfl ?_
          refine lv_topi (fun x_61 ex_61 => ?_)
          replace hR := tb hR ex_61
          refine jnI (wr := [(y 0, .inr (9, o9_rirrrrrrrrvviii (y 1) py0_1 (y 2) (y 10) (y 19) (y 25) (y 26) (y 30) (y 31) (y 32) o10 o11 u_9 u_10 u_11)), (y 2, .inr (1, o1_iiiiiirrrrrrriiiii py2_0 py2_1 py2_2 py2_3 py2_4 py2_5 (y 3) (y 4) (y 5) (y 6) (y 7) (y 8) (y 9) py2_13 py2_14 py2_15 py2_16 py2_17)), (y 3, aI V 4 fy3), (y 9, aI V 900 fy9), (y 19, .inr (4, o4_rrrrrr (y 2) (y 20) (y 21) (y 22) (y 23) (y 24))), (y 20, aI V 2000 f_12), (y 21, aI V 6 f_13), (y 22, aI V 64 f_14), (y 26, .inr (5, o5_rrri (y 27) (y 28) (y 29) py26_3)), (y 27, aI V 10 fy27), (y 28, aI V 10 fy28), (y 29, aI V 10 fy29)]) (rnS (rest := []) ⟨hx, hb, hml, hown, hg⟩ (k_X9_drawnDeed_0 l V x_35 x_61) mt_X9_drawnDeed q_4_14 ⟨Nat.le_of_ble_eq_true rfl, Nat.le_of_ble_eq_true rfl⟩ hK hP hD hS hA hE [] rfl rfl rfl hl.1 rfl (Nat.le_of_ble_eq_true rfl) dX9_century_86 ⟨Nat.le_of_ble_eq_true rfl, Nat.le_of_ble_eq_true rfl⟩) hP hD hS hA [] [0, 1, 2, 3, 4, 5, 6, 7, 8, 9, 10, 11] rfl rfl rfl (by decide) (fun r_62 w H locs hw hP hD hS => ?_)
          obtain ⟨et_63, rfl⟩ := hw
          replace hR := tb hR et_63
          have hP : va_P V.1 vwCl [(y 0, .inr (9, o9_rirrrrrrrrvviii (y 1) py0_1 (y 2) (y 10) (y 19) (y 25) (y 26) (y 30) (y 31) (y 32) o10 o11 u_9 u_10 u_11)), (y 2, .inr (1, o1_iiiiiirrrrrrriiiii py2_0 py2_1 py2_2 py2_3 py2_4 py2_5 (y 3) (y 4) (y 5) (y 6) (y 7) (y 8) (y 9) py2_13 py2_14 py2_15 py2_16 py2_17)), (y 3, aI V 4 fy3), (y 9, aI V 900 fy9), (y 19, .inr (4, o4_rrrrrr (y 2) (y 20) (y 21) (y 22) (y 23) (y 24))), (y 20, aI V 2000 f_12), (y 21, aI V 6 f_13), (y 22, aI V 64 f_14), (y 26, .inr (5, o5_rrri (y 27) (y 28) (y 29) py26_3)), (y 27, aI V 10 fy27), (y 28, aI V 10 fy28), (y 29, aI V 10 fy29)] H := hP
          have hD := cpD hP hD
          refine lv_istore (lv' := [(10, .int r_62), (7, .int r_58), (9, .int x_35), (8, .int u_6), (6, .int u_8), (5, .int py0_14), (4, .int py0_13), (3, .int py0_12), (0, .ref (y 0)), (1, .int a1), (2, .int a2)]) hx hb dX9_century_89 hl (by decide) rfl (fun ls hl => ?_)
          refine lv_aload_n hx hb dX9_century_91 rfl (lv_at hl 8 rfl) ?_
          refine lv_iload hx hb dX9_century_92 (lv_at hl 0 rfl) ?_
          refine lv_i2l hx hb dX9_century_94 rfl ?_
          refine lv_topl (fun j_65 ej_65 => ?_)
          replace hR := tb hR ej_65
          refine jnI (wr := [(y 26, .inr (5, o5_rrri (y 27) (y 28) (y 29) py26_3)), (y 27, aI V 10 fy27), (y 28, aI V 10 fy28), (y 29, aI V 10 fy29)]) (rnV (rest := []) ⟨hx, hb, hml, hown, hg⟩ (k_X9_tryDeed_0 l V y D9 j_65 fy3 fy9 f_12 f_13 f_14 py0_1 o10 o11 u_9 u_10 u_11 py2_0 py2_1 py2_2 py2_3 py2_4 py2_5 py2_13 py2_14 py2_15 py2_16 py2_17 tf_12 bpy0_1 bu_9 bu_10 bpy2_1 bpy2_2 bpy2_3 bpy2_4 bpy2_5 bpy2_13 bpy2_14 bpy2_15 bpy2_16 bpy2_17 hL9 knn_15) mt_X9_tryDeed q_3_185 ⟨Nat.le_of_ble_eq_true rfl, Nat.le_of_ble_eq_true rfl⟩ hK hP hD hS hA hE [2, 3, 4, 5, 6, 7, 0, 1] rfl rfl 0 rfl rfl rfl rfl hl.1 rfl (Nat.le_of_ble_eq_true rfl) dX9_century_95 ⟨Nat.le_of_ble_eq_true rfl, Nat.le_of_ble_eq_true rfl⟩) hP hD hS hA [2, 3, 4, 5, 6, 7, 0, 1] [8, 9, 10, 11] rfl rfl rfl (by decide) (fun r_66 w H locs hw hP hD hS => ?_)
          obtain ⟨f_67, f_68, f_69, v_70, v_71, v_72, tf_67, bv_70, bv_71, br_66, et_73, et_74, et_75, et_76, kn_77, rfl⟩ := hw
          replace hR := tb0 hR
          replace hR := tb hR et_73
          replace hR := tb hR et_74
          replace hR := tb hR et_75
          replace hR := tb hR et_76
          have hP : va_P V.1 vwCl [(y 26, .inr (5, o5_rrri (y 27) (y 28) (y 29) py26_3)), (y 27, aI V 10 fy27), (y 28, aI V 10 fy28), (y 29, aI V 10 fy29), (y 3, aI V 4 fy3), (y 9, aI V 900 fy9), (y 19, .inr (4, o4_rrrrrr (y 2) (y 20) (y 21) (y 22) (y 23) (y 24))), (y 20, aI V 2000 f_67), (y 21, aI V 6 f_68), (y 22, aI V 64 f_69), (y 0, .inr (9, o9_rirrrrrrrrvviii (y 1) py0_1 (y 2) (y 10) (y 19) (y 25) (y 26) (y 30) (y 31) (y 32) o10 o11 v_70 v_71 v_72)), (y 2, .inr (1, o1_iiiiiirrrrrrriiiii py2_0 py2_1 py2_2 py2_3 py2_4 py2_5 (y 3) (y 4) (y 5) (y 6) (y 7) (y 8) (y 9) py2_13 py2_14 py2_15 py2_16 py2_17))] H := hP
          have hD := cpD hP hD
          refine lv_if_ne (tgt := 104) hx hb dX9_century_98 (by decide) (fun c_79 => ?_) (fun c_79 => ?_)
          · replace hR := te hR c_79
            have b_80 : iv 1 2 r_66 := iv_n0 c_79 br_66 (iv_c (0 : Int32) (a := 0) (b := 0) (by decide)) (by decide)
            obtain ⟨x_81, ex_81⟩ : ∃ z9 : Int32, z9 = u_6 + 1 := ⟨_, rfl⟩
            have bx_81 : iv 1 40 x_81 := by rw [ex_81]; exact iv_add b_30 (iv_c (1 : Int32) (a := 1) (b := 1) (by decide)) (by decide)
            replace hR := tb hR ex_81
            refine lv_iinc (v := x_81) (lv' := [(8, .int x_81), (10, .int r_62), (7, .int r_58), (9, .int x_35), (6, .int u_8), (5, .int py0_14), (4, .int py0_13), (3, .int py0_12), (0, .ref (y 0)), (1, .int a1), (2, .int a2)]) hx hb dX9_century_104 hl (k := 3) rfl (by rw [ex_81]; rfl) (by decide) rfl (fun ls hl => ?_)
            refine lv_goto (tgt := 40) hx hb dX9_century_107 (by decide) ?_
            have hP := subP (ws' := [(y 0, .inr (9, o9_rirrrrrrrrvviii (y 1) py0_1 (y 2) (y 10) (y 19) (y 25) (y 26) (y 30) (y 31) (y 32) o10 o11 v_70 v_71 v_72)), (y 2, .inr (1, o1_iiiiiirrrrrrriiiii py2_0 py2_1 py2_2 py2_3 py2_4 py2_5 (y 3) (y 4) (y 5) (y 6) (y 7) (y 8) (y 9) py2_13 py2_14 py2_15 py2_16 py2_17)), (y 3, aI V 4 fy3), (y 9, aI V 900 fy9), (y 19, .inr (4, o4_rrrrrr (y 2) (y 20) (y 21) (y 22) (y 23) (y 24))), (y 20, aI V 2000 f_67), (y 21, aI V 6 f_68), (y 22, aI V 64 f_69), (y 26, .inr (5, o5_rrri (y 27) (y 28) (y 29) py26_3)), (y 27, aI V 10 fy27), (y 28, aI V 10 fy28), (y 29, aI V 10 fy29)]) hP [10, 11, 4, 5, 6, 7, 8, 9, 0, 1, 2, 3] rfl
            have hD := subD hP hD [10, 11, 4, 5, 6, 7, 8, 9, 0, 1, 2, 3] rfl rfl
            exact ihn_15 _ _ _ _ (by rw [en_15, ex_81]; exact mu_up b_30 (by decide)) ⟨x_81, r_58, u_8, v_70, v_71, v_72, f_67, f_68, f_69, (iv_w bx_81 (by decide)), bv_70, bv_71, tf_67, kn_77, (tbk hAn_15 hR), rfl, hP, hD, hS, lv_sub hl [0, 2, 4, 5, 6, 7, 8, 9, 10] rfl⟩
          · replace hR := ti hR c_79
            have b_82 : iv 0 0 r_66 := iv_q c_79 (iv_c (0 : Int32) (a := 0) (b := 0) (by decide))
            obtain ⟨x_83, ex_83⟩ : ∃ z9 : Int32, z9 = u_8 + 1 := ⟨_, rfl⟩
            replace hR := tb hR ex_83
            refine lv_iinc (v := x_83) (lv' := [(6, .int x_83), (10, .int r_62), (7, .int r_58), (9, .int x_35), (8, .int u_6), (5, .int py0_14), (4, .int py0_13), (3, .int py0_12), (0, .ref (y 0)), (1, .int a1), (2, .int a2)]) hx hb dX9_century_101 hl (k := 4) rfl (by rw [ex_83]; rfl) (by decide) rfl (fun ls hl => ?_)
            obtain ⟨x_84, ex_84⟩ : ∃ z9 : Int32, z9 = u_6 + 1 := ⟨_, rfl⟩
            have bx_84 : iv 1 40 x_84 := by rw [ex_84]; exact iv_add b_30 (iv_c (1 : Int32) (a := 1) (b := 1) (by decide)) (by decide)
            replace hR := tb hR ex_84
            refine lv_iinc (v := x_84) (lv' := [(8, .int x_84), (6, .int x_83), (10, .int r_62), (7, .int r_58), (9, .int x_35), (5, .int py0_14), (4, .int py0_13), (3, .int py0_12), (0, .ref (y 0)), (1, .int a1), (2, .int a2)]) hx hb dX9_century_104 hl (k := 4) rfl (by rw [ex_84]; rfl) (by decide) rfl (fun ls hl => ?_)
            refine lv_goto (tgt := 40) hx hb dX9_century_107 (by decide) ?_
            have hP := subP (ws' := [(y 0, .inr (9, o9_rirrrrrrrrvviii (y 1) py0_1 (y 2) (y 10) (y 19) (y 25) (y 26) (y 30) (y 31) (y 32) o10 o11 v_70 v_71 v_72)), (y 2, .inr (1, o1_iiiiiirrrrrrriiiii py2_0 py2_1 py2_2 py2_3 py2_4 py2_5 (y 3) (y 4) (y 5) (y 6) (y 7) (y 8) (y 9) py2_13 py2_14 py2_15 py2_16 py2_17)), (y 3, aI V 4 fy3), (y 9, aI V 900 fy9), (y 19, .inr (4, o4_rrrrrr (y 2) (y 20) (y 21) (y 22) (y 23) (y 24))), (y 20, aI V 2000 f_67), (y 21, aI V 6 f_68), (y 22, aI V 64 f_69), (y 26, .inr (5, o5_rrri (y 27) (y 28) (y 29) py26_3)), (y 27, aI V 10 fy27), (y 28, aI V 10 fy28), (y 29, aI V 10 fy29)]) hP [10, 11, 4, 5, 6, 7, 8, 9, 0, 1, 2, 3] rfl
            have hD := subD hP hD [10, 11, 4, 5, 6, 7, 8, 9, 0, 1, 2, 3] rfl rfl
            exact ihn_15 _ _ _ _ (by rw [en_15, ex_84]; exact mu_up b_30 (by decide)) ⟨x_84, r_58, x_83, v_70, v_71, v_72, f_67, f_68, f_69, (iv_w bx_84 (by decide)), bv_70, bv_71, tf_67, kn_77, (tbk hAn_15 hR), rfl, hP, hD, hS, lv_sub hl [0, 3, 1, 5, 6, 7, 8, 9, 10] rfl⟩
    · replace hR := te hR c_4
      have b_85 : iv 41 2147483647 a2 := iv_l2 (Int32.not_le.mp c_4) (iv_c (40 : Int32) (a := 40) (b := 40) (by decide)) b_3 (by decide)
      refine lv_bipush (v := (-3)) hx hb dX9_century_11 (by decide) ?_
      exact fiI hx hb hr hlk hK hP hD hS dX9_century_13 (Nat.le_of_ble_eq_true rfl) (Nat.le_of_ble_eq_true rfl) (⟨py0_12, py0_13, py0_14, fy20, fy21, fy22, py26_3, fy27, fy28, fy29, bpy0_12, bpy0_13, tfy20, bpy26_3, tfy27, tfy28, (congrArg Prod.fst (hR.symm.trans hT0)), (congrArg Prod.fst (congrArg Prod.snd (hR.symm.trans hT0))), (congrArg Prod.fst (congrArg Prod.snd (congrArg Prod.snd (hR.symm.trans hT0)))), (congrArg Prod.fst (congrArg Prod.snd (congrArg Prod.snd (congrArg Prod.snd (hR.symm.trans hT0))))), (congrArg Prod.fst (congrArg Prod.snd (congrArg Prod.snd (congrArg Prod.snd (congrArg Prod.snd (hR.symm.trans hT0)))))), (congrArg Prod.fst (congrArg Prod.snd (congrArg Prod.snd (congrArg Prod.snd (congrArg Prod.snd (congrArg Prod.snd (hR.symm.trans hT0))))))), (congrArg Prod.fst (congrArg Prod.snd (congrArg Prod.snd (congrArg Prod.snd (congrArg Prod.snd (congrArg Prod.snd (congrArg Prod.snd (hR.symm.trans hT0)))))))), (congrArg Prod.snd (congrArg Prod.snd (congrArg Prod.snd (congrArg Prod.snd (congrArg Prod.snd (congrArg Prod.snd (congrArg Prod.snd (hR.symm.trans hT0)))))))), hK9, rfl⟩)
theorem dX0_follow_0 : decode cX0_follow 0 = .ok (.iload_n 2, 1) := by decide +kernel
theorem dX0_follow_1 : decode cX0_follow 1 = .ok (.istore 4, 2) := by decide +kernel
theorem dX0_follow_3 : decode cX0_follow 3 = .ok (.aload_n 1, 1) := by decide +kernel
theorem dX0_follow_4 : decode cX0_follow 4 = .ok (.iload_n 2, 1) := by decide +kernel
theorem dX0_follow_5 : decode cX0_follow 5 = .ok (.iload_n 3, 1) := by decide +kernel
theorem dX0_follow_6 : decode cX0_follow 6 = .ok (.iconst 0, 1) := by decide +kernel
theorem q_4_26 : Cond.methodLink "BeaconDelay$Calm" 9 yX4_behind ∈ gw := gw_4 (i := 26) (by decide +kernel) rfl
theorem dX0_follow_7 : decode cX0_follow 7 = .ok (.invokevirtual 9, 3) := by decide +kernel
theorem dX0_follow_10 : decode cX0_follow 10 = .ok (.istore 5, 2) := by decide +kernel
theorem dX0_follow_12 : decode cX0_follow 12 = .ok (.iconst 1, 1) := by decide +kernel
theorem dX0_follow_13 : decode cX0_follow 13 = .ok (.istore 6, 2) := by decide +kernel
theorem dX0_follow_15 : decode cX0_follow 15 = .ok (.aload_n 0, 1) := by decide +kernel
theorem dX0_follow_16 : decode cX0_follow 16 = .ok (.iconst 1, 1) := by decide +kernel
theorem q_1_198 : Cond.fieldLink "BeaconDelay$Calm" 15 "BeaconDelay$Calm" "period" "I" ∈ gw := gw_1 (i := 198) (by decide +kernel) rfl
theorem dX0_follow_17 : decode cX0_follow 17 = .ok (.putfield 15, 3) := by decide +kernel
theorem dX0_follow_20 : decode cX0_follow 20 = .ok (.iconst 0, 1) := by decide +kernel
theorem dX0_follow_21 : decode cX0_follow 21 = .ok (.istore 7, 2) := by decide +kernel
theorem dX0_follow_23 : decode cX0_follow 23 = .ok (.iload 7, 2) := by decide +kernel
theorem q_4_27 : Cond.constant "BeaconDelay$Calm" 21 (1000000 : Int32) ∈ gw := gw_4 (i := 27) (by decide +kernel) rfl
theorem dX0_follow_25 : decode cX0_follow 25 = .ok (.ldc 21, 2) := by decide +kernel
theorem dX0_follow_27 : decode cX0_follow 27 = .ok (.if_icmp .ge 60, 3) := by decide +kernel
theorem dX0_follow_87 : decode cX0_follow 87 = .ok (.iload_n 2, 1) := by decide +kernel
theorem dX0_follow_88 : decode cX0_follow 88 = .ok (.istore 7, 2) := by decide +kernel
theorem dX0_follow_90 : decode cX0_follow 90 = .ok (.iconst 0, 1) := by decide +kernel
theorem dX0_follow_91 : decode cX0_follow 91 = .ok (.istore 8, 2) := by decide +kernel
theorem dX0_follow_93 : decode cX0_follow 93 = .ok (.iload 8, 2) := by decide +kernel
theorem dX0_follow_95 : decode cX0_follow 95 = .ok (.aload_n 0, 1) := by decide +kernel
theorem dX0_follow_96 : decode cX0_follow 96 = .ok (.getfield 15, 3) := by decide +kernel
theorem dX0_follow_99 : decode cX0_follow 99 = .ok (.if_icmp .ge 19, 3) := by decide +kernel
theorem dX0_follow_118 : decode cX0_follow 118 = .ok (.iload_n 2, 1) := by decide +kernel
theorem dX0_follow_119 : decode cX0_follow 119 = .ok (.istore 8, 2) := by decide +kernel
theorem dX0_follow_121 : decode cX0_follow 121 = .ok (.aload_n 0, 1) := by decide +kernel
theorem dX0_follow_122 : decode cX0_follow 122 = .ok (.iconst 0, 1) := by decide +kernel
theorem q_1_196 : Cond.fieldLink "BeaconDelay$Calm" 22 "BeaconDelay$Calm" "tail" "I" ∈ gw := gw_1 (i := 196) (by decide +kernel) rfl
theorem dX0_follow_123 : decode cX0_follow 123 = .ok (.putfield 22, 3) := by decide +kernel
theorem dX0_follow_126 : decode cX0_follow 126 = .ok (.iconst 0, 1) := by decide +kernel
theorem dX0_follow_127 : decode cX0_follow 127 = .ok (.istore 9, 2) := by decide +kernel
theorem dX0_follow_129 : decode cX0_follow 129 = .ok (.iload 9, 2) := by decide +kernel
theorem dX0_follow_131 : decode cX0_follow 131 = .ok (.ldc 21, 2) := by decide +kernel
theorem dX0_follow_133 : decode cX0_follow 133 = .ok (.if_icmp .ge 46, 3) := by decide +kernel
theorem dX0_follow_179 : decode cX0_follow 179 = .ok (.return_, 1) := by decide +kernel
theorem dX0_follow_136 : decode cX0_follow 136 = .ok (.iload 8, 2) := by decide +kernel
theorem dX0_follow_138 : decode cX0_follow 138 = .ok (.iload 7, 2) := by decide +kernel
theorem dX0_follow_140 : decode cX0_follow 140 = .ok (.if_icmp .eq 39, 3) := by decide +kernel
theorem dX0_follow_143 : decode cX0_follow 143 = .ok (.aload_n 1, 1) := by decide +kernel
theorem dX0_follow_144 : decode cX0_follow 144 = .ok (.iload 8, 2) := by decide +kernel
theorem dX0_follow_146 : decode cX0_follow 146 = .ok (.iload_n 3, 1) := by decide +kernel
theorem dX0_follow_147 : decode cX0_follow 147 = .ok (.iconst 0, 1) := by decide +kernel
theorem dX0_follow_148 : decode cX0_follow 148 = .ok (.invokevirtual 9, 3) := by decide +kernel
theorem dX0_follow_151 : decode cX0_follow 151 = .ok (.istore 8, 2) := by decide +kernel
theorem dX0_follow_153 : decode cX0_follow 153 = .ok (.aload_n 1, 1) := by decide +kernel
theorem dX0_follow_154 : decode cX0_follow 154 = .ok (.iload 7, 2) := by decide +kernel
theorem dX0_follow_156 : decode cX0_follow 156 = .ok (.iload_n 3, 1) := by decide +kernel
theorem dX0_follow_157 : decode cX0_follow 157 = .ok (.iconst 0, 1) := by decide +kernel
theorem dX0_follow_158 : decode cX0_follow 158 = .ok (.invokevirtual 9, 3) := by decide +kernel
theorem dX0_follow_161 : decode cX0_follow 161 = .ok (.istore 7, 2) := by decide +kernel
theorem dX0_follow_163 : decode cX0_follow 163 = .ok (.aload_n 0, 1) := by decide +kernel
theorem dX0_follow_164 : decode cX0_follow 164 = .ok (.dup, 1) := by decide +kernel
theorem dX0_follow_165 : decode cX0_follow 165 = .ok (.getfield 22, 3) := by decide +kernel
theorem dX0_follow_168 : decode cX0_follow 168 = .ok (.iconst 1, 1) := by decide +kernel
theorem dX0_follow_169 : decode cX0_follow 169 = .ok (.iadd, 1) := by decide +kernel
theorem dX0_follow_170 : decode cX0_follow 170 = .ok (.putfield 22, 3) := by decide +kernel
theorem dX0_follow_173 : decode cX0_follow 173 = .ok (.iinc 9 1, 3) := by decide +kernel
theorem dX0_follow_176 : decode cX0_follow 176 = .ok (.goto (-47), 3) := by decide +kernel
theorem dX0_follow_102 : decode cX0_follow 102 = .ok (.aload_n 1, 1) := by decide +kernel
theorem dX0_follow_103 : decode cX0_follow 103 = .ok (.iload 7, 2) := by decide +kernel
theorem dX0_follow_105 : decode cX0_follow 105 = .ok (.iload_n 3, 1) := by decide +kernel
theorem dX0_follow_106 : decode cX0_follow 106 = .ok (.iconst 0, 1) := by decide +kernel
theorem dX0_follow_107 : decode cX0_follow 107 = .ok (.invokevirtual 9, 3) := by decide +kernel
theorem dX0_follow_110 : decode cX0_follow 110 = .ok (.istore 7, 2) := by decide +kernel
theorem dX0_follow_112 : decode cX0_follow 112 = .ok (.iinc 8 1, 3) := by decide +kernel
theorem dX0_follow_115 : decode cX0_follow 115 = .ok (.goto (-22), 3) := by decide +kernel
theorem dX0_follow_30 : decode cX0_follow 30 = .ok (.iload 4, 2) := by decide +kernel
theorem dX0_follow_32 : decode cX0_follow 32 = .ok (.iload 5, 2) := by decide +kernel
theorem dX0_follow_34 : decode cX0_follow 34 = .ok (.if_icmp .eq 53, 3) := by decide +kernel
theorem dX0_follow_37 : decode cX0_follow 37 = .ok (.aload_n 0, 1) := by decide +kernel
theorem dX0_follow_38 : decode cX0_follow 38 = .ok (.getfield 15, 3) := by decide +kernel
theorem dX0_follow_41 : decode cX0_follow 41 = .ok (.iload 6, 2) := by decide +kernel
theorem dX0_follow_43 : decode cX0_follow 43 = .ok (.if_icmp .ne 18, 3) := by decide +kernel
theorem dX0_follow_61 : decode cX0_follow 61 = .ok (.aload_n 1, 1) := by decide +kernel
theorem dX0_follow_62 : decode cX0_follow 62 = .ok (.iload 5, 2) := by decide +kernel
theorem dX0_follow_64 : decode cX0_follow 64 = .ok (.iload_n 3, 1) := by decide +kernel
theorem dX0_follow_65 : decode cX0_follow 65 = .ok (.iconst 0, 1) := by decide +kernel
theorem dX0_follow_66 : decode cX0_follow 66 = .ok (.invokevirtual 9, 3) := by decide +kernel
theorem dX0_follow_69 : decode cX0_follow 69 = .ok (.istore 5, 2) := by decide +kernel
theorem dX0_follow_71 : decode cX0_follow 71 = .ok (.aload_n 0, 1) := by decide +kernel
theorem dX0_follow_72 : decode cX0_follow 72 = .ok (.dup, 1) := by decide +kernel
theorem dX0_follow_73 : decode cX0_follow 73 = .ok (.getfield 15, 3) := by decide +kernel
theorem dX0_follow_76 : decode cX0_follow 76 = .ok (.iconst 1, 1) := by decide +kernel
theorem dX0_follow_77 : decode cX0_follow 77 = .ok (.iadd, 1) := by decide +kernel
theorem dX0_follow_78 : decode cX0_follow 78 = .ok (.putfield 15, 3) := by decide +kernel
theorem dX0_follow_81 : decode cX0_follow 81 = .ok (.iinc 7 1, 3) := by decide +kernel
theorem dX0_follow_84 : decode cX0_follow 84 = .ok (.goto (-61), 3) := by decide +kernel
theorem dX0_follow_46 : decode cX0_follow 46 = .ok (.iload 5, 2) := by decide +kernel
theorem dX0_follow_48 : decode cX0_follow 48 = .ok (.istore 4, 2) := by decide +kernel
theorem dX0_follow_50 : decode cX0_follow 50 = .ok (.iload 6, 2) := by decide +kernel
theorem dX0_follow_52 : decode cX0_follow 52 = .ok (.iconst 2, 1) := by decide +kernel
theorem dX0_follow_53 : decode cX0_follow 53 = .ok (.imul, 1) := by decide +kernel
theorem dX0_follow_54 : decode cX0_follow 54 = .ok (.istore 6, 2) := by decide +kernel
theorem dX0_follow_56 : decode cX0_follow 56 = .ok (.aload_n 0, 1) := by decide +kernel
theorem dX0_follow_57 : decode cX0_follow 57 = .ok (.iconst 0, 1) := by decide +kernel
theorem dX0_follow_58 : decode cX0_follow 58 = .ok (.putfield 15, 3) := by decide +kernel
set_option maxHeartbeats 4000000 in
set_option maxRecDepth 100000 in
theorem k_X0_follow_0 (l : Launch) (V : GV) (y : Nat → Nat) (D9 : Nat → Int32) (a2 : Int32) (a3 : Int32) (fy3 : Nat → Int32) (fy9 : Nat → Int32) (fy20 : Nat → Int32) (fy21 : Nat → Int32) (fy22 : Nat → Int32) (py25_0 : Int32) (py25_1 : Int32) (py2_0 : Int32) (py2_1 : Int32) (py2_2 : Int32) (py2_3 : Int32) (py2_4 : Int32) (py2_5 : Int32) (py2_13 : Int32) (py2_14 : Int32) (py2_15 : Int32) (py2_16 : Int32) (py2_17 : Int32) (ba2 : iv 0 9999 a2) (ba3 : iv 0 9 a3) (tfy20 : ∀ j, iv 0 10 (fy20 j)) (bpy2_1 : iv 0 4 py2_1) (bpy2_2 : iv 0 4 py2_2) (bpy2_3 : iv 0 8 py2_3) (bpy2_4 : iv 0 9999 py2_4) (bpy2_5 : iv 0 9 py2_5) (bpy2_13 : iv 0 900 py2_13) (bpy2_14 : iv 0 900 py2_14) (bpy2_15 : iv 0 900 py2_15) (bpy2_16 : iv 0 900 py2_16) (bpy2_17 : iv 0 900 py2_17) (hL9 : LW D9 fy3 fy9 py2_14 py2_15 py2_16 py2_17) (hK9 : KN D9 fy20) : Ct l V yX0_follow (.code yX0_follow cX0_follow 10 none) 6 [.ref (y 25), .ref (y 19), .int a2, .int a3] [(y 3, aI V 4 fy3), (y 9, aI V 900 fy9), (y 19, .inr (4, o4_rrrrrr (y 2) (y 20) (y 21) (y 22) (y 23) (y 24))), (y 20, aI V 2000 fy20), (y 21, aI V 6 fy21), (y 22, aI V 64 fy22), (y 25, .inr (0, [.int py25_0, .int py25_1])), (y 2, .inr (1, o1_iiiiiirrrrrrriiiii py2_0 py2_1 py2_2 py2_3 py2_4 py2_5 (y 3) (y 4) (y 5) (y 6) (y 7) (y 8) (y 9) py2_13 py2_14 py2_15 py2_16 py2_17))] 0 0 (QV V (fun (w : va_W) => ∃ (g0 : Nat → Int32) (g1 : Nat → Int32) (g2 : Nat → Int32) (v3 : Int32) (v4 : Int32), (∀ j, iv 0 10 (g0 j)) ∧ KN D9 g0 ∧ w = [(y 3, aI V 4 fy3), (y 9, aI V 900 fy9), (y 19, .inr (4, o4_rrrrrr (y 2) (y 20) (y 21) (y 22) (y 23) (y 24))), (y 20, aI V 2000 g0), (y 21, aI V 6 g1), (y 22, aI V 64 g2), (y 25, .inr (0, [.int v3, .int v4])), (y 2, .inr (1, o1_iiiiiirrrrrrriiiii py2_0 py2_1 py2_2 py2_3 py2_4 py2_5 (y 3) (y 4) (y 5) (y 6) (y 7) (y 8) (y 9) py2_13 py2_14 py2_15 py2_16 py2_17))])) := by
  refine Ct.of (by decide) (Nat.le_of_ble_eq_true rfl) (fun p e s m below meth c A ls hx hb hr hml hown hlk hnm hg hP hK hD hE hA hS hl => ?_)
  have hl : lv_has ls 10 [(0, .ref (y 25)), (1, .ref (y 19)), (2, .int a2), (3, .int a3)] := hl
  refine lv_iload_n hx hb dX0_follow_0 rfl (lv_at hl 2 rfl) ?_
  refine lv_istore (lv' := [(4, .int a2), (0, .ref (y 25)), (1, .ref (y 19)), (2, .int a2), (3, .int a3)]) hx hb dX0_follow_1 hl (by decide) rfl (fun ls hl => ?_)
  refine lv_aload_n hx hb dX0_follow_3 rfl (lv_at hl 2 rfl) ?_
  refine lv_iload_n hx hb dX0_follow_4 rfl (lv_at hl 3 rfl) ?_
  refine lv_iload_n hx hb dX0_follow_5 rfl (lv_at hl 4 rfl) ?_
  refine lv_iconst (v := 0) hx hb dX0_follow_6 (by decide) ?_
  refine jnI (wr := [(y 25, .inr (0, [.int py25_0, .int py25_1]))]) (rnV (rest := []) ⟨hx, hb, hml, hown, hg⟩ (k_X4_behind_0 l V y a2 a3 0 fy3 fy9 fy20 fy21 fy22 py2_0 py2_1 py2_2 py2_3 py2_4 py2_5 py2_13 py2_14 py2_15 py2_16 py2_17 ba2 ba3 tfy20 bpy2_1 bpy2_2 bpy2_3 bpy2_4 bpy2_5 bpy2_13 bpy2_14 bpy2_15 bpy2_16 bpy2_17) mt_X4_behind q_4_26 ⟨Nat.le_of_ble_eq_true rfl, Nat.le_of_ble_eq_true rfl⟩ hK hP hD hS hA hE [0, 1, 2, 3, 4, 5, 7] rfl rfl 2 rfl rfl rfl rfl hl.1 rfl (Nat.le_of_ble_eq_true rfl) dX0_follow_7 ⟨Nat.le_of_ble_eq_true rfl, Nat.le_of_ble_eq_true rfl⟩) hP hD hS hA [0, 1, 2, 3, 4, 5, 7] [6] rfl rfl rfl (by decide) (fun r_1 w H locs hw hP hD hS => ?_)
  obtain ⟨f_2, f_3, f_4, tf_2, br_1, g_5, rfl⟩ := hw
  have qkn_6 := g_5 D9 hL9 hK9
  have er_1 : r_1 = bhS D9 a2 a3 (0 : Int32) (py2_1 : Int32).toNatClampNeg := qkn_6.1
  have kn_6 := qkn_6.2
  have hP : va_P V.1 vwCl [(y 25, .inr (0, [.int py25_0, .int py25_1])), (y 3, aI V 4 fy3), (y 9, aI V 900 fy9), (y 19, .inr (4, o4_rrrrrr (y 2) (y 20) (y 21) (y 22) (y 23) (y 24))), (y 20, aI V 2000 f_2), (y 21, aI V 6 f_3), (y 22, aI V 64 f_4), (y 2, .inr (1, o1_iiiiiirrrrrrriiiii py2_0 py2_1 py2_2 py2_3 py2_4 py2_5 (y 3) (y 4) (y 5) (y 6) (y 7) (y 8) (y 9) py2_13 py2_14 py2_15 py2_16 py2_17))] H := hP
  have hD := cpD hP hD
  refine lv_istore (lv' := [(5, .int r_1), (4, .int a2), (0, .ref (y 25)), (1, .ref (y 19)), (2, .int a2), (3, .int a3)]) hx hb dX0_follow_10 hl (by decide) rfl (fun ls hl => ?_)
  refine lv_iconst (v := 1) hx hb dX0_follow_12 (by decide) ?_
  refine lv_istore (lv' := [(6, .int 1), (5, .int r_1), (4, .int a2), (0, .ref (y 25)), (1, .ref (y 19)), (2, .int a2), (3, .int a3)]) hx hb dX0_follow_13 hl (by decide) rfl (fun ls hl => ?_)
  refine lv_aload_n hx hb dX0_follow_15 rfl (lv_at hl 3 rfl) ?_
  refine lv_iconst (v := 1) hx hb dX0_follow_16 (by decide) ?_
  refine va_put (ci := 0) (v := .int 1) (ty := .int) (C := RX0) (T := TX0) (N := 2) hx hb hg inX0 tyX0 tyX0_ok nmX0 hown hK hP hD hS 0 rfl rfl 1 (by decide) (hg _ q_1_198) (fun _ h9 => h9) rfl (by decide +kernel) rfl rfl (Nat.le_of_ble_eq_true rfl) dX0_follow_17 (fun H locs hP hD hS => ?_)
  have hP : va_P V.1 vwCl [(y 25, .inr (0, [.int py25_0, .int 1])), (y 3, aI V 4 fy3), (y 9, aI V 900 fy9), (y 19, .inr (4, o4_rrrrrr (y 2) (y 20) (y 21) (y 22) (y 23) (y 24))), (y 20, aI V 2000 f_2), (y 21, aI V 6 f_3), (y 22, aI V 64 f_4), (y 2, .inr (1, o1_iiiiiirrrrrrriiiii py2_0 py2_1 py2_2 py2_3 py2_4 py2_5 (y 3) (y 4) (y 5) (y 6) (y 7) (y 8) (y 9) py2_13 py2_14 py2_15 py2_16 py2_17))] H := hP
  have hD := cpD hP hD
  refine lv_iconst (v := 0) hx hb dX0_follow_20 (by decide) ?_
  refine lv_istore (lv' := [(7, .int 0), (6, .int 1), (5, .int r_1), (4, .int a2), (0, .ref (y 25)), (1, .ref (y 19)), (2, .int a2), (3, .int a3)]) hx hb dX0_follow_21 hl (by decide) rfl (fun ls hl => ?_)
  refine loopF (X := fun (n_15 : Nat) (H : Heap) (locs : List Loc) (ls : Array Slot) => ∃ (u_7 : Int32) (u_8 : Int32) (u_9 : Int32) (u_10 : Int32) (u_11 : Int32) (f_12 : Nat → Int32) (f_13 : Nat → Int32) (f_14 : Nat → Int32), (iv 0 2147483647 u_7) ∧ (iv 0 9999 u_9) ∧ (iv 0 9999 u_10) ∧ (∀ j, iv 0 10 (f_12 j)) ∧ KN D9 f_12 ∧ n_15 = (2147483647 - (u_7 : Int32).toInt).toNat ∧ va_P V.1 vwCl [(y 25, .inr (0, [.int py25_0, .int u_11])), (y 3, aI V 4 fy3), (y 9, aI V 900 fy9), (y 19, .inr (4, o4_rrrrrr (y 2) (y 20) (y 21) (y 22) (y 23) (y 24))), (y 20, aI V 2000 f_12), (y 21, aI V 6 f_13), (y 22, aI V 64 f_14), (y 2, .inr (1, o1_iiiiiirrrrrrriiiii py2_0 py2_1 py2_2 py2_3 py2_4 py2_5 (y 3) (y 4) (y 5) (y 6) (y 7) (y 8) (y 9) py2_13 py2_14 py2_15 py2_16 py2_17))] H ∧ va_D A [(y 25, .inr (0, [.int py25_0, .int u_11])), (y 3, aI V 4 fy3), (y 9, aI V 900 fy9), (y 19, .inr (4, o4_rrrrrr (y 2) (y 20) (y 21) (y 22) (y 23) (y 24))), (y 20, aI V 2000 f_12), (y 21, aI V 6 f_13), (y 22, aI V 64 f_14), (y 2, .inr (1, o1_iiiiiirrrrrrriiiii py2_0 py2_1 py2_2 py2_3 py2_4 py2_5 (y 3) (y 4) (y 5) (y 6) (y 7) (y 8) (y 9) py2_13 py2_14 py2_15 py2_16 py2_17))] ∧ va_S A s.heap H locs ∧ lv_has ls 10 [(7, .int u_7), (6, .int u_8), (5, .int u_9), (4, .int u_10), (0, .ref (y 25)), (1, .ref (y 19)), (2, .int a2), (3, .int a3)]) (g := fun ls => F0 m 23 ls []) (fun n_15 H locs ls hX ihn_15 => ?_) _ ⟨0, 1, r_1, a2, 1, f_2, f_3, f_4, (iv_c (0 : Int32) (by decide)), br_1, ba2, tf_2, kn_6, rfl, hP, hD, hS, lv_sub hl [0, 1, 2, 3, 4, 5, 6, 7] rfl⟩
  obtain ⟨u_7, u_8, u_9, u_10, u_11, f_12, f_13, f_14, bu_7, bu_9, bu_10, tf_12, knn_15, en_15, hP, hD, hS, hl⟩ := hX
  refine lv_iload hx hb dX0_follow_23 (lv_at hl 0 rfl) ?_
  refine lv_ldc (v := 1000000) hx hb hown (hg _ q_4_27) dX0_follow_25 ?_
  refine lv_icmp_ge (tgt := 87) hx hb dX0_follow_27 (by decide) (fun c_16 => ?_) (fun c_16 => ?_)
  · have b_17 : iv 1000000 2147483647 u_7 := iv_e2 c_16 (iv_c (1000000 : Int32) (a := 1000000) (b := 1000000) (by decide)) bu_7 (by decide)
    refine lv_iload_n hx hb dX0_follow_87 rfl (lv_at hl 6 rfl) ?_
    refine lv_istore (lv' := [(7, .int a2), (6, .int u_8), (5, .int u_9), (4, .int u_10), (0, .ref (y 25)), (1, .ref (y 19)), (2, .int a2), (3, .int a3)]) hx hb dX0_follow_88 hl (by decide) rfl (fun ls hl => ?_)
    refine lv_iconst (v := 0) hx hb dX0_follow_90 (by decide) ?_
    refine lv_istore (lv' := [(8, .int 0), (7, .int a2), (6, .int u_8), (5, .int u_9), (4, .int u_10), (0, .ref (y 25)), (1, .ref (y 19)), (2, .int a2), (3, .int a3)]) hx hb dX0_follow_91 hl (by decide) rfl (fun ls hl => ?_)
    refine loopF (X := fun (n_23 : Nat) (H : Heap) (locs : List Loc) (ls : Array Slot) => ∃ (u_18 : Int32) (u_19 : Int32) (f_20 : Nat → Int32) (f_21 : Nat → Int32) (f_22 : Nat → Int32), (iv 0 2147483647 u_18) ∧ (iv 0 9999 u_19) ∧ (∀ j, iv 0 10 (f_20 j)) ∧ KN D9 f_20 ∧ n_23 = (2147483647 - (u_18 : Int32).toInt).toNat ∧ va_P V.1 vwCl [(y 25, .inr (0, [.int py25_0, .int u_11])), (y 3, aI V 4 fy3), (y 9, aI V 900 fy9), (y 19, .inr (4, o4_rrrrrr (y 2) (y 20) (y 21) (y 22) (y 23) (y 24))), (y 20, aI V 2000 f_20), (y 21, aI V 6 f_21), (y 22, aI V 64 f_22), (y 2, .inr (1, o1_iiiiiirrrrrrriiiii py2_0 py2_1 py2_2 py2_3 py2_4 py2_5 (y 3) (y 4) (y 5) (y 6) (y 7) (y 8) (y 9) py2_13 py2_14 py2_15 py2_16 py2_17))] H ∧ va_D A [(y 25, .inr (0, [.int py25_0, .int u_11])), (y 3, aI V 4 fy3), (y 9, aI V 900 fy9), (y 19, .inr (4, o4_rrrrrr (y 2) (y 20) (y 21) (y 22) (y 23) (y 24))), (y 20, aI V 2000 f_20), (y 21, aI V 6 f_21), (y 22, aI V 64 f_22), (y 2, .inr (1, o1_iiiiiirrrrrrriiiii py2_0 py2_1 py2_2 py2_3 py2_4 py2_5 (y 3) (y 4) (y 5) (y 6) (y 7) (y 8) (y 9) py2_13 py2_14 py2_15 py2_16 py2_17))] ∧ va_S A s.heap H locs ∧ lv_has ls 10 [(8, .int u_18), (7, .int u_19), (6, .int u_8), (5, .int u_9), (4, .int u_10), (0, .ref (y 25)), (1, .ref (y 19)), (2, .int a2), (3, .int a3)]) (g := fun ls => F0 m 93 ls []) (fun n_23 H locs ls hX ihn_23 => ?_) _ ⟨0, a2, f_12, f_13, f_14, (iv_c (0 : Int32) (by decide)), ba2, tf_12, knn_15, rfl, hP, hD, hS, lv_sub hl [0, 1, 2, 3, 4, 5, 6, 7, 8] rfl⟩
    obtain ⟨u_18, u_19, f_20, f_21, f_22, bu_18, bu_19, tf_20, knn_23, en_23, hP, hD, hS, hl⟩ := hX
    refine lv_iload hx hb dX0_follow_93 (lv_at hl 0 rfl) ?_
    refine lv_aload_n hx hb dX0_follow_95 rfl (lv_at hl 5 rfl) ?_
    refine va_get (ci := 0) (v := .int u_11) (C := RX0) (T := TX0) (N := 2) hx hb hg inX0 hown hK hP 0 rfl rfl 1 (by decide) (hg _ q_1_198) (fun _ h9 => h9) rfl dX0_follow_96 ?_
    refine lv_icmp_ge (tgt := 118) hx hb dX0_follow_99 (by decide) (fun c_24 => ?_) (fun c_24 => ?_)
    · refine lv_iload_n hx hb dX0_follow_118 rfl (lv_at hl 7 rfl) ?_
      refine lv_istore (lv' := [(8, .int a2), (7, .int u_19), (6, .int u_8), (5, .int u_9), (4, .int u_10), (0, .ref (y 25)), (1, .ref (y 19)), (2, .int a2), (3, .int a3)]) hx hb dX0_follow_119 hl (by decide) rfl (fun ls hl => ?_)
      refine lv_aload_n hx hb dX0_follow_121 rfl (lv_at hl 5 rfl) ?_
      refine lv_iconst (v := 0) hx hb dX0_follow_122 (by decide) ?_
      refine va_put (ci := 0) (v := .int 0) (ty := .int) (C := RX0) (T := TX0) (N := 2) hx hb hg inX0 tyX0 tyX0_ok nmX0 hown hK hP hD hS 0 rfl rfl 0 (by decide) (hg _ q_1_196) (fun _ h9 => h9) rfl (by decide +kernel) rfl rfl (Nat.le_of_ble_eq_true rfl) dX0_follow_123 (fun H locs hP hD hS => ?_)
      have hP : va_P V.1 vwCl [(y 25, .inr (0, [.int 0, .int u_11])), (y 3, aI V 4 fy3), (y 9, aI V 900 fy9), (y 19, .inr (4, o4_rrrrrr (y 2) (y 20) (y 21) (y 22) (y 23) (y 24))), (y 20, aI V 2000 f_20), (y 21, aI V 6 f_21), (y 22, aI V 64 f_22), (y 2, .inr (1, o1_iiiiiirrrrrrriiiii py2_0 py2_1 py2_2 py2_3 py2_4 py2_5 (y 3) (y 4) (y 5) (y 6) (y 7) (y 8) (y 9) py2_13 py2_14 py2_15 py2_16 py2_17))] H := hP
      have hD := cpD hP hD
      refine lv_iconst (v := 0) hx hb dX0_follow_126 (by decide) ?_
      refine lv_istore (lv' := [(9, .int 0), (8, .int a2), (7, .int u_19), (6, .int u_8), (5, .int u_9), (4, .int u_10), (0, .ref (y 25)), (1, .ref (y 19)), (2, .int a2), (3, .int a3)]) hx hb dX0_follow_127 hl (by decide) rfl (fun ls hl => ?_)
      refine loopF (X := fun (n_32 : Nat) (H : Heap) (locs : List Loc) (ls : Array Slot) => ∃ (u_25 : Int32) (u_26 : Int32) (u_27 : Int32) (u_28 : Int32) (f_29 : Nat → Int32) (f_30 : Nat → Int32) (f_31 : Nat → Int32), (iv 0 2147483647 u_25) ∧ (iv 0 9999 u_26) ∧ (iv 0 9999 u_27) ∧ (∀ j, iv 0 10 (f_29 j)) ∧ KN D9 f_29 ∧ n_32 = (2147483647 - (u_25 : Int32).toInt).toNat ∧ va_P V.1 vwCl [(y 25, .inr (0, [.int u_28, .int u_11])), (y 3, aI V 4 fy3), (y 9, aI V 900 fy9), (y 19, .inr (4, o4_rrrrrr (y 2) (y 20) (y 21) (y 22) (y 23) (y 24))), (y 20, aI V 2000 f_29), (y 21, aI V 6 f_30), (y 22, aI V 64 f_31), (y 2, .inr (1, o1_iiiiiirrrrrrriiiii py2_0 py2_1 py2_2 py2_3 py2_4 py2_5 (y 3) (y 4) (y 5) (y 6) (y 7) (y 8) (y 9) py2_13 py2_14 py2_15 py2_16 py2_17))] H ∧ va_D A [(y 25, .inr (0, [.int u_28, .int u_11])), (y 3, aI V 4 fy3), (y 9, aI V 900 fy9), (y 19, .inr (4, o4_rrrrrr (y 2) (y 20) (y 21) (y 22) (y 23) (y 24))), (y 20, aI V 2000 f_29), (y 21, aI V 6 f_30), (y 22, aI V 64 f_31), (y 2, .inr (1, o1_iiiiiirrrrrrriiiii py2_0 py2_1 py2_2 py2_3 py2_4 py2_5 (y 3) (y 4) (y 5) (y 6) (y 7) (y 8) (y 9) py2_13 py2_14 py2_15 py2_16 py2_17))] ∧ va_S A s.heap H locs ∧ lv_has ls 10 [(9, .int u_25), (8, .int u_26), (7, .int u_27), (6, .int u_8), (5, .int u_9), (4, .int u_10), (0, .ref (y 25)), (1, .ref (y 19)), (2, .int a2), (3, .int a3)]) (g := fun ls => F0 m 129 ls []) (fun n_32 H locs ls hX ihn_32 => ?_) _ ⟨0, a2, u_19, 0, f_20, f_21, f_22, (iv_c (0 : Int32) (by decide)), ba2, bu_19, tf_20, knn_23, rfl, hP, hD, hS, lv_sub hl [0, 1, 2, 3, 4, 5, 6, 7, 8, 9] rfl⟩
      obtain ⟨u_25, u_26, u_27, u_28, f_29, f_30, f_31, bu_25, bu_26, bu_27, tf_29, knn_32, en_32, hP, hD, hS, hl⟩ := hX
      refine lv_iload hx hb dX0_follow_129 (lv_at hl 0 rfl) ?_
      refine lv_ldc (v := 1000000) hx hb hown (hg _ q_4_27) dX0_follow_131 ?_
      refine lv_icmp_ge (tgt := 179) hx hb dX0_follow_133 (by decide) (fun c_33 => ?_) (fun c_33 => ?_)
      · have b_34 : iv 1000000 2147483647 u_25 := iv_e2 c_33 (iv_c (1000000 : Int32) (a := 1000000) (b := 1000000) (by decide)) bu_25 (by decide)
        have hP := subP (ws' := [(y 3, aI V 4 fy3), (y 9, aI V 900 fy9), (y 19, .inr (4, o4_rrrrrr (y 2) (y 20) (y 21) (y 22) (y 23) (y 24))), (y 20, aI V 2000 f_29), (y 21, aI V 6 f_30), (y 22, aI V 64 f_31), (y 25, .inr (0, [.int u_28, .int u_11])), (y 2, .inr (1, o1_iiiiiirrrrrrriiiii py2_0 py2_1 py2_2 py2_3 py2_4 py2_5 (y 3) (y 4) (y 5) (y 6) (y 7) (y 8) (y 9) py2_13 py2_14 py2_15 py2_16 py2_17))]) hP [1, 2, 3, 4, 5, 6, 0, 7] rfl
        have hD := subD hP hD [1, 2, 3, 4, 5, 6, 0, 7] rfl rfl
        exact fiV hx hb hr hlk hK hP hD hS dX0_follow_179 (Nat.le_of_ble_eq_true rfl) (Nat.le_of_ble_eq_true rfl) (⟨f_29, f_30, f_31, u_28, u_11, tf_29, knn_32, rfl⟩)
      · have b_35 : iv 0 999999 u_25 := iv_l1 (Int32.not_le.mp c_33) bu_25 (iv_c (1000000 : Int32) (a := 1000000) (b := 1000000) (by decide)) (by decide)
        refine lv_iload hx hb dX0_follow_136 (lv_at hl 1 rfl) ?_
        refine lv_iload hx hb dX0_follow_138 (lv_at hl 2 rfl) ?_
        refine lv_icmp_eq (tgt := 179) hx hb dX0_follow_140 (by decide) (fun c_36 => ?_) (fun c_36 => ?_)
        · have hP := subP (ws' := [(y 3, aI V 4 fy3), (y 9, aI V 900 fy9), (y 19, .inr (4, o4_rrrrrr (y 2) (y 20) (y 21) (y 22) (y 23) (y 24))), (y 20, aI V 2000 f_29), (y 21, aI V 6 f_30), (y 22, aI V 64 f_31), (y 25, .inr (0, [.int u_28, .int u_11])), (y 2, .inr (1, o1_iiiiiirrrrrrriiiii py2_0 py2_1 py2_2 py2_3 py2_4 py2_5 (y 3) (y 4) (y 5) (y 6) (y 7) (y 8) (y 9) py2_13 py2_14 py2_15 py2_16 py2_17))]) hP [1, 2, 3, 4, 5, 6, 0, 7] rfl
          have hD := subD hP hD [1, 2, 3, 4, 5, 6, 0, 7] rfl rfl
          exact fiV hx hb hr hlk hK hP hD hS dX0_follow_179 (Nat.le_of_ble_eq_true rfl) (Nat.le_of_ble_eq_true rfl) (⟨f_29, f_30, f_31, u_28, u_11, tf_29, knn_32, rfl⟩)
        · refine lv_aload_n hx hb dX0_follow_143 rfl (lv_at hl 7 rfl) ?_
          refine lv_iload hx hb dX0_follow_144 (lv_at hl 1 rfl) ?_
          refine lv_iload_n hx hb dX0_follow_146 rfl (lv_at hl 9 rfl) ?_
          refine lv_iconst (v := 0) hx hb dX0_follow_147 (by decide) ?_
          refine jnI (wr := [(y 25, .inr (0, [.int u_28, .int u_11]))]) (rnV (rest := []) ⟨hx, hb, hml, hown, hg⟩ (k_X4_behind_0 l V y u_26 a3 0 fy3 fy9 f_29 f_30 f_31 py2_0 py2_1 py2_2 py2_3 py2_4 py2_5 py2_13 py2_14 py2_15 py2_16 py2_17 bu_26 ba3 tf_29 bpy2_1 bpy2_2 bpy2_3 bpy2_4 bpy2_5 bpy2_13 bpy2_14 bpy2_15 bpy2_16 bpy2_17) mt_X4_behind q_4_26 ⟨Nat.le_of_ble_eq_true rfl, Nat.le_of_ble_eq_true rfl⟩ hK hP hD hS hA hE [1, 2, 3, 4, 5, 6, 7] rfl rfl 3 rfl rfl rfl rfl hl.1 rfl (Nat.le_of_ble_eq_true rfl) dX0_follow_148 ⟨Nat.le_of_ble_eq_true rfl, Nat.le_of_ble_eq_true rfl⟩) hP hD hS hA [1, 2, 3, 4, 5, 6, 7] [0] rfl rfl rfl (by decide) (fun r_37 w H locs hw hP hD hS => ?_)
          obtain ⟨f_38, f_39, f_40, tf_38, br_37, g_41, rfl⟩ := hw
          have qkn_42 := g_41 D9 hL9 knn_32
          have er_37 : r_37 = bhS D9 u_26 a3 (0 : Int32) (py2_1 : Int32).toNatClampNeg := qkn_42.1
          have kn_42 := qkn_42.2
          have hP : va_P V.1 vwCl [(y 25, .inr (0, [.int u_28, .int u_11])), (y 3, aI V 4 fy3), (y 9, aI V 900 fy9), (y 19, .inr (4, o4_rrrrrr (y 2) (y 20) (y 21) (y 22) (y 23) (y 24))), (y 20, aI V 2000 f_38), (y 21, aI V 6 f_39), (y 22, aI V 64 f_40), (y 2, .inr (1, o1_iiiiiirrrrrrriiiii py2_0 py2_1 py2_2 py2_3 py2_4 py2_5 (y 3) (y 4) (y 5) (y 6) (y 7) (y 8) (y 9) py2_13 py2_14 py2_15 py2_16 py2_17))] H := hP
          have hD := cpD hP hD
          refine lv_istore (lv' := [(8, .int r_37), (9, .int u_25), (7, .int u_27), (6, .int u_8), (5, .int u_9), (4, .int u_10), (0, .ref (y 25)), (1, .ref (y 19)), (2, .int a2), (3, .int a3)]) hx hb dX0_follow_151 hl (by decide) rfl (fun ls hl => ?_)
          refine lv_aload_n hx hb dX0_follow_153 rfl (lv_at hl 7 rfl) ?_
          refine lv_iload hx hb dX0_follow_154 (lv_at hl 2 rfl) ?_
          refine lv_iload_n hx hb dX0_follow_156 rfl (lv_at hl 9 rfl) ?_
          refine lv_iconst (v := 0) hx hb dX0_follow_157 (by decide) ?_
          refine jnI (wr := [(y 25, .inr (0, [.int u_28, .int u_11]))]) (rnV (rest := []) ⟨hx, hb, hml, hown, hg⟩ (k_X4_behind_0 l V y u_27 a3 0 fy3 fy9 f_38 f_39 f_40 py2_0 py2_1 py2_2 py2_3 py2_4 py2_5 py2_13 py2_14 py2_15 py2_16 py2_17 bu_27 ba3 tf_38 bpy2_1 bpy2_2 bpy2_3 bpy2_4 bpy2_5 bpy2_13 bpy2_14 bpy2_15 bpy2_16 bpy2_17) mt_X4_behind q_4_26 ⟨Nat.le_of_ble_eq_true rfl, Nat.le_of_ble_eq_true rfl⟩ hK hP hD hS hA hE [1, 2, 3, 4, 5, 6, 7] rfl rfl 3 rfl rfl rfl rfl hl.1 rfl (Nat.le_of_ble_eq_true rfl) dX0_follow_158 ⟨Nat.le_of_ble_eq_true rfl, Nat.le_of_ble_eq_true rfl⟩) hP hD hS hA [1, 2, 3, 4, 5, 6, 7] [0] rfl rfl rfl (by decide) (fun r_43 w H locs hw hP hD hS => ?_)
          obtain ⟨f_44, f_45, f_46, tf_44, br_43, g_47, rfl⟩ := hw
          have qkn_48 := g_47 D9 hL9 kn_42
          have er_43 : r_43 = bhS D9 u_27 a3 (0 : Int32) (py2_1 : Int32).toNatClampNeg := qkn_48.1
          have kn_48 := qkn_48.2
          have hP : va_P V.1 vwCl [(y 25, .inr (0, [.int u_28, .int u_11])), (y 3, aI V 4 fy3), (y 9, aI V 900 fy9), (y 19, .inr (4, o4_rrrrrr (y 2) (y 20) (y 21) (y 22) (y 23) (y 24))), (y 20, aI V 2000 f_44), (y 21, aI V 6 f_45), (y 22, aI V 64 f_46), (y 2, .inr (1, o1_iiiiiirrrrrrriiiii py2_0 py2_1 py2_2 py2_3 py2_4 py2_5 (y 3) (y 4) (y 5) (y 6) (y 7) (y 8) (y 9) py2_13 py2_14 py2_15 py2_16 py2_17))] H := hP
          have hD := cpD hP hD
          refine lv_istore (lv' := [(7, .int r_43), (8, .int r_37), (9, .int u_25), (6, .int u_8), (5, .int u_9), (4, .int u_10), (0, .ref (y 25)), (1, .ref (y 19)), (2, .int a2), (3, .int a3)]) hx hb dX0_follow_161 hl (by decide) rfl (fun ls hl => ?_)
          refine lv_aload_n hx hb dX0_follow_163 rfl (lv_at hl 6 rfl) ?_
          refine lv_dup hx hb dX0_follow_164 rfl ?_
          refine va_get (ci := 0) (v := .int u_28) (C := RX0) (T := TX0) (N := 2) hx hb hg inX0 hown hK hP 0 rfl rfl 0 (by decide) (hg _ q_1_196) (fun _ h9 => h9) rfl dX0_follow_165 ?_
          refine lv_iconst (v := 1) hx hb dX0_follow_168 (by decide) ?_
          refine lv_iadd hx hb dX0_follow_169 ?_
          refine lv_topi (fun x_49 ex_49 => ?_)
          refine va_put (ci := 0) (v := .int x_49) (ty := .int) (C := RX0) (T := TX0) (N := 2) hx hb hg inX0 tyX0 tyX0_ok nmX0 hown hK hP hD hS 0 rfl rfl 0 (by decide) (hg _ q_1_196) (fun _ h9 => h9) rfl (by decide +kernel) rfl rfl (Nat.le_of_ble_eq_true rfl) dX0_follow_170 (fun H locs hP hD hS => ?_)
          have hP : va_P V.1 vwCl [(y 25, .inr (0, [.int x_49, .int u_11])), (y 3, aI V 4 fy3), (y 9, aI V 900 fy9), (y 19, .inr (4, o4_rrrrrr (y 2) (y 20) (y 21) (y 22) (y 23) (y 24))), (y 20, aI V 2000 f_44), (y 21, aI V 6 f_45), (y 22, aI V 64 f_46), (y 2, .inr (1, o1_iiiiiirrrrrrriiiii py2_0 py2_1 py2_2 py2_3 py2_4 py2_5 (y 3) (y 4) (y 5) (y 6) (y 7) (y 8) (y 9) py2_13 py2_14 py2_15 py2_16 py2_17))] H := hP
          have hD := cpD hP hD
          obtain ⟨x_50, ex_50⟩ : ∃ z9 : Int32, z9 = u_25 + 1 := ⟨_, rfl⟩
          have bx_50 : iv 1 1000000 x_50 := by rw [ex_50]; exact iv_add b_35 (iv_c (1 : Int32) (a := 1) (b := 1) (by decide)) (by decide)
          refine lv_iinc (v := x_50) (lv' := [(9, .int x_50), (7, .int r_43), (8, .int r_37), (6, .int u_8), (5, .int u_9), (4, .int u_10), (0, .ref (y 25)), (1, .ref (y 19)), (2, .int a2), (3, .int a3)]) hx hb dX0_follow_173 hl (k := 2) rfl (by rw [ex_50]; rfl) (by decide) rfl (fun ls hl => ?_)
          refine lv_goto (tgt := 129) hx hb dX0_follow_176 (by decide) ?_
          exact ihn_32 _ _ _ _ (by rw [en_32, ex_50]; exact mu_up b_35 (by decide)) ⟨x_50, r_37, r_43, x_49, f_44, f_45, f_46, (iv_w bx_50 (by decide)), br_37, br_43, tf_44, kn_48, rfl, hP, hD, hS, lv_sub hl [0, 2, 1, 3, 4, 5, 6, 7, 8, 9] rfl⟩
    · have b_51 : iv 0 2147483646 u_18 := iv_l1 (Int32.not_le.mp c_24) bu_18 (iv_top u_11) (by decide)
      have b_52 : iv 1 2147483647 u_11 := iv_l2 (Int32.not_le.mp c_24) bu_18 (iv_top u_11) (by decide)
      refine lv_aload_n hx hb dX0_follow_102 rfl (lv_at hl 6 rfl) ?_
      refine lv_iload hx hb dX0_follow_103 (lv_at hl 1 rfl) ?_
      refine lv_iload_n hx hb dX0_follow_105 rfl (lv_at hl 8 rfl) ?_
      refine lv_iconst (v := 0) hx hb dX0_follow_106 (by decide) ?_
      refine jnI (wr := [(y 25, .inr (0, [.int py25_0, .int u_11]))]) (rnV (rest := []) ⟨hx, hb, hml, hown, hg⟩ (k_X4_behind_0 l V y u_19 a3 0 fy3 fy9 f_20 f_21 f_22 py2_0 py2_1 py2_2 py2_3 py2_4 py2_5 py2_13 py2_14 py2_15 py2_16 py2_17 bu_19 ba3 tf_20 bpy2_1 bpy2_2 bpy2_3 bpy2_4 bpy2_5 bpy2_13 bpy2_14 bpy2_15 bpy2_16 bpy2_17) mt_X4_behind q_4_26 ⟨Nat.le_of_ble_eq_true rfl, Nat.le_of_ble_eq_true rfl⟩ hK hP hD hS hA hE [1, 2, 3, 4, 5, 6, 7] rfl rfl 3 rfl rfl rfl rfl hl.1 rfl (Nat.le_of_ble_eq_true rfl) dX0_follow_107 ⟨Nat.le_of_ble_eq_true rfl, Nat.le_of_ble_eq_true rfl⟩) hP hD hS hA [1, 2, 3, 4, 5, 6, 7] [0] rfl rfl rfl (by decide) (fun r_53 w H locs hw hP hD hS => ?_)
      obtain ⟨f_54, f_55, f_56, tf_54, br_53, g_57, rfl⟩ := hw
      have qkn_58 := g_57 D9 hL9 knn_23
      have er_53 : r_53 = bhS D9 u_19 a3 (0 : Int32) (py2_1 : Int32).toNatClampNeg := qkn_58.1
      have kn_58 := qkn_58.2
      have hP : va_P V.1 vwCl [(y 25, .inr (0, [.int py25_0, .int u_11])), (y 3, aI V 4 fy3), (y 9, aI V 900 fy9), (y 19, .inr (4, o4_rrrrrr (y 2) (y 20) (y 21) (y 22) (y 23) (y 24))), (y 20, aI V 2000 f_54), (y 21, aI V 6 f_55), (y 22, aI V 64 f_56), (y 2, .inr (1, o1_iiiiiirrrrrrriiiii py2_0 py2_1 py2_2 py2_3 py2_4 py2_5 (y 3) (y 4) (y 5) (y 6) (y 7) (y 8) (y 9) py2_13 py2_14 py2_15 py2_16 py2_17))] H := hP
      have hD := cpD hP hD
      refine lv_istore (lv' := [(7, .int r_53), (8, .int u_18), (6, .int u_8), (5, .int u_9), (4, .int u_10), (0, .ref (y 25)), (1, .ref (y 19)), (2, .int a2), (3, .int a3)]) hx hb dX0_follow_110 hl (by decide) rfl (fun ls hl => ?_)
      obtain ⟨x_59, ex_59⟩ : ∃ z9 : Int32, z9 = u_18 + 1 := ⟨_, rfl⟩
      have bx_59 : iv 1 2147483647 x_59 := by rw [ex_59]; exact iv_add b_51 (iv_c (1 : Int32) (a := 1) (b := 1) (by decide)) (by decide)
      refine lv_iinc (v := x_59) (lv' := [(8, .int x_59), (7, .int r_53), (6, .int u_8), (5, .int u_9), (4, .int u_10), (0, .ref (y 25)), (1, .ref (y 19)), (2, .int a2), (3, .int a3)]) hx hb dX0_follow_112 hl (k := 1) rfl (by rw [ex_59]; rfl) (by decide) rfl (fun ls hl => ?_)
      refine lv_goto (tgt := 93) hx hb dX0_follow_115 (by decide) ?_
      exact ihn_23 _ _ _ _ (by rw [en_23, ex_59]; exact mu_up b_51 (by decide)) ⟨x_59, r_53, f_54, f_55, f_56, (iv_w bx_59 (by decide)), br_53, tf_54, kn_58, rfl, hP, hD, hS, lv_sub hl [0, 1, 2, 3, 4, 5, 6, 7, 8] rfl⟩
  · have b_60 : iv 0 999999 u_7 := iv_l1 (Int32.not_le.mp c_16) bu_7 (iv_c (1000000 : Int32) (a := 1000000) (b := 1000000) (by decide)) (by decide)
    refine lv_iload hx hb dX0_follow_30 (lv_at hl 3 rfl) ?_
    refine lv_iload hx hb dX0_follow_32 (lv_at hl 2 rfl) ?_
    refine lv_icmp_eq (tgt := 87) hx hb dX0_follow_34 (by decide) (fun c_61 => ?_) (fun c_61 => ?_)
    · refine lv_iload_n hx hb dX0_follow_87 rfl (lv_at hl 6 rfl) ?_
      refine lv_istore (lv' := [(7, .int a2), (6, .int u_8), (5, .int u_9), (4, .int u_10), (0, .ref (y 25)), (1, .ref (y 19)), (2, .int a2), (3, .int a3)]) hx hb dX0_follow_88 hl (by decide) rfl (fun ls hl => ?_)
      refine lv_iconst (v := 0) hx hb dX0_follow_90 (by decide) ?_
      refine lv_istore (lv' := [(8, .int 0), (7, .int a2), (6, .int u_8), (5, .int u_9), (4, .int u_10), (0, .ref (y 25)), (1, .ref (y 19)), (2, .int a2), (3, .int a3)]) hx hb dX0_follow_91 hl (by decide) rfl (fun ls hl => ?_)
      refine loopF (X := fun (n_67 : Nat) (H : Heap) (locs : List Loc) (ls : Array Slot) => ∃ (u_62 : Int32) (u_63 : Int32) (f_64 : Nat → Int32) (f_65 : Nat → Int32) (f_66 : Nat → Int32), (iv 0 2147483647 u_62) ∧ (iv 0 9999 u_63) ∧ (∀ j, iv 0 10 (f_64 j)) ∧ KN D9 f_64 ∧ n_67 = (2147483647 - (u_62 : Int32).toInt).toNat ∧ va_P V.1 vwCl [(y 25, .inr (0, [.int py25_0, .int u_11])), (y 3, aI V 4 fy3), (y 9, aI V 900 fy9), (y 19, .inr (4, o4_rrrrrr (y 2) (y 20) (y 21) (y 22) (y 23) (y 24))), (y 20, aI V 2000 f_64), (y 21, aI V 6 f_65), (y 22, aI V 64 f_66), (y 2, .inr (1, o1_iiiiiirrrrrrriiiii py2_0 py2_1 py2_2 py2_3 py2_4 py2_5 (y 3) (y 4) (y 5) (y 6) (y 7) (y 8) (y 9) py2_13 py2_14 py2_15 py2_16 py2_17))] H ∧ va_D A [(y 25, .inr (0, [.int py25_0, .int u_11])), (y 3, aI V 4 fy3), (y 9, aI V 900 fy9), (y 19, .inr (4, o4_rrrrrr (y 2) (y 20) (y 21) (y 22) (y 23) (y 24))), (y 20, aI V 2000 f_64), (y 21, aI V 6 f_65), (y 22, aI V 64 f_66), (y 2, .inr (1, o1_iiiiiirrrrrrriiiii py2_0 py2_1 py2_2 py2_3 py2_4 py2_5 (y 3) (y 4) (y 5) (y 6) (y 7) (y 8) (y 9) py2_13 py2_14 py2_15 py2_16 py2_17))] ∧ va_S A s.heap H locs ∧ lv_has ls 10 [(8, .int u_62), (7, .int u_63), (6, .int u_8), (5, .int u_9), (4, .int u_10), (0, .ref (y 25)), (1, .ref (y 19)), (2, .int a2), (3, .int a3)]) (g := fun ls => F0 m 93 ls []) (fun n_67 H locs ls hX ihn_67 => ?_) _ ⟨0, a2, f_12, f_13, f_14, (iv_c (0 : Int32) (by decide)), ba2, tf_12, knn_15, rfl, hP, hD, hS, lv_sub hl [0, 1, 2, 3, 4, 5, 6, 7, 8] rfl⟩
      obtain ⟨u_62, u_63, f_64, f_65, f_66, bu_62, bu_63, tf_64, knn_67, en_67, hP, hD, hS, hl⟩ := hX
      refine lv_iload hx hb dX0_follow_93 (lv_at hl 0 rfl) ?_
      refine lv_aload_n hx hb dX0_follow_95 rfl (lv_at hl 5 rfl) ?_
      refine va_get (ci := 0) (v := .int u_11) (C := RX0) (T := TX0) (N := 2) hx hb hg inX0 hown hK hP 0 rfl rfl 1 (by decide) (hg _ q_1_198) (fun _ h9 => h9) rfl dX0_follow_96 ?_
      refine lv_icmp_ge (tgt := 118) hx hb dX0_follow_99 (by decide) (fun c_68 => ?_) (fun c_68 => ?_)
      · refine lv_iload_n hx hb dX0_follow_118 rfl (lv_at hl 7 rfl) ?_
        refine lv_istore (lv' := [(8, .int a2), (7, .int u_63), (6, .int u_8), (5, .int u_9), (4, .int u_10), (0, .ref (y 25)), (1, .ref (y 19)), (2, .int a2), (3, .int a3)]) hx hb dX0_follow_119 hl (by decide) rfl (fun ls hl => ?_)
        refine lv_aload_n hx hb dX0_follow_121 rfl (lv_at hl 5 rfl) ?_
        refine lv_iconst (v := 0) hx hb dX0_follow_122 (by decide) ?_
        refine va_put (ci := 0) (v := .int 0) (ty := .int) (C := RX0) (T := TX0) (N := 2) hx hb hg inX0 tyX0 tyX0_ok nmX0 hown hK hP hD hS 0 rfl rfl 0 (by decide) (hg _ q_1_196) (fun _ h9 => h9) rfl (by decide +kernel) rfl rfl (Nat.le_of_ble_eq_true rfl) dX0_follow_123 (fun H locs hP hD hS => ?_)
        have hP : va_P V.1 vwCl [(y 25, .inr (0, [.int 0, .int u_11])), (y 3, aI V 4 fy3), (y 9, aI V 900 fy9), (y 19, .inr (4, o4_rrrrrr (y 2) (y 20) (y 21) (y 22) (y 23) (y 24))), (y 20, aI V 2000 f_64), (y 21, aI V 6 f_65), (y 22, aI V 64 f_66), (y 2, .inr (1, o1_iiiiiirrrrrrriiiii py2_0 py2_1 py2_2 py2_3 py2_4 py2_5 (y 3) (y 4) (y 5) (y 6) (y 7) (y 8) (y 9) py2_13 py2_14 py2_15 py2_16 py2_17))] H := hP
        have hD := cpD hP hD
        refine lv_iconst (v := 0) hx hb dX0_follow_126 (by decide) ?_
        refine lv_istore (lv' := [(9, .int 0), (8, .int a2), (7, .int u_63), (6, .int u_8), (5, .int u_9), (4, .int u_10), (0, .ref (y 25)), (1, .ref (y 19)), (2, .int a2), (3, .int a3)]) hx hb dX0_follow_127 hl (by decide) rfl (fun ls hl => ?_)
        refine loopF (X := fun (n_76 : Nat) (H : Heap) (locs : List Loc) (ls : Array Slot) => ∃ (u_69 : Int32) (u_70 : Int32) (u_71 : Int32) (u_72 : Int32) (f_73 : Nat → Int32) (f_74 : Nat → Int32) (f_75 : Nat → Int32), (iv 0 2147483647 u_69) ∧ (iv 0 9999 u_70) ∧ (iv 0 9999 u_71) ∧ (∀ j, iv 0 10 (f_73 j)) ∧ KN D9 f_73 ∧ n_76 = (2147483647 - (u_69 : Int32).toInt).toNat ∧ va_P V.1 vwCl [(y 25, .inr (0, [.int u_72, .int u_11])), (y 3, aI V 4 fy3), (y 9, aI V 900 fy9), (y 19, .inr (4, o4_rrrrrr (y 2) (y 20) (y 21) (y 22) (y 23) (y 24))), (y 20, aI V 2000 f_73), (y 21, aI V 6 f_74), (y 22, aI V 64 f_75), (y 2, .inr (1, o1_iiiiiirrrrrrriiiii py2_0 py2_1 py2_2 py2_3 py2_4 py2_5 (y 3) (y 4) (y 5) (y 6) (y 7) (y 8) (y 9) py2_13 py2_14 py2_15 py2_16 py2_17))] H ∧ va_D A [(y 25, .inr (0, [.int u_72, .int u_11])), (y 3, aI V 4 fy3), (y 9, aI V 900 fy9), (y 19, .inr (4, o4_rrrrrr (y 2) (y 20) (y 21) (y 22) (y 23) (y 24))), (y 20, aI V 2000 f_73), (y 21, aI V 6 f_74), (y 22, aI V 64 f_75), (y 2, .inr (1, o1_iiiiiirrrrrrriiiii py2_0 py2_1 py2_2 py2_3 py2_4 py2_5 (y 3) (y 4) (y 5) (y 6) (y 7) (y 8) (y 9) py2_13 py2_14 py2_15 py2_16 py2_17))] ∧ va_S A s.heap H locs ∧ lv_has ls 10 [(9, .int u_69), (8, .int u_70), (7, .int u_71), (6, .int u_8), (5, .int u_9), (4, .int u_10), (0, .ref (y 25)), (1, .ref (y 19)), (2, .int a2), (3, .int a3)]) (g := fun ls => F0 m 129 ls []) (fun n_76 H locs ls hX ihn_76 => ?_) _ ⟨0, a2, u_63, 0, f_64, f_65, f_66, (iv_c (0 : Int32) (by decide)), ba2, bu_63, tf_64, knn_67, rfl, hP, hD, hS, lv_sub hl [0, 1, 2, 3, 4, 5, 6, 7, 8, 9] rfl⟩
        obtain ⟨u_69, u_70, u_71, u_72, f_73, f_74, f_75, bu_69, bu_70, bu_71, tf_73, knn_76, en_76, hP, hD, hS, hl⟩ := hX
        refine lv_iload hx hb dX0_follow_129 (lv_at hl 0 rfl) ?_
        refine lv_ldc (v := 1000000) hx hb hown (hg _ q_4_27) dX0_follow_131 ?_
        refine lv_icmp_ge (tgt := 179) hx hb dX0_follow_133 (by decide) (fun c_77 => ?_) (fun c_77 => ?_)
        · have b_78 : iv 1000000 2147483647 u_69 := iv_e2 c_77 (iv_c (1000000 : Int32) (a := 1000000) (b := 1000000) (by decide)) bu_69 (by decide)
          have hP := subP (ws' := [(y 3, aI V 4 fy3), (y 9, aI V 900 fy9), (y 19, .inr (4, o4_rrrrrr (y 2) (y 20) (y 21) (y 22) (y 23) (y 24))), (y 20, aI V 2000 f_73), (y 21, aI V 6 f_74), (y 22, aI V 64 f_75), (y 25, .inr (0, [.int u_72, .int u_11])), (y 2, .inr (1, o1_iiiiiirrrrrrriiiii py2_0 py2_1 py2_2 py2_3 py2_4 py2_5 (y 3) (y 4) (y 5) (y 6) (y 7) (y 8) (y 9) py2_13 py2_14 py2_15 py2_16 py2_17))]) hP [1, 2, 3, 4, 5, 6, 0, 7] rfl
          have hD := subD hP hD [1, 2, 3, 4, 5, 6, 0, 7] rfl rfl
          exact fiV hx hb hr hlk hK hP hD hS dX0_follow_179 (Nat.le_of_ble_eq_true rfl) (Nat.le_of_ble_eq_true rfl) (⟨f_73, f_74, f_75, u_72, u_11, tf_73, knn_76, rfl⟩)
        · have b_79 : iv 0 999999 u_69 := iv_l1 (Int32.not_le.mp c_77) bu_69 (iv_c (1000000 : Int32) (a := 1000000) (b := 1000000) (by decide)) (by decide)
          refine lv_iload hx hb dX0_follow_136 (lv_at hl 1 rfl) ?_
          refine lv_iload hx hb dX0_follow_138 (lv_at hl 2 rfl) ?_
          refine lv_icmp_eq (tgt := 179) hx hb dX0_follow_140 (by decide) (fun c_80 => ?_) (fun c_80 => ?_)
          · have hP := subP (ws' := [(y 3, aI V 4 fy3), (y 9, aI V 900 fy9), (y 19, .inr (4, o4_rrrrrr (y 2) (y 20) (y 21) (y 22) (y 23) (y 24))), (y 20, aI V 2000 f_73), (y 21, aI V 6 f_74), (y 22, aI V 64 f_75), (y 25, .inr (0, [.int u_72, .int u_11])), (y 2, .inr (1, o1_iiiiiirrrrrrriiiii py2_0 py2_1 py2_2 py2_3 py2_4 py2_5 (y 3) (y 4) (y 5) (y 6) (y 7) (y 8) (y 9) py2_13 py2_14 py2_15 py2_16 py2_17))]) hP [1, 2, 3, 4, 5, 6, 0, 7] rfl
            have hD := subD hP hD [1, 2, 3, 4, 5, 6, 0, 7] rfl rfl
            exact fiV hx hb hr hlk hK hP hD hS dX0_follow_179 (Nat.le_of_ble_eq_true rfl) (Nat.le_of_ble_eq_true rfl) (⟨f_73, f_74, f_75, u_72, u_11, tf_73, knn_76, rfl⟩)
          · refine lv_aload_n hx hb dX0_follow_143 rfl (lv_at hl 7 rfl) ?_
            refine lv_iload hx hb dX0_follow_144 (lv_at hl 1 rfl) ?_
            refine lv_iload_n hx hb dX0_follow_146 rfl (lv_at hl 9 rfl) ?_
            refine lv_iconst (v := 0) hx hb dX0_follow_147 (by decide) ?_
            refine jnI (wr := [(y 25, .inr (0, [.int u_72, .int u_11]))]) (rnV (rest := []) ⟨hx, hb, hml, hown, hg⟩ (k_X4_behind_0 l V y u_70 a3 0 fy3 fy9 f_73 f_74 f_75 py2_0 py2_1 py2_2 py2_3 py2_4 py2_5 py2_13 py2_14 py2_15 py2_16 py2_17 bu_70 ba3 tf_73 bpy2_1 bpy2_2 bpy2_3 bpy2_4 bpy2_5 bpy2_13 bpy2_14 bpy2_15 bpy2_16 bpy2_17) mt_X4_behind q_4_26 ⟨Nat.le_of_ble_eq_true rfl, Nat.le_of_ble_eq_true rfl⟩ hK hP hD hS hA hE [1, 2, 3, 4, 5, 6, 7] rfl rfl 3 rfl rfl rfl rfl hl.1 rfl (Nat.le_of_ble_eq_true rfl) dX0_follow_148 ⟨Nat.le_of_ble_eq_true rfl, Nat.le_of_ble_eq_true rfl⟩) hP hD hS hA [1, 2, 3, 4, 5, 6, 7] [0] rfl rfl rfl (by decide) (fun r_81 w H locs hw hP hD hS => ?_)
            obtain ⟨f_82, f_83, f_84, tf_82, br_81, g_85, rfl⟩ := hw
            have qkn_86 := g_85 D9 hL9 knn_76
            have er_81 : r_81 = bhS D9 u_70 a3 (0 : Int32) (py2_1 : Int32).toNatClampNeg := qkn_86.1
            have kn_86 := qkn_86.2
            have hP : va_P V.1 vwCl [(y 25, .inr (0, [.int u_72, .int u_11])), (y 3, aI V 4 fy3), (y 9, aI V 900 fy9), (y 19, .inr (4, o4_rrrrrr (y 2) (y 20) (y 21) (y 22) (y 23) (y 24))), (y 20, aI V 2000 f_82), (y 21, aI V 6 f_83), (y 22, aI V 64 f_84), (y 2, .inr (1, o1_iiiiiirrrrrrriiiii py2_0 py2_1 py2_2 py2_3 py2_4 py2_5 (y 3) (y 4) (y 5) (y 6) (y 7) (y 8) (y 9) py2_13 py2_14 py2_15 py2_16 py2_17))] H := hP
            have hD := cpD hP hD
            refine lv_istore (lv' := [(8, .int r_81), (9, .int u_69), (7, .int u_71), (6, .int u_8), (5, .int u_9), (4, .int u_10), (0, .ref (y 25)), (1, .ref (y 19)), (2, .int a2), (3, .int a3)]) hx hb dX0_follow_151 hl (by decide) rfl (fun ls hl => ?_)
            refine lv_aload_n hx hb dX0_follow_153 rfl (lv_at hl 7 rfl) ?_
            refine lv_iload hx hb dX0_follow_154 (lv_at hl 2 rfl) ?_
            refine lv_iload_n hx hb dX0_follow_156 rfl (lv_at hl 9 rfl) ?_
            refine lv_iconst (v := 0) hx hb dX0_follow_157 (by decide) ?_
            refine jnI (wr := [(y 25, .inr (0, [.int u_72, .int u_11]))]) (rnV (rest := []) ⟨hx, hb, hml, hown, hg⟩ (k_X4_behind_0 l V y u_71 a3 0 fy3 fy9 f_82 f_83 f_84 py2_0 py2_1 py2_2 py2_3 py2_4 py2_5 py2_13 py2_14 py2_15 py2_16 py2_17 bu_71 ba3 tf_82 bpy2_1 bpy2_2 bpy2_3 bpy2_4 bpy2_5 bpy2_13 bpy2_14 bpy2_15 bpy2_16 bpy2_17) mt_X4_behind q_4_26 ⟨Nat.le_of_ble_eq_true rfl, Nat.le_of_ble_eq_true rfl⟩ hK hP hD hS hA hE [1, 2, 3, 4, 5, 6, 7] rfl rfl 3 rfl rfl rfl rfl hl.1 rfl (Nat.le_of_ble_eq_true rfl) dX0_follow_158 ⟨Nat.le_of_ble_eq_true rfl, Nat.le_of_ble_eq_true rfl⟩) hP hD hS hA [1, 2, 3, 4, 5, 6, 7] [0] rfl rfl rfl (by decide) (fun r_87 w H locs hw hP hD hS => ?_)
            obtain ⟨f_88, f_89, f_90, tf_88, br_87, g_91, rfl⟩ := hw
            have qkn_92 := g_91 D9 hL9 kn_86
            have er_87 : r_87 = bhS D9 u_71 a3 (0 : Int32) (py2_1 : Int32).toNatClampNeg := qkn_92.1
            have kn_92 := qkn_92.2
            have hP : va_P V.1 vwCl [(y 25, .inr (0, [.int u_72, .int u_11])), (y 3, aI V 4 fy3), (y 9, aI V 900 fy9), (y 19, .inr (4, o4_rrrrrr (y 2) (y 20) (y 21) (y 22) (y 23) (y 24))), (y 20, aI V 2000 f_88), (y 21, aI V 6 f_89), (y 22, aI V 64 f_90), (y 2, .inr (1, o1_iiiiiirrrrrrriiiii py2_0 py2_1 py2_2 py2_3 py2_4 py2_5 (y 3) (y 4) (y 5) (y 6) (y 7) (y 8) (y 9) py2_13 py2_14 py2_15 py2_16 py2_17))] H := hP
            have hD := cpD hP hD
            refine lv_istore (lv' := [(7, .int r_87), (8, .int r_81), (9, .int u_69), (6, .int u_8), (5, .int u_9), (4, .int u_10), (0, .ref (y 25)), (1, .ref (y 19)), (2, .int a2), (3, .int a3)]) hx hb dX0_follow_161 hl (by decide) rfl (fun ls hl => ?_)
            refine lv_aload_n hx hb dX0_follow_163 rfl (lv_at hl 6 rfl) ?_
            refine lv_dup hx hb dX0_follow_164 rfl ?_
            refine va_get (ci := 0) (v := .int u_72) (C := RX0) (T := TX0) (N := 2) hx hb hg inX0 hown hK hP 0 rfl rfl 0 (by decide) (hg _ q_1_196) (fun _ h9 => h9) rfl dX0_follow_165 ?_
            refine lv_iconst (v := 1) hx hb dX0_follow_168 (by decide) ?_
            refine lv_iadd hx hb dX0_follow_169 ?_
            refine lv_topi (fun x_93 ex_93 => ?_)
            refine va_put (ci := 0) (v := .int x_93) (ty := .int) (C := RX0) (T := TX0) (N := 2) hx hb hg inX0 tyX0 tyX0_ok nmX0 hown hK hP hD hS 0 rfl rfl 0 (by decide) (hg _ q_1_196) (fun _ h9 => h9) rfl (by decide +kernel) rfl rfl (Nat.le_of_ble_eq_true rfl) dX0_follow_170 (fun H locs hP hD hS => ?_)
            have hP : va_P V.1 vwCl [(y 25, .inr (0, [.int x_93, .int u_11])), (y 3, aI V 4 fy3), (y 9, aI V 900 fy9), (y 19, .inr (4, o4_rrrrrr (y 2) (y 20) (y 21) (y 22) (y 23) (y 24))), (y 20, aI V 2000 f_88), (y 21, aI V 6 f_89), (y 22, aI V 64 f_90), (y 2, .inr (1, o1_iiiiiirrrrrrriiiii py2_0 py2_1 py2_2 py2_3 py2_4 py2_5 (y 3) (y 4) (y 5) (y 6) (y 7) (y 8) (y 9) py2_13 py2_14 py2_15 py2_16 py2_17))] H := hP
            have hD := cpD hP hD
            obtain ⟨x_94, ex_94⟩ : ∃ z9 : Int32, z9 = u_69 + 1 := ⟨_, rfl⟩
            have bx_94 : iv 1 1000000 x_94 := by rw [ex_94]; exact iv_add b_79 (iv_c (1 : Int32) (a := 1) (b := 1) (by decide)) (by decide)
            refine lv_iinc (v := x_94) (lv' := [(9, .int x_94), (7, .int r_87), (8, .int r_81), (6, .int u_8), (5, .int u_9), (4, .int u_10), (0, .ref (y 25)), (1, .ref (y 19)), (2, .int a2), (3, .int a3)]) hx hb dX0_follow_173 hl (k := 2) rfl (by rw [ex_94]; rfl) (by decide) rfl (fun ls hl => ?_)
            refine lv_goto (tgt := 129) hx hb dX0_follow_176 (by decide) ?_
            exact ihn_76 _ _ _ _ (by rw [en_76, ex_94]; exact mu_up b_79 (by decide)) ⟨x_94, r_81, r_87, x_93, f_88, f_89, f_90, (iv_w bx_94 (by decide)), br_81, br_87, tf_88, kn_92, rfl, hP, hD, hS, lv_sub hl [0, 2, 1, 3, 4, 5, 6, 7, 8, 9] rfl⟩
      · have b_95 : iv 0 2147483646 u_62 := iv_l1 (Int32.not_le.mp c_68) bu_62 (iv_top u_11) (by decide)
        have b_96 : iv 1 2147483647 u_11 := iv_l2 (Int32.not_le.mp c_68) bu_62 (iv_top u_11) (by decide)
        refine lv_aload_n hx hb dX0_follow_102 rfl (lv_at hl 6 rfl) ?_
        refine lv_iload hx hb dX0_follow_103 (lv_at hl 1 rfl) ?_
        refine lv_iload_n hx hb dX0_follow_105 rfl (lv_at hl 8 rfl) ?_
        refine lv_iconst (v := 0) hx hb dX0_follow_106 (by decide) ?_
        refine jnI (wr := [(y 25, .inr (0, [.int py25_0, .int u_11]))]) (rnV (rest := []) ⟨hx, hb, hml, hown, hg⟩ (k_X4_behind_0 l V y u_63 a3 0 fy3 fy9 f_64 f_65 f_66 py2_0 py2_1 py2_2 py2_3 py2_4 py2_5 py2_13 py2_14 py2_15 py2_16 py2_17 bu_63 ba3 tf_64 bpy2_1 bpy2_2 bpy2_3 bpy2_4 bpy2_5 bpy2_13 bpy2_14 bpy2_15 bpy2_16 bpy2_17) mt_X4_behind q_4_26 ⟨Nat.le_of_ble_eq_true rfl, Nat.le_of_ble_eq_true rfl⟩ hK hP hD hS hA hE [1, 2, 3, 4, 5, 6, 7] rfl rfl 3 rfl rfl rfl rfl hl.1 rfl (Nat.le_of_ble_eq_true rfl) dX0_follow_107 ⟨Nat.le_of_ble_eq_true rfl, Nat.le_of_ble_eq_true rfl⟩) hP hD hS hA [1, 2, 3, 4, 5, 6, 7] [0] rfl rfl rfl (by decide) (fun r_97 w H locs hw hP hD hS => ?_)
        obtain ⟨f_98, f_99, f_100, tf_98, br_97, g_101, rfl⟩ := hw
        have qkn_102 := g_101 D9 hL9 knn_67
        have er_97 : r_97 = bhS D9 u_63 a3 (0 : Int32) (py2_1 : Int32).toNatClampNeg := qkn_102.1
        have kn_102 := qkn_102.2
        have hP : va_P V.1 vwCl [(y 25, .inr (0, [.int py25_0, .int u_11])), (y 3, aI V 4 fy3), (y 9, aI V 900 fy9), (y 19, .inr (4, o4_rrrrrr (y 2) (y 20) (y 21) (y 22) (y 23) (y 24))), (y 20, aI V 2000 f_98), (y 21, aI V 6 f_99), (y 22, aI V 64 f_100), (y 2, .inr (1, o1_iiiiiirrrrrrriiiii py2_0 py2_1 py2_2 py2_3 py2_4 py2_5 (y 3) (y 4) (y 5) (y 6) (y 7) (y 8) (y 9) py2_13 py2_14 py2_15 py2_16 py2_17))] H := hP
        have hD := cpD hP hD
        refine lv_istore (lv' := [(7, .int r_97), (8, .int u_62), (6, .int u_8), (5, .int u_9), (4, .int u_10), (0, .ref (y 25)), (1, .ref (y 19)), (2, .int a2), (3, .int a3)]) hx hb dX0_follow_110 hl (by decide) rfl (fun ls hl => ?_)
        obtain ⟨x_103, ex_103⟩ : ∃ z9 : Int32, z9 = u_62 + 1 := ⟨_, rfl⟩
        have bx_103 : iv 1 2147483647 x_103 := by rw [ex_103]; exact iv_add b_95 (iv_c (1 : Int32) (a := 1) (b := 1) (by decide)) (by decide)
        refine lv_iinc (v := x_103) (lv' := [(8, .int x_103), (7, .int r_97), (6, .int u_8), (5, .int u_9), (4, .int u_10), (0, .ref (y 25)), (1, .ref (y 19)), (2, .int a2), (3, .int a3)]) hx hb dX0_follow_112 hl (k := 1) rfl (by rw [ex_103]; rfl) (by decide) rfl (fun ls hl => ?_)
        refine lv_goto (tgt := 93) hx hb dX0_follow_115 (by decide) ?_
        exact ihn_67 _ _ _ _ (by rw [en_67, ex_103]; exact mu_up b_95 (by decide)) ⟨x_103, r_97, f_98, f_99, f_100, (iv_w bx_103 (by decide)), br_97, tf_98, kn_102, rfl, hP, hD, hS, lv_sub hl [0, 1, 2, 3, 4, 5, 6, 7, 8] rfl⟩
    · refine lv_aload_n hx hb dX0_follow_37 rfl (lv_at hl 4 rfl) ?_
      refine va_get (ci := 0) (v := .int u_11) (C := RX0) (T := TX0) (N := 2) hx hb hg inX0 hown hK hP 0 rfl rfl 1 (by decide) (hg _ q_1_198) (fun _ h9 => h9) rfl dX0_follow_38 ?_
      refine lv_iload hx hb dX0_follow_41 (lv_at hl 1 rfl) ?_
      refine lv_icmp_ne (tgt := 61) hx hb dX0_follow_43 (by decide) (fun c_104 => ?_) (fun c_104 => ?_)
      · refine lv_aload_n hx hb dX0_follow_61 rfl (lv_at hl 5 rfl) ?_
        refine lv_iload hx hb dX0_follow_62 (lv_at hl 2 rfl) ?_
        refine lv_iload_n hx hb dX0_follow_64 rfl (lv_at hl 7 rfl) ?_
        refine lv_iconst (v := 0) hx hb dX0_follow_65 (by decide) ?_
        refine jnI (wr := [(y 25, .inr (0, [.int py25_0, .int u_11]))]) (rnV (rest := []) ⟨hx, hb, hml, hown, hg⟩ (k_X4_behind_0 l V y u_9 a3 0 fy3 fy9 f_12 f_13 f_14 py2_0 py2_1 py2_2 py2_3 py2_4 py2_5 py2_13 py2_14 py2_15 py2_16 py2_17 bu_9 ba3 tf_12 bpy2_1 bpy2_2 bpy2_3 bpy2_4 bpy2_5 bpy2_13 bpy2_14 bpy2_15 bpy2_16 bpy2_17) mt_X4_behind q_4_26 ⟨Nat.le_of_ble_eq_true rfl, Nat.le_of_ble_eq_true rfl⟩ hK hP hD hS hA hE [1, 2, 3, 4, 5, 6, 7] rfl rfl 3 rfl rfl rfl rfl hl.1 rfl (Nat.le_of_ble_eq_true rfl) dX0_follow_66 ⟨Nat.le_of_ble_eq_true rfl, Nat.le_of_ble_eq_true rfl⟩) hP hD hS hA [1, 2, 3, 4, 5, 6, 7] [0] rfl rfl rfl (by decide) (fun r_105 w H locs hw hP hD hS => ?_)
        obtain ⟨f_106, f_107, f_108, tf_106, br_105, g_109, rfl⟩ := hw
        have qkn_110 := g_109 D9 hL9 knn_15
        have er_105 : r_105 = bhS D9 u_9 a3 (0 : Int32) (py2_1 : Int32).toNatClampNeg := qkn_110.1
        have kn_110 := qkn_110.2
        have hP : va_P V.1 vwCl [(y 25, .inr (0, [.int py25_0, .int u_11])), (y 3, aI V 4 fy3), (y 9, aI V 900 fy9), (y 19, .inr (4, o4_rrrrrr (y 2) (y 20) (y 21) (y 22) (y 23) (y 24))), (y 20, aI V 2000 f_106), (y 21, aI V 6 f_107), (y 22, aI V 64 f_108), (y 2, .inr (1, o1_iiiiiirrrrrrriiiii py2_0 py2_1 py2_2 py2_3 py2_4 py2_5 (y 3) (y 4) (y 5) (y 6) (y 7) (y 8) (y 9) py2_13 py2_14 py2_15 py2_16 py2_17))] H := hP
        have hD := cpD hP hD
        refine lv_istore (lv' := [(5, .int r_105), (7, .int u_7), (6, .int u_8), (4, .int u_10), (0, .ref (y 25)), (1, .ref (y 19)), (2, .int a2), (3, .int a3)]) hx hb dX0_follow_69 hl (by decide) rfl (fun ls hl => ?_)
        refine lv_aload_n hx hb dX0_follow_71 rfl (lv_at hl 4 rfl) ?_
        refine lv_dup hx hb dX0_follow_72 rfl ?_
        refine va_get (ci := 0) (v := .int u_11) (C := RX0) (T := TX0) (N := 2) hx hb hg inX0 hown hK hP 0 rfl rfl 1 (by decide) (hg _ q_1_198) (fun _ h9 => h9) rfl dX0_follow_73 ?_
        refine lv_iconst (v := 1) hx hb dX0_follow_76 (by decide) ?_
        refine lv_iadd hx hb dX0_follow_77 ?_
        refine lv_topi (fun x_111 ex_111 => ?_)
        refine va_put (ci := 0) (v := .int x_111) (ty := .int) (C := RX0) (T := TX0) (N := 2) hx hb hg inX0 tyX0 tyX0_ok nmX0 hown hK hP hD hS 0 rfl rfl 1 (by decide) (hg _ q_1_198) (fun _ h9 => h9) rfl (by decide +kernel) rfl rfl (Nat.le_of_ble_eq_true rfl) dX0_follow_78 (fun H locs hP hD hS => ?_)
        have hP : va_P V.1 vwCl [(y 25, .inr (0, [.int py25_0, .int x_111])), (y 3, aI V 4 fy3), (y 9, aI V 900 fy9), (y 19, .inr (4, o4_rrrrrr (y 2) (y 20) (y 21) (y 22) (y 23) (y 24))), (y 20, aI V 2000 f_106), (y 21, aI V 6 f_107), (y 22, aI V 64 f_108), (y 2, .inr (1, o1_iiiiiirrrrrrriiiii py2_0 py2_1 py2_2 py2_3 py2_4 py2_5 (y 3) (y 4) (y 5) (y 6) (y 7) (y 8) (y 9) py2_13 py2_14 py2_15 py2_16 py2_17))] H := hP
        have hD := cpD hP hD
        obtain ⟨x_112, ex_112⟩ : ∃ z9 : Int32, z9 = u_7 + 1 := ⟨_, rfl⟩
        have bx_112 : iv 1 1000000 x_112 := by rw [ex_112]; exact iv_add b_60 (iv_c (1 : Int32) (a := 1) (b := 1) (by decide)) (by decide)
        refine lv_iinc (v := x_112) (lv' := [(7, .int x_112), (5, .int r_105), (6, .int u_8), (4, .int u_10), (0, .ref (y 25)), (1, .ref (y 19)), (2, .int a2), (3, .int a3)]) hx hb dX0_follow_81 hl (k := 1) rfl (by rw [ex_112]; rfl) (by decide) rfl (fun ls hl => ?_)
        refine lv_goto (tgt := 23) hx hb dX0_follow_84 (by decide) ?_
        exact ihn_15 _ _ _ _ (by rw [en_15, ex_112]; exact mu_up b_60 (by decide)) ⟨x_112, u_8, r_105, u_10, x_111, f_106, f_107, f_108, (iv_w bx_112 (by decide)), br_105, bu_10, tf_106, kn_110, rfl, hP, hD, hS, lv_sub hl [0, 2, 1, 3, 4, 5, 6, 7] rfl⟩
      · refine lv_iload hx hb dX0_follow_46 (lv_at hl 2 rfl) ?_
        refine lv_istore (lv' := [(4, .int u_9), (7, .int u_7), (6, .int u_8), (5, .int u_9), (0, .ref (y 25)), (1, .ref (y 19)), (2, .int a2), (3, .int a3)]) hx hb dX0_follow_48 hl (by decide) rfl (fun ls hl => ?_)
        refine lv_iload hx hb dX0_follow_50 (lv_at hl 2 rfl) ?_
        refine lv_iconst (v := 2) hx hb dX0_follow_52 (by decide) ?_
        refine lv_imul hx hb dX0_follow_53 ?_
        refine lv_topi (fun x_113 ex_113 => ?_)
        refine lv_istore (lv' := [(6, .int x_113), (4, .int u_9), (7, .int u_7), (5, .int u_9), (0, .ref (y 25)), (1, .ref (y 19)), (2, .int a2), (3, .int a3)]) hx hb dX0_follow_54 hl (by decide) rfl (fun ls hl => ?_)
        refine lv_aload_n hx hb dX0_follow_56 rfl (lv_at hl 4 rfl) ?_
        refine lv_iconst (v := 0) hx hb dX0_follow_57 (by decide) ?_
        refine va_put (ci := 0) (v := .int 0) (ty := .int) (C := RX0) (T := TX0) (N := 2) hx hb hg inX0 tyX0 tyX0_ok nmX0 hown hK hP hD hS 0 rfl rfl 1 (by decide) (hg _ q_1_198) (fun _ h9 => h9) rfl (by decide +kernel) rfl rfl (Nat.le_of_ble_eq_true rfl) dX0_follow_58 (fun H locs hP hD hS => ?_)
        have hP : va_P V.1 vwCl [(y 25, .inr (0, [.int py25_0, .int 0])), (y 3, aI V 4 fy3), (y 9, aI V 900 fy9), (y 19, .inr (4, o4_rrrrrr (y 2) (y 20) (y 21) (y 22) (y 23) (y 24))), (y 20, aI V 2000 f_12), (y 21, aI V 6 f_13), (y 22, aI V 64 f_14), (y 2, .inr (1, o1_iiiiiirrrrrrriiiii py2_0 py2_1 py2_2 py2_3 py2_4 py2_5 (y 3) (y 4) (y 5) (y 6) (y 7) (y 8) (y 9) py2_13 py2_14 py2_15 py2_16 py2_17))] H := hP
        have hD := cpD hP hD
        refine lv_aload_n hx hb dX0_follow_61 rfl (lv_at hl 5 rfl) ?_
        refine lv_iload hx hb dX0_follow_62 (lv_at hl 3 rfl) ?_
        refine lv_iload_n hx hb dX0_follow_64 rfl (lv_at hl 7 rfl) ?_
        refine lv_iconst (v := 0) hx hb dX0_follow_65 (by decide) ?_
        refine jnI (wr := [(y 25, .inr (0, [.int py25_0, .int 0]))]) (rnV (rest := []) ⟨hx, hb, hml, hown, hg⟩ (k_X4_behind_0 l V y u_9 a3 0 fy3 fy9 f_12 f_13 f_14 py2_0 py2_1 py2_2 py2_3 py2_4 py2_5 py2_13 py2_14 py2_15 py2_16 py2_17 bu_9 ba3 tf_12 bpy2_1 bpy2_2 bpy2_3 bpy2_4 bpy2_5 bpy2_13 bpy2_14 bpy2_15 bpy2_16 bpy2_17) mt_X4_behind q_4_26 ⟨Nat.le_of_ble_eq_true rfl, Nat.le_of_ble_eq_true rfl⟩ hK hP hD hS hA hE [1, 2, 3, 4, 5, 6, 7] rfl rfl 3 rfl rfl rfl rfl hl.1 rfl (Nat.le_of_ble_eq_true rfl) dX0_follow_66 ⟨Nat.le_of_ble_eq_true rfl, Nat.le_of_ble_eq_true rfl⟩) hP hD hS hA [1, 2, 3, 4, 5, 6, 7] [0] rfl rfl rfl (by decide) (fun r_114 w H locs hw hP hD hS => ?_)
        obtain ⟨f_115, f_116, f_117, tf_115, br_114, g_118, rfl⟩ := hw
        have qkn_119 := g_118 D9 hL9 knn_15
        have er_114 : r_114 = bhS D9 u_9 a3 (0 : Int32) (py2_1 : Int32).toNatClampNeg := qkn_119.1
        have kn_119 := qkn_119.2
        have hP : va_P V.1 vwCl [(y 25, .inr (0, [.int py25_0, .int 0])), (y 3, aI V 4 fy3), (y 9, aI V 900 fy9), (y 19, .inr (4, o4_rrrrrr (y 2) (y 20) (y 21) (y 22) (y 23) (y 24))), (y 20, aI V 2000 f_115), (y 21, aI V 6 f_116), (y 22, aI V 64 f_117), (y 2, .inr (1, o1_iiiiiirrrrrrriiiii py2_0 py2_1 py2_2 py2_3 py2_4 py2_5 (y 3) (y 4) (y 5) (y 6) (y 7) (y 8) (y 9) py2_13 py2_14 py2_15 py2_16 py2_17))] H := hP
        have hD := cpD hP hD
        refine lv_istore (lv' := [(5, .int r_114), (6, .int x_113), (4, .int u_9), (7, .int u_7), (0, .ref (y 25)), (1, .ref (y 19)), (2, .int a2), (3, .int a3)]) hx hb dX0_follow_69 hl (by decide) rfl (fun ls hl => ?_)
        refine lv_aload_n hx hb dX0_follow_71 rfl (lv_at hl 4 rfl) ?_
        refine lv_dup hx hb dX0_follow_72 rfl ?_
        refine va_get (ci := 0) (v := .int 0) (C := RX0) (T := TX0) (N := 2) hx hb hg inX0 hown hK hP 0 rfl rfl 1 (by decide) (hg _ q_1_198) (fun _ h9 => h9) rfl dX0_follow_73 ?_
        refine lv_iconst (v := 1) hx hb dX0_follow_76 (by decide) ?_
        refine lv_iadd hx hb dX0_follow_77 ?_
        refine tpi (y := 1) (by decide +kernel) ?_
        refine va_put (ci := 0) (v := .int 1) (ty := .int) (C := RX0) (T := TX0) (N := 2) hx hb hg inX0 tyX0 tyX0_ok nmX0 hown hK hP hD hS 0 rfl rfl 1 (by decide) (hg _ q_1_198) (fun _ h9 => h9) rfl (by decide +kernel) rfl rfl (Nat.le_of_ble_eq_true rfl) dX0_follow_78 (fun H locs hP hD hS => ?_)
        have hP : va_P V.1 vwCl [(y 25, .inr (0, [.int py25_0, .int 1])), (y 3, aI V 4 fy3), (y 9, aI V 900 fy9), (y 19, .inr (4, o4_rrrrrr (y 2) (y 20) (y 21) (y 22) (y 23) (y 24))), (y 20, aI V 2000 f_115), (y 21, aI V 6 f_116), (y 22, aI V 64 f_117), (y 2, .inr (1, o1_iiiiiirrrrrrriiiii py2_0 py2_1 py2_2 py2_3 py2_4 py2_5 (y 3) (y 4) (y 5) (y 6) (y 7) (y 8) (y 9) py2_13 py2_14 py2_15 py2_16 py2_17))] H := hP
        have hD := cpD hP hD
        obtain ⟨x_120, ex_120⟩ : ∃ z9 : Int32, z9 = u_7 + 1 := ⟨_, rfl⟩
        have bx_120 : iv 1 1000000 x_120 := by rw [ex_120]; exact iv_add b_60 (iv_c (1 : Int32) (a := 1) (b := 1) (by decide)) (by decide)
        refine lv_iinc (v := x_120) (lv' := [(7, .int x_120), (5, .int r_114), (6, .int x_113), (4, .int u_9), (0, .ref (y 25)), (1, .ref (y 19)), (2, .int a2), (3, .int a3)]) hx hb dX0_follow_81 hl (k := 3) rfl (by rw [ex_120]; rfl) (by decide) rfl (fun ls hl => ?_)
        refine lv_goto (tgt := 23) hx hb dX0_follow_84 (by decide) ?_
        exact ihn_15 _ _ _ _ (by rw [en_15, ex_120]; exact mu_up b_60 (by decide)) ⟨x_120, x_113, r_114, u_9, 1, f_115, f_116, f_117, (iv_w bx_120 (by decide)), br_114, bu_9, tf_115, kn_119, rfl, hP, hD, hS, lv_sub hl [0, 2, 1, 3, 4, 5, 6, 7] rfl⟩
theorem dX9_lies_0 : decode cX9_lies 0 = .ok (.aload_n 0, 1) := by decide +kernel
theorem dX9_lies_1 : decode cX9_lies 1 = .ok (.iload_n 1, 1) := by decide +kernel
theorem dX9_lies_2 : decode cX9_lies 2 = .ok (.invokevirtual 128, 3) := by decide +kernel
theorem dX9_lies_5 : decode cX9_lies 5 = .ok (.ifCond .ne 6, 3) := by decide +kernel
theorem dX9_lies_8 : decode cX9_lies 8 = .ok (.bipush (-2), 2) := by decide +kernel
theorem dX9_lies_10 : decode cX9_lies 10 = .ok (.ireturn, 1) := by decide +kernel
theorem dX9_lies_11 : decode cX9_lies 11 = .ok (.iload_n 2, 1) := by decide +kernel
theorem dX9_lies_12 : decode cX9_lies 12 = .ok (.ifCond .lt 9, 3) := by decide +kernel
theorem dX9_lies_21 : decode cX9_lies 21 = .ok (.bipush (-3), 2) := by decide +kernel
theorem dX9_lies_23 : decode cX9_lies 23 = .ok (.ireturn, 1) := by decide +kernel
theorem dX9_lies_15 : decode cX9_lies 15 = .ok (.iload_n 2, 1) := by decide +kernel
theorem q_4_21 : Cond.constant "BeaconDelay" 226 (99999 : Int32) ∈ gw := gw_4 (i := 21) (by decide +kernel) rfl
theorem dX9_lies_16 : decode cX9_lies 16 = .ok (.ldc 226, 2) := by decide +kernel
theorem dX9_lies_18 : decode cX9_lies 18 = .ok (.if_icmp .le 6, 3) := by decide +kernel
theorem dX9_lies_24 : decode cX9_lies 24 = .ok (.aload_n 0, 1) := by decide +kernel
theorem q_2_41 : Cond.fieldLink "BeaconDelay" 41 "BeaconDelay" "calm" "LBeaconDelay$Calm;" ∈ gw := gw_2 (i := 41) (by decide +kernel) rfl
theorem dX9_lies_25 : decode cX9_lies 25 = .ok (.getfield 41, 3) := by decide +kernel
theorem dX9_lies_28 : decode cX9_lies 28 = .ok (.aload_n 0, 1) := by decide +kernel
theorem dX9_lies_29 : decode cX9_lies 29 = .ok (.getfield 34, 3) := by decide +kernel
theorem dX9_lies_32 : decode cX9_lies 32 = .ok (.aload_n 0, 1) := by decide +kernel
theorem dX9_lies_33 : decode cX9_lies 33 = .ok (.getfield 113, 3) := by decide +kernel
theorem dX9_lies_36 : decode cX9_lies 36 = .ok (.aload_n 0, 1) := by decide +kernel
theorem dX9_lies_37 : decode cX9_lies 37 = .ok (.getfield 116, 3) := by decide +kernel
theorem q_4_25 : Cond.code yX0_follow prog_2_method_2_code 10 none ∈ gw := gw_4 (i := 25) (rfl) rfl
theorem q_1_5 : Cond.initialized "BeaconDelay$Calm" ∈ gw := gw_1 (i := 5) (by decide +kernel) rfl
theorem q_4_23 : Cond.instanceMethod yX0_follow ∈ gw := gw_4 (i := 23) (by decide +kernel) rfl
theorem q_4_24 : Cond.selects "BeaconDelay$Calm" yX0_follow yX0_follow ∈ gw := gw_4 (i := 24) (by decide +kernel) rfl
theorem mt_X0_follow : MtV yX0_follow cX0_follow 10 none 3 := ⟨⟨q_4_25, q_1_5, by decide +kernel, by decide +kernel, by decide +kernel⟩, q_4_23, q_4_24⟩
theorem q_4_22 : Cond.methodLink "BeaconDelay" 227 yX0_follow ∈ gw := gw_4 (i := 22) (by decide +kernel) rfl
theorem dX9_lies_40 : decode cX9_lies 40 = .ok (.invokevirtual 227, 3) := by decide +kernel
theorem dX9_lies_43 : decode cX9_lies 43 = .ok (.iload_n 2, 1) := by decide +kernel
theorem dX9_lies_44 : decode cX9_lies 44 = .ok (.istore_n 3, 1) := by decide +kernel
theorem dX9_lies_45 : decode cX9_lies 45 = .ok (.iload_n 2, 1) := by decide +kernel
theorem dX9_lies_46 : decode cX9_lies 46 = .ok (.aload_n 0, 1) := by decide +kernel
theorem dX9_lies_47 : decode cX9_lies 47 = .ok (.getfield 41, 3) := by decide +kernel
theorem q_1_197 : Cond.fieldLink "BeaconDelay" 231 "BeaconDelay$Calm" "tail" "I" ∈ gw := gw_1 (i := 197) (by decide +kernel) rfl
theorem dX9_lies_50 : decode cX9_lies 50 = .ok (.getfield 231, 3) := by decide +kernel
theorem dX9_lies_53 : decode cX9_lies 53 = .ok (.if_icmp .le 39, 3) := by decide +kernel
theorem dX9_lies_92 : decode cX9_lies 92 = .ok (.aload_n 0, 1) := by decide +kernel
theorem dX9_lies_93 : decode cX9_lies 93 = .ok (.getfield 113, 3) := by decide +kernel
theorem dX9_lies_96 : decode cX9_lies 96 = .ok (.istore 4, 2) := by decide +kernel
theorem dX9_lies_98 : decode cX9_lies 98 = .ok (.iconst 0, 1) := by decide +kernel
theorem dX9_lies_99 : decode cX9_lies 99 = .ok (.istore 5, 2) := by decide +kernel
theorem dX9_lies_101 : decode cX9_lies 101 = .ok (.iload 5, 2) := by decide +kernel
theorem dX9_lies_103 : decode cX9_lies 103 = .ok (.iload_n 3, 1) := by decide +kernel
theorem dX9_lies_104 : decode cX9_lies 104 = .ok (.if_icmp .ge 25, 3) := by decide +kernel
theorem dX9_lies_129 : decode cX9_lies 129 = .ok (.iload 4, 2) := by decide +kernel
theorem dX9_lies_131 : decode cX9_lies 131 = .ok (.iload_n 1, 1) := by decide +kernel
theorem dX9_lies_132 : decode cX9_lies 132 = .ok (.invokestatic 132, 3) := by decide +kernel
theorem dX9_lies_135 : decode cX9_lies 135 = .ok (.ireturn, 1) := by decide +kernel
theorem dX9_lies_107 : decode cX9_lies 107 = .ok (.aload_n 0, 1) := by decide +kernel
theorem dX9_lies_108 : decode cX9_lies 108 = .ok (.getfield 34, 3) := by decide +kernel
theorem dX9_lies_111 : decode cX9_lies 111 = .ok (.iload 4, 2) := by decide +kernel
theorem dX9_lies_113 : decode cX9_lies 113 = .ok (.aload_n 0, 1) := by decide +kernel
theorem dX9_lies_114 : decode cX9_lies 114 = .ok (.getfield 116, 3) := by decide +kernel
theorem dX9_lies_117 : decode cX9_lies 117 = .ok (.iconst 0, 1) := by decide +kernel
theorem dX9_lies_118 : decode cX9_lies 118 = .ok (.invokevirtual 155, 3) := by decide +kernel
theorem dX9_lies_121 : decode cX9_lies 121 = .ok (.istore 4, 2) := by decide +kernel
theorem dX9_lies_123 : decode cX9_lies 123 = .ok (.iinc 5 1, 3) := by decide +kernel
theorem dX9_lies_126 : decode cX9_lies 126 = .ok (.goto (-25), 3) := by decide +kernel
theorem dX9_lies_56 : decode cX9_lies 56 = .ok (.aload_n 0, 1) := by decide +kernel
theorem dX9_lies_57 : decode cX9_lies 57 = .ok (.getfield 41, 3) := by decide +kernel
theorem q_1_199 : Cond.fieldLink "BeaconDelay" 234 "BeaconDelay$Calm" "period" "I" ∈ gw := gw_1 (i := 199) (by decide +kernel) rfl
theorem dX9_lies_60 : decode cX9_lies 60 = .ok (.getfield 234, 3) := by decide +kernel
theorem dX9_lies_63 : decode cX9_lies 63 = .ok (.ifCond .le 29, 3) := by decide +kernel
theorem dX9_lies_66 : decode cX9_lies 66 = .ok (.aload_n 0, 1) := by decide +kernel
theorem dX9_lies_67 : decode cX9_lies 67 = .ok (.getfield 41, 3) := by decide +kernel
theorem dX9_lies_70 : decode cX9_lies 70 = .ok (.getfield 231, 3) := by decide +kernel
theorem dX9_lies_73 : decode cX9_lies 73 = .ok (.iload_n 2, 1) := by decide +kernel
theorem dX9_lies_74 : decode cX9_lies 74 = .ok (.aload_n 0, 1) := by decide +kernel
theorem dX9_lies_75 : decode cX9_lies 75 = .ok (.getfield 41, 3) := by decide +kernel
theorem dX9_lies_78 : decode cX9_lies 78 = .ok (.getfield 231, 3) := by decide +kernel
theorem dX9_lies_81 : decode cX9_lies 81 = .ok (.isub, 1) := by decide +kernel
theorem dX9_lies_82 : decode cX9_lies 82 = .ok (.aload_n 0, 1) := by decide +kernel
theorem dX9_lies_83 : decode cX9_lies 83 = .ok (.getfield 41, 3) := by decide +kernel
theorem dX9_lies_86 : decode cX9_lies 86 = .ok (.getfield 234, 3) := by decide +kernel
theorem dX9_lies_89 : decode cX9_lies 89 = .ok (.irem, 1) := by decide +kernel
theorem dX9_lies_90 : decode cX9_lies 90 = .ok (.iadd, 1) := by decide +kernel
theorem dX9_lies_91 : decode cX9_lies 91 = .ok (.istore_n 3, 1) := by decide +kernel
set_option maxHeartbeats 4000000 in
set_option maxRecDepth 100000 in
theorem k_X9_lies_0 (l : Launch) (V : GV) (y : Nat → Nat) (D9 : Nat → Int32) (a1 : Int32) (a2 : Int32) (py0_1 : Int32) (o10 : Value) (o11 : Value) (py0_12 : Int32) (py0_13 : Int32) (py0_14 : Int32) (py2_0 : Int32) (py2_1 : Int32) (py2_2 : Int32) (py2_3 : Int32) (py2_4 : Int32) (py2_5 : Int32) (py2_13 : Int32) (py2_14 : Int32) (py2_15 : Int32) (py2_16 : Int32) (py2_17 : Int32) (fy3 : Nat → Int32) (fy9 : Nat → Int32) (fy20 : Nat → Int32) (fy21 : Nat → Int32) (fy22 : Nat → Int32) (py25_0 : Int32) (py25_1 : Int32) (bpy0_1 : iv 0 900 py0_1) (bpy0_12 : iv 0 9999 py0_12) (bpy0_13 : iv 0 9 py0_13) (bpy2_1 : iv 0 4 py2_1) (bpy2_2 : iv 0 4 py2_2) (bpy2_3 : iv 0 8 py2_3) (bpy2_4 : iv 0 9999 py2_4) (bpy2_5 : iv 0 9 py2_5) (bpy2_13 : iv 0 900 py2_13) (bpy2_14 : iv 0 900 py2_14) (bpy2_15 : iv 0 900 py2_15) (bpy2_16 : iv 0 900 py2_16) (bpy2_17 : iv 0 900 py2_17) (tfy20 : ∀ j, iv 0 10 (fy20 j)) (hL9 : LW D9 fy3 fy9 py2_14 py2_15 py2_16 py2_17) (hK9 : KN D9 fy20) : Ct l V yX9_lies (.code yX9_lies cX9_lies 6 (some .int)) 7 [.ref (y 0), .int a1, .int a2] [(y 0, .inr (9, o9_rirrrrrrrrvviii (y 1) py0_1 (y 2) (y 10) (y 19) (y 25) (y 26) (y 30) (y 31) (y 32) o10 o11 py0_12 py0_13 py0_14)), (y 2, .inr (1, o1_iiiiiirrrrrrriiiii py2_0 py2_1 py2_2 py2_3 py2_4 py2_5 (y 3) (y 4) (y 5) (y 6) (y 7) (y 8) (y 9) py2_13 py2_14 py2_15 py2_16 py2_17)), (y 3, aI V 4 fy3), (y 9, aI V 900 fy9), (y 19, .inr (4, o4_rrrrrr (y 2) (y 20) (y 21) (y 22) (y 23) (y 24))), (y 20, aI V 2000 fy20), (y 21, aI V 6 fy21), (y 22, aI V 64 fy22), (y 25, .inr (0, [.int py25_0, .int py25_1]))] 0 0 (QI V (fun (r : Int32) (w : va_W) => ∃ (g0 : Nat → Int32) (g1 : Nat → Int32) (g2 : Nat → Int32) (v3 : Int32) (v4 : Int32), (∀ j, iv 0 10 (g0 j)) ∧ iv (-3) 4 r ∧ KN D9 g0 ∧ w = [(y 0, .inr (9, o9_rirrrrrrrrvviii (y 1) py0_1 (y 2) (y 10) (y 19) (y 25) (y 26) (y 30) (y 31) (y 32) o10 o11 py0_12 py0_13 py0_14)), (y 2, .inr (1, o1_iiiiiirrrrrrriiiii py2_0 py2_1 py2_2 py2_3 py2_4 py2_5 (y 3) (y 4) (y 5) (y 6) (y 7) (y 8) (y 9) py2_13 py2_14 py2_15 py2_16 py2_17)), (y 3, aI V 4 fy3), (y 9, aI V 900 fy9), (y 19, .inr (4, o4_rrrrrr (y 2) (y 20) (y 21) (y 22) (y 23) (y 24))), (y 20, aI V 2000 g0), (y 21, aI V 6 g1), (y 22, aI V 64 g2), (y 25, .inr (0, [.int v3, .int v4]))])) := by
  refine Ct.of (by decide) (Nat.le_of_ble_eq_true rfl) (fun p e s m below meth c A ls hx hb hr hml hown hlk hnm hg hP hK hD hE hA hS hl => ?_)
  have hl : lv_has ls 6 [(0, .ref (y 0)), (1, .int a1), (2, .int a2)] := hl
  refine lv_aload_n hx hb dX9_lies_0 rfl (lv_at hl 0 rfl) ?_
  refine lv_iload_n hx hb dX9_lies_1 rfl (lv_at hl 1 rfl) ?_
  refine jnI (wr := [(y 3, aI V 4 fy3), (y 9, aI V 900 fy9), (y 19, .inr (4, o4_rrrrrr (y 2) (y 20) (y 21) (y 22) (y 23) (y 24))), (y 20, aI V 2000 fy20), (y 21, aI V 6 fy21), (y 22, aI V 64 fy22), (y 25, .inr (0, [.int py25_0, .int py25_1]))]) (rnV (rest := []) ⟨hx, hb, hml, hown, hg⟩ (k_X9_isHill_0 l V y a1 py0_1 o10 o11 py0_12 py0_13 py0_14 py2_0 py2_1 py2_2 py2_3 py2_4 py2_5 py2_13 py2_14 py2_15 py2_16 py2_17 bpy0_1 bpy0_12 bpy0_13 bpy2_1 bpy2_2 bpy2_3 bpy2_4 bpy2_5 bpy2_13 bpy2_14 bpy2_15 bpy2_16 bpy2_17) mt_X9_isHill q_3_122 ⟨Nat.le_of_ble_eq_true rfl, Nat.le_of_ble_eq_true rfl⟩ hK hP hD hS hA hE [0, 1] rfl rfl 0 rfl rfl rfl rfl hl.1 rfl (Nat.le_of_ble_eq_true rfl) dX9_lies_2 ⟨Nat.le_of_ble_eq_true rfl, Nat.le_of_ble_eq_true rfl⟩) hP hD hS hA [0, 1] [2, 3, 4, 5, 6, 7, 8] rfl rfl rfl (by decide) (fun r_1 w H locs hw hP hD hS => ?_)
  rcases hw with ⟨c_2, rfl, et_3, rfl⟩ | ⟨c_4, c_5, rfl, et_6, rfl⟩ | ⟨c_7, c_8, rfl, et_9, rfl⟩
  · have hP : va_P V.1 vwCl [(y 3, aI V 4 fy3), (y 9, aI V 900 fy9), (y 19, .inr (4, o4_rrrrrr (y 2) (y 20) (y 21) (y 22) (y 23) (y 24))), (y 20, aI V 2000 fy20), (y 21, aI V 6 fy21), (y 22, aI V 64 fy22), (y 25, .inr (0, [.int py25_0, .int py25_1])), (y 0, .inr (9, o9_rirrrrrrrrvviii (y 1) py0_1 (y 2) (y 10) (y 19) (y 25) (y 26) (y 30) (y 31) (y 32) o10 o11 py0_12 py0_13 py0_14)), (y 2, .inr (1, o1_iiiiiirrrrrrriiiii py2_0 py2_1 py2_2 py2_3 py2_4 py2_5 (y 3) (y 4) (y 5) (y 6) (y 7) (y 8) (y 9) py2_13 py2_14 py2_15 py2_16 py2_17))] H := hP
    have hD := cpD hP hD
    have b_10 : iv (-2147483648) (-1) a1 := iv_l1 c_2 (iv_top a1) (iv_c (0 : Int32) (a := 0) (b := 0) (by decide)) (by decide)
    refine lv_if_ne (tgt := 11) hx hb dX9_lies_5 (by decide) (fun c_12 => absurd c_12 (by decide)) (fun _ => ?_)
    refine lv_bipush (v := (-2)) hx hb dX9_lies_8 (by decide) ?_
    have hP := subP (ws' := [(y 0, .inr (9, o9_rirrrrrrrrvviii (y 1) py0_1 (y 2) (y 10) (y 19) (y 25) (y 26) (y 30) (y 31) (y 32) o10 o11 py0_12 py0_13 py0_14)), (y 2, .inr (1, o1_iiiiiirrrrrrriiiii py2_0 py2_1 py2_2 py2_3 py2_4 py2_5 (y 3) (y 4) (y 5) (y 6) (y 7) (y 8) (y 9) py2_13 py2_14 py2_15 py2_16 py2_17)), (y 3, aI V 4 fy3), (y 9, aI V 900 fy9), (y 19, .inr (4, o4_rrrrrr (y 2) (y 20) (y 21) (y 22) (y 23) (y 24))), (y 20, aI V 2000 fy20), (y 21, aI V 6 fy21), (y 22, aI V 64 fy22), (y 25, .inr (0, [.int py25_0, .int py25_1]))]) hP [7, 8, 0, 1, 2, 3, 4, 5, 6] rfl
    have hD := subD hP hD [7, 8, 0, 1, 2, 3, 4, 5, 6] rfl rfl
    exact fiI hx hb hr hlk hK hP hD hS dX9_lies_10 (Nat.le_of_ble_eq_true rfl) (Nat.le_of_ble_eq_true rfl) (⟨fy20, fy21, fy22, py25_0, py25_1, tfy20, (iv_c ((-2) : Int32) (by decide)), hK9, rfl⟩)
  · have hP : va_P V.1 vwCl [(y 3, aI V 4 fy3), (y 9, aI V 900 fy9), (y 19, .inr (4, o4_rrrrrr (y 2) (y 20) (y 21) (y 22) (y 23) (y 24))), (y 20, aI V 2000 fy20), (y 21, aI V 6 fy21), (y 22, aI V 64 fy22), (y 25, .inr (0, [.int py25_0, .int py25_1])), (y 0, .inr (9, o9_rirrrrrrrrvviii (y 1) py0_1 (y 2) (y 10) (y 19) (y 25) (y 26) (y 30) (y 31) (y 32) o10 o11 py0_12 py0_13 py0_14)), (y 2, .inr (1, o1_iiiiiirrrrrrriiiii py2_0 py2_1 py2_2 py2_3 py2_4 py2_5 (y 3) (y 4) (y 5) (y 6) (y 7) (y 8) (y 9) py2_13 py2_14 py2_15 py2_16 py2_17))] H := hP
    have hD := cpD hP hD
    have b_13 : iv 0 2147483647 a1 := iv_e2 (Int32.not_lt.mp c_4) (iv_c (0 : Int32) (a := 0) (b := 0) (by decide)) (iv_top a1) (by decide)
    refine lv_if_ne (tgt := 11) hx hb dX9_lies_5 (by decide) (fun c_15 => absurd c_15 (by decide)) (fun _ => ?_)
    refine lv_bipush (v := (-2)) hx hb dX9_lies_8 (by decide) ?_
    have hP := subP (ws' := [(y 0, .inr (9, o9_rirrrrrrrrvviii (y 1) py0_1 (y 2) (y 10) (y 19) (y 25) (y 26) (y 30) (y 31) (y 32) o10 o11 py0_12 py0_13 py0_14)), (y 2, .inr (1, o1_iiiiiirrrrrrriiiii py2_0 py2_1 py2_2 py2_3 py2_4 py2_5 (y 3) (y 4) (y 5) (y 6) (y 7) (y 8) (y 9) py2_13 py2_14 py2_15 py2_16 py2_17)), (y 3, aI V 4 fy3), (y 9, aI V 900 fy9), (y 19, .inr (4, o4_rrrrrr (y 2) (y 20) (y 21) (y 22) (y 23) (y 24))), (y 20, aI V 2000 fy20), (y 21, aI V 6 fy21), (y 22, aI V 64 fy22), (y 25, .inr (0, [.int py25_0, .int py25_1]))]) hP [7, 8, 0, 1, 2, 3, 4, 5, 6] rfl
    have hD := subD hP hD [7, 8, 0, 1, 2, 3, 4, 5, 6] rfl rfl
    exact fiI hx hb hr hlk hK hP hD hS dX9_lies_10 (Nat.le_of_ble_eq_true rfl) (Nat.le_of_ble_eq_true rfl) (⟨fy20, fy21, fy22, py25_0, py25_1, tfy20, (iv_c ((-2) : Int32) (by decide)), hK9, rfl⟩)
  · have hP : va_P V.1 vwCl [(y 3, aI V 4 fy3), (y 9, aI V 900 fy9), (y 19, .inr (4, o4_rrrrrr (y 2) (y 20) (y 21) (y 22) (y 23) (y 24))), (y 20, aI V 2000 fy20), (y 21, aI V 6 fy21), (y 22, aI V 64 fy22), (y 25, .inr (0, [.int py25_0, .int py25_1])), (y 0, .inr (9, o9_rirrrrrrrrvviii (y 1) py0_1 (y 2) (y 10) (y 19) (y 25) (y 26) (y 30) (y 31) (y 32) o10 o11 py0_12 py0_13 py0_14)), (y 2, .inr (1, o1_iiiiiirrrrrrriiiii py2_0 py2_1 py2_2 py2_3 py2_4 py2_5 (y 3) (y 4) (y 5) (y 6) (y 7) (y 8) (y 9) py2_13 py2_14 py2_15 py2_16 py2_17))] H := hP
    have hD := cpD hP hD
    have b_16 : iv 0 2147483647 a1 := iv_e2 (Int32.not_lt.mp c_7) (iv_c (0 : Int32) (a := 0) (b := 0) (by decide)) (iv_top a1) (by decide)
    have b_17 : iv 0 3 a1 := iv_l1 (Int32.not_le.mp c_8) b_16 bpy2_1 (by decide)
    have b_18 : iv 1 4 py2_1 := iv_l2 (Int32.not_le.mp c_8) b_16 bpy2_1 (by decide)
    refine lv_if_ne (tgt := 11) hx hb dX9_lies_5 (by decide) (fun _ => ?_) (fun c_20 => absurd c_20 (by decide))
    refine lv_iload_n hx hb dX9_lies_11 rfl (lv_at hl 2 rfl) ?_
    refine lv_if_lt (tgt := 21) hx hb dX9_lies_12 (by decide) (fun c_21 => ?_) (fun c_21 => ?_)
    · have b_22 : iv (-2147483648) (-1) a2 := iv_l1 c_21 (iv_top a2) (iv_c (0 : Int32) (a := 0) (b := 0) (by decide)) (by decide)
      refine lv_bipush (v := (-3)) hx hb dX9_lies_21 (by decide) ?_
      have hP := subP (ws' := [(y 0, .inr (9, o9_rirrrrrrrrvviii (y 1) py0_1 (y 2) (y 10) (y 19) (y 25) (y 26) (y 30) (y 31) (y 32) o10 o11 py0_12 py0_13 py0_14)), (y 2, .inr (1, o1_iiiiiirrrrrrriiiii py2_0 py2_1 py2_2 py2_3 py2_4 py2_5 (y 3) (y 4) (y 5) (y 6) (y 7) (y 8) (y 9) py2_13 py2_14 py2_15 py2_16 py2_17)), (y 3, aI V 4 fy3), (y 9, aI V 900 fy9), (y 19, .inr (4, o4_rrrrrr (y 2) (y 20) (y 21) (y 22) (y 23) (y 24))), (y 20, aI V 2000 fy20), (y 21, aI V 6 fy21), (y 22, aI V 64 fy22), (y 25, .inr (0, [.int py25_0, .int py25_1]))]) hP [7, 8, 0, 1, 2, 3, 4, 5, 6] rfl
      have hD := subD hP hD [7, 8, 0, 1, 2, 3, 4, 5, 6] rfl rfl
      exact fiI hx hb hr hlk hK hP hD hS dX9_lies_23 (Nat.le_of_ble_eq_true rfl) (Nat.le_of_ble_eq_true rfl) (⟨fy20, fy21, fy22, py25_0, py25_1, tfy20, (iv_c ((-3) : Int32) (by decide)), hK9, rfl⟩)
    · have b_23 : iv 0 2147483647 a2 := iv_e2 (Int32.not_lt.mp c_21) (iv_c (0 : Int32) (a := 0) (b := 0) (by decide)) (iv_top a2) (by decide)
      refine lv_iload_n hx hb dX9_lies_15 rfl (lv_at hl 2 rfl) ?_
      refine lv_ldc (v := 99999) hx hb hown (hg _ q_4_21) dX9_lies_16 ?_
      refine lv_icmp_le (tgt := 24) hx hb dX9_lies_18 (by decide) (fun c_24 => ?_) (fun c_24 => ?_)
      · have b_25 : iv 0 99999 a2 := iv_e1 c_24 b_23 (iv_c (99999 : Int32) (a := 99999) (b := 99999) (by decide)) (by decide)
        refine lv_aload_n hx hb dX9_lies_24 rfl (lv_at hl 0 rfl) ?_
        refine va_get (ci := 9) (v := .ref (y 25)) (C := RX9) (T := TX9) (N := 15) hx hb hg inX9 hown hK hP 7 rfl rfl 5 (by decide) (hg _ q_2_41) (fun _ h9 => h9) rfl dX9_lies_25 ?_
        refine lv_aload_n hx hb dX9_lies_28 rfl (lv_at hl 0 rfl) ?_
        refine va_get (ci := 9) (v := .ref (y 19)) (C := RX9) (T := TX9) (N := 15) hx hb hg inX9 hown hK hP 7 rfl rfl 4 (by decide) (hg _ q_2_40) (fun _ h9 => h9) rfl dX9_lies_29 ?_
        refine lv_aload_n hx hb dX9_lies_32 rfl (lv_at hl 0 rfl) ?_
        refine va_get (ci := 9) (v := .int py0_12) (C := RX9) (T := TX9) (N := 15) hx hb hg inX9 hown hK hP 7 rfl rfl 12 (by decide) (hg _ q_2_48) (fun _ h9 => h9) rfl dX9_lies_33 ?_
        refine lv_aload_n hx hb dX9_lies_36 rfl (lv_at hl 0 rfl) ?_
        refine va_get (ci := 9) (v := .int py0_13) (C := RX9) (T := TX9) (N := 15) hx hb hg inX9 hown hK hP 7 rfl rfl 13 (by decide) (hg _ q_2_49) (fun _ h9 => h9) rfl dX9_lies_37 ?_
        refine jnV (wr := [(y 0, .inr (9, o9_rirrrrrrrrvviii (y 1) py0_1 (y 2) (y 10) (y 19) (y 25) (y 26) (y 30) (y 31) (y 32) o10 o11 py0_12 py0_13 py0_14))]) (rnV (rest := []) ⟨hx, hb, hml, hown, hg⟩ (k_X0_follow_0 l V y D9 py0_12 py0_13 fy3 fy9 fy20 fy21 fy22 py25_0 py25_1 py2_0 py2_1 py2_2 py2_3 py2_4 py2_5 py2_13 py2_14 py2_15 py2_16 py2_17 bpy0_12 bpy0_13 tfy20 (iv_w b_18 (by decide)) bpy2_2 bpy2_3 bpy2_4 bpy2_5 bpy2_13 bpy2_14 bpy2_15 bpy2_16 bpy2_17 hL9 hK9) mt_X0_follow q_4_22 ⟨Nat.le_of_ble_eq_true rfl, Nat.le_of_ble_eq_true rfl⟩ hK hP hD hS hA hE [0, 1, 2, 3, 4, 5, 6, 8] rfl rfl 6 rfl rfl rfl rfl hl.1 rfl (Nat.le_of_ble_eq_true rfl) dX9_lies_40 ⟨Nat.le_of_ble_eq_true rfl, Nat.le_of_ble_eq_true rfl⟩) hP hD hS hA [0, 1, 2, 3, 4, 5, 6, 8] [7] rfl rfl rfl (by decide) (fun  w H locs hw hP hD hS => ?_)
        obtain ⟨f_26, f_27, f_28, v_29, v_30, tf_26, kn_31, rfl⟩ := hw
        have hP : va_P V.1 vwCl [(y 0, .inr (9, o9_rirrrrrrrrvviii (y 1) py0_1 (y 2) (y 10) (y 19) (y 25) (y 26) (y 30) (y 31) (y 32) o10 o11 py0_12 py0_13 py0_14)), (y 3, aI V 4 fy3), (y 9, aI V 900 fy9), (y 19, .inr (4, o4_rrrrrr (y 2) (y 20) (y 21) (y 22) (y 23) (y 24))), (y 20, aI V 2000 f_26), (y 21, aI V 6 f_27), (y 22, aI V 64 f_28), (y 25, .inr (0, [.int v_29, .int v_30])), (y 2, .inr (1, o1_iiiiiirrrrrrriiiii py2_0 py2_1 py2_2 py2_3 py2_4 py2_5 (y 3) (y 4) (y 5) (y 6) (y 7) (y 8) (y 9) py2_13 py2_14 py2_15 py2_16 py2_17))] H := hP
        have hD := cpD hP hD
        refine lv_iload_n hx hb dX9_lies_43 rfl (lv_at hl 2 rfl) ?_
        refine lv_istore_n (lv' := [(3, .int a2), (0, .ref (y 0)), (1, .int a1), (2, .int a2)]) hx hb dX9_lies_44 rfl hl (by decide) rfl (fun ls hl => ?_)
        refine lv_iload_n hx hb dX9_lies_45 rfl (lv_at hl 3 rfl) ?_
        refine lv_aload_n hx hb dX9_lies_46 rfl (lv_at hl 1 rfl) ?_
        refine va_get (ci := 9) (v := .ref (y 25)) (C := RX9) (T := TX9) (N := 15) hx hb hg inX9 hown hK hP 0 rfl rfl 5 (by decide) (hg _ q_2_41) (fun _ h9 => h9) rfl dX9_lies_47 ?_
        refine va_get (ci := 0) (v := .int v_29) (C := RX0) (T := TX0) (N := 2) hx hb hg inX0 hown hK hP 7 rfl rfl 0 (by decide) (hg _ q_1_197) (fun _ h9 => h9) rfl dX9_lies_50 ?_
        refine lv_icmp_le (tgt := 92) hx hb dX9_lies_53 (by decide) (fun c_32 => ?_) (fun c_32 => ?_)
        · have b_33 : iv 0 2147483647 v_29 := iv_e2 c_32 b_25 (iv_top v_29) (by decide)
          refine lv_aload_n hx hb dX9_lies_92 rfl (lv_at hl 1 rfl) ?_
          refine va_get (ci := 9) (v := .int py0_12) (C := RX9) (T := TX9) (N := 15) hx hb hg inX9 hown hK hP 0 rfl rfl 12 (by decide) (hg _ q_2_48) (fun _ h9 => h9) rfl dX9_lies_93 ?_
          refine lv_istore (lv' := [(4, .int py0_12), (3, .int a2), (0, .ref (y 0)), (1, .int a1), (2, .int a2)]) hx hb dX9_lies_96 hl (by decide) rfl (fun ls hl => ?_)
          refine lv_iconst (v := 0) hx hb dX9_lies_98 (by decide) ?_
          refine lv_istore (lv' := [(5, .int 0), (4, .int py0_12), (3, .int a2), (0, .ref (y 0)), (1, .int a1), (2, .int a2)]) hx hb dX9_lies_99 hl (by decide) rfl (fun ls hl => ?_)
          refine loopF (X := fun (n_39 : Nat) (H : Heap) (locs : List Loc) (ls : Array Slot) => ∃ (u_34 : Int32) (u_35 : Int32) (f_36 : Nat → Int32) (f_37 : Nat → Int32) (f_38 : Nat → Int32), (iv 0 2147483647 u_34) ∧ (iv 0 9999 u_35) ∧ (∀ j, iv 0 10 (f_36 j)) ∧ KN D9 f_36 ∧ n_39 = (2147483647 - (u_34 : Int32).toInt).toNat ∧ va_P V.1 vwCl [(y 0, .inr (9, o9_rirrrrrrrrvviii (y 1) py0_1 (y 2) (y 10) (y 19) (y 25) (y 26) (y 30) (y 31) (y 32) o10 o11 py0_12 py0_13 py0_14)), (y 3, aI V 4 fy3), (y 9, aI V 900 fy9), (y 19, .inr (4, o4_rrrrrr (y 2) (y 20) (y 21) (y 22) (y 23) (y 24))), (y 20, aI V 2000 f_36), (y 21, aI V 6 f_37), (y 22, aI V 64 f_38), (y 25, .inr (0, [.int v_29, .int v_30])), (y 2, .inr (1, o1_iiiiiirrrrrrriiiii py2_0 py2_1 py2_2 py2_3 py2_4 py2_5 (y 3) (y 4) (y 5) (y 6) (y 7) (y 8) (y 9) py2_13 py2_14 py2_15 py2_16 py2_17))] H ∧ va_D A [(y 0, .inr (9, o9_rirrrrrrrrvviii (y 1) py0_1 (y 2) (y 10) (y 19) (y 25) (y 26) (y 30) (y 31) (y 32) o10 o11 py0_12 py0_13 py0_14)), (y 3, aI V 4 fy3), (y 9, aI V 900 fy9), (y 19, .inr (4, o4_rrrrrr (y 2) (y 20) (y 21) (y 22) (y 23) (y 24))), (y 20, aI V 2000 f_36), (y 21, aI V 6 f_37), (y 22, aI V 64 f_38), (y 25, .inr (0, [.int v_29, .int v_30])), (y 2, .inr (1, o1_iiiiiirrrrrrriiiii py2_0 py2_1 py2_2 py2_3 py2_4 py2_5 (y 3) (y 4) (y 5) (y 6) (y 7) (y 8) (y 9) py2_13 py2_14 py2_15 py2_16 py2_17))] ∧ va_S A s.heap H locs ∧ lv_has ls 6 [(5, .int u_34), (4, .int u_35), (3, .int a2), (0, .ref (y 0)), (1, .int a1), (2, .int a2)]) (g := fun ls => F0 m 101 ls []) (fun n_39 H locs ls hX ihn_39 => ?_) _ ⟨0, py0_12, f_26, f_27, f_28, (iv_c (0 : Int32) (by decide)), bpy0_12, tf_26, kn_31, rfl, hP, hD, hS, lv_sub hl [0, 1, 2, 3, 4, 5] rfl⟩
          obtain ⟨u_34, u_35, f_36, f_37, f_38, bu_34, bu_35, tf_36, knn_39, en_39, hP, hD, hS, hl⟩ := hX
          refine lv_iload hx hb dX9_lies_101 (lv_at hl 0 rfl) ?_
          refine lv_iload_n hx hb dX9_lies_103 rfl (lv_at hl 2 rfl) ?_
          refine lv_icmp_ge (tgt := 129) hx hb dX9_lies_104 (by decide) (fun c_40 => ?_) (fun c_40 => ?_)
          · refine lv_iload hx hb dX9_lies_129 (lv_at hl 1 rfl) ?_
            refine lv_iload_n hx hb dX9_lies_131 rfl (lv_at hl 4 rfl) ?_
            refine jnI (wr := [(y 0, .inr (9, o9_rirrrrrrrrvviii (y 1) py0_1 (y 2) (y 10) (y 19) (y 25) (y 26) (y 30) (y 31) (y 32) o10 o11 py0_12 py0_13 py0_14)), (y 3, aI V 4 fy3), (y 9, aI V 900 fy9), (y 19, .inr (4, o4_rrrrrr (y 2) (y 20) (y 21) (y 22) (y 23) (y 24))), (y 20, aI V 2000 f_36), (y 21, aI V 6 f_37), (y 22, aI V 64 f_38), (y 25, .inr (0, [.int v_29, .int v_30])), (y 2, .inr (1, o1_iiiiiirrrrrrriiiii py2_0 py2_1 py2_2 py2_3 py2_4 py2_5 (y 3) (y 4) (y 5) (y 6) (y 7) (y 8) (y 9) py2_13 py2_14 py2_15 py2_16 py2_17))]) (rnS (rest := []) ⟨hx, hb, hml, hown, hg⟩ (k_X9_stackIn_0 l V u_35 a1 bu_35 (iv_w b_17 (by decide))) mt_X9_stackIn q_3_126 ⟨Nat.le_of_ble_eq_true rfl, Nat.le_of_ble_eq_true rfl⟩ hK hP hD hS hA hE [] rfl rfl rfl hl.1 rfl (Nat.le_of_ble_eq_true rfl) dX9_lies_132 ⟨Nat.le_of_ble_eq_true rfl, Nat.le_of_ble_eq_true rfl⟩) hP hD hS hA [] [0, 1, 2, 3, 4, 5, 6, 7, 8] rfl rfl rfl (by decide) (fun r_41 w H locs hw hP hD hS => ?_)
            obtain ⟨br_41, er_41, et_42, rfl⟩ := hw
            have hP : va_P V.1 vwCl [(y 0, .inr (9, o9_rirrrrrrrrvviii (y 1) py0_1 (y 2) (y 10) (y 19) (y 25) (y 26) (y 30) (y 31) (y 32) o10 o11 py0_12 py0_13 py0_14)), (y 3, aI V 4 fy3), (y 9, aI V 900 fy9), (y 19, .inr (4, o4_rrrrrr (y 2) (y 20) (y 21) (y 22) (y 23) (y 24))), (y 20, aI V 2000 f_36), (y 21, aI V 6 f_37), (y 22, aI V 64 f_38), (y 25, .inr (0, [.int v_29, .int v_30])), (y 2, .inr (1, o1_iiiiiirrrrrrriiiii py2_0 py2_1 py2_2 py2_3 py2_4 py2_5 (y 3) (y 4) (y 5) (y 6) (y 7) (y 8) (y 9) py2_13 py2_14 py2_15 py2_16 py2_17))] H := hP
            have hD := cpD hP hD
            have hP := subP (ws' := [(y 0, .inr (9, o9_rirrrrrrrrvviii (y 1) py0_1 (y 2) (y 10) (y 19) (y 25) (y 26) (y 30) (y 31) (y 32) o10 o11 py0_12 py0_13 py0_14)), (y 2, .inr (1, o1_iiiiiirrrrrrriiiii py2_0 py2_1 py2_2 py2_3 py2_4 py2_5 (y 3) (y 4) (y 5) (y 6) (y 7) (y 8) (y 9) py2_13 py2_14 py2_15 py2_16 py2_17)), (y 3, aI V 4 fy3), (y 9, aI V 900 fy9), (y 19, .inr (4, o4_rrrrrr (y 2) (y 20) (y 21) (y 22) (y 23) (y 24))), (y 20, aI V 2000 f_36), (y 21, aI V 6 f_37), (y 22, aI V 64 f_38), (y 25, .inr (0, [.int v_29, .int v_30]))]) hP [0, 8, 1, 2, 3, 4, 5, 6, 7] rfl
            have hD := subD hP hD [0, 8, 1, 2, 3, 4, 5, 6, 7] rfl rfl
            exact fiI hx hb hr hlk hK hP hD hS dX9_lies_135 (Nat.le_of_ble_eq_true rfl) (Nat.le_of_ble_eq_true rfl) (⟨f_36, f_37, f_38, v_29, v_30, tf_36, (iv_w br_41 (by decide)), knn_39, rfl⟩)
          · have b_43 : iv 0 99998 u_34 := iv_l1 (Int32.not_le.mp c_40) bu_34 b_25 (by decide)
            have b_44 : iv 1 99999 a2 := iv_l2 (Int32.not_le.mp c_40) bu_34 b_25 (by decide)
            refine lv_aload_n hx hb dX9_lies_107 rfl (lv_at hl 3 rfl) ?_
            refine va_get (ci := 9) (v := .ref (y 19)) (C := RX9) (T := TX9) (N := 15) hx hb hg inX9 hown hK hP 0 rfl rfl 4 (by decide) (hg _ q_2_40) (fun _ h9 => h9) rfl dX9_lies_108 ?_
            refine lv_iload hx hb dX9_lies_111 (lv_at hl 1 rfl) ?_
            refine lv_aload_n hx hb dX9_lies_113 rfl (lv_at hl 3 rfl) ?_
            refine va_get (ci := 9) (v := .int py0_13) (C := RX9) (T := TX9) (N := 15) hx hb hg inX9 hown hK hP 0 rfl rfl 13 (by decide) (hg _ q_2_49) (fun _ h9 => h9) rfl dX9_lies_114 ?_
            refine lv_iconst (v := 0) hx hb dX9_lies_117 (by decide) ?_
            refine jnI (wr := [(y 0, .inr (9, o9_rirrrrrrrrvviii (y 1) py0_1 (y 2) (y 10) (y 19) (y 25) (y 26) (y 30) (y 31) (y 32) o10 o11 py0_12 py0_13 py0_14)), (y 25, .inr (0, [.int v_29, .int v_30]))]) (rnV (rest := []) ⟨hx, hb, hml, hown, hg⟩ (k_X4_behind_0 l V y u_35 py0_13 0 fy3 fy9 f_36 f_37 f_38 py2_0 py2_1 py2_2 py2_3 py2_4 py2_5 py2_13 py2_14 py2_15 py2_16 py2_17 bu_35 bpy0_13 tf_36 (iv_w b_18 (by decide)) bpy2_2 bpy2_3 bpy2_4 bpy2_5 bpy2_13 bpy2_14 bpy2_15 bpy2_16 bpy2_17) mt_X4_behind q_3_145 ⟨Nat.le_of_ble_eq_true rfl, Nat.le_of_ble_eq_true rfl⟩ hK hP hD hS hA hE [1, 2, 3, 4, 5, 6, 8] rfl rfl 3 rfl rfl rfl rfl hl.1 rfl (Nat.le_of_ble_eq_true rfl) dX9_lies_118 ⟨Nat.le_of_ble_eq_true rfl, Nat.le_of_ble_eq_true rfl⟩) hP hD hS hA [1, 2, 3, 4, 5, 6, 8] [0, 7] rfl rfl rfl (by decide) (fun r_45 w H locs hw hP hD hS => ?_)
            obtain ⟨f_46, f_47, f_48, tf_46, br_45, g_49, rfl⟩ := hw
            have qkn_50 := g_49 D9 hL9 knn_39
            have er_45 : r_45 = bhS D9 u_35 py0_13 (0 : Int32) (py2_1 : Int32).toNatClampNeg := qkn_50.1
            have kn_50 := qkn_50.2
            have hP : va_P V.1 vwCl [(y 0, .inr (9, o9_rirrrrrrrrvviii (y 1) py0_1 (y 2) (y 10) (y 19) (y 25) (y 26) (y 30) (y 31) (y 32) o10 o11 py0_12 py0_13 py0_14)), (y 25, .inr (0, [.int v_29, .int v_30])), (y 3, aI V 4 fy3), (y 9, aI V 900 fy9), (y 19, .inr (4, o4_rrrrrr (y 2) (y 20) (y 21) (y 22) (y 23) (y 24))), (y 20, aI V 2000 f_46), (y 21, aI V 6 f_47), (y 22, aI V 64 f_48), (y 2, .inr (1, o1_iiiiiirrrrrrriiiii py2_0 py2_1 py2_2 py2_3 py2_4 py2_5 (y 3) (y 4) (y 5) (y 6) (y 7) (y 8) (y 9) py2_13 py2_14 py2_15 py2_16 py2_17))] H := hP
            have hD := cpD hP hD
            refine lv_istore (lv' := [(4, .int r_45), (5, .int u_34), (3, .int a2), (0, .ref (y 0)), (1, .int a1), (2, .int a2)]) hx hb dX9_lies_121 hl (by decide) rfl (fun ls hl => ?_)
            obtain ⟨x_51, ex_51⟩ : ∃ z9 : Int32, z9 = u_34 + 1 := ⟨_, rfl⟩
            have bx_51 : iv 1 99999 x_51 := by rw [ex_51]; exact iv_add b_43 (iv_c (1 : Int32) (a := 1) (b := 1) (by decide)) (by decide)
            refine lv_iinc (v := x_51) (lv' := [(5, .int x_51), (4, .int r_45), (3, .int a2), (0, .ref (y 0)), (1, .int a1), (2, .int a2)]) hx hb dX9_lies_123 hl (k := 1) rfl (by rw [ex_51]; rfl) (by decide) rfl (fun ls hl => ?_)
            refine lv_goto (tgt := 101) hx hb dX9_lies_126 (by decide) ?_
            have hP := subP (ws' := [(y 0, .inr (9, o9_rirrrrrrrrvviii (y 1) py0_1 (y 2) (y 10) (y 19) (y 25) (y 26) (y 30) (y 31) (y 32) o10 o11 py0_12 py0_13 py0_14)), (y 3, aI V 4 fy3), (y 9, aI V 900 fy9), (y 19, .inr (4, o4_rrrrrr (y 2) (y 20) (y 21) (y 22) (y 23) (y 24))), (y 20, aI V 2000 f_46), (y 21, aI V 6 f_47), (y 22, aI V 64 f_48), (y 25, .inr (0, [.int v_29, .int v_30])), (y 2, .inr (1, o1_iiiiiirrrrrrriiiii py2_0 py2_1 py2_2 py2_3 py2_4 py2_5 (y 3) (y 4) (y 5) (y 6) (y 7) (y 8) (y 9) py2_13 py2_14 py2_15 py2_16 py2_17))]) hP [0, 2, 3, 4, 5, 6, 7, 1, 8] rfl
            have hD := subD hP hD [0, 2, 3, 4, 5, 6, 7, 1, 8] rfl rfl
            exact ihn_39 _ _ _ _ (by rw [en_39, ex_51]; exact mu_up b_43 (by decide)) ⟨x_51, r_45, f_46, f_47, f_48, (iv_w bx_51 (by decide)), br_45, tf_46, kn_50, rfl, hP, hD, hS, lv_sub hl [0, 1, 2, 3, 4, 5] rfl⟩
        · have b_52 : iv (-2147483648) 99998 v_29 := iv_l1 (Int32.not_le.mp c_32) (iv_top v_29) b_25 (by decide)
          refine lv_aload_n hx hb dX9_lies_56 rfl (lv_at hl 1 rfl) ?_
          refine va_get (ci := 9) (v := .ref (y 25)) (C := RX9) (T := TX9) (N := 15) hx hb hg inX9 hown hK hP 0 rfl rfl 5 (by decide) (hg _ q_2_41) (fun _ h9 => h9) rfl dX9_lies_57 ?_
          refine va_get (ci := 0) (v := .int v_30) (C := RX0) (T := TX0) (N := 2) hx hb hg inX0 hown hK hP 7 rfl rfl 1 (by decide) (hg _ q_1_199) (fun _ h9 => h9) rfl dX9_lies_60 ?_
          refine lv_if_le (tgt := 92) hx hb dX9_lies_63 (by decide) (fun c_53 => ?_) (fun c_53 => ?_)
          · have b_54 : iv (-2147483648) 0 v_30 := iv_e1 c_53 (iv_top v_30) (iv_c (0 : Int32) (a := 0) (b := 0) (by decide)) (by decide)
            refine lv_aload_n hx hb dX9_lies_92 rfl (lv_at hl 1 rfl) ?_
            refine va_get (ci := 9) (v := .int py0_12) (C := RX9) (T := TX9) (N := 15) hx hb hg inX9 hown hK hP 0 rfl rfl 12 (by decide) (hg _ q_2_48) (fun _ h9 => h9) rfl dX9_lies_93 ?_
            refine lv_istore (lv' := [(4, .int py0_12), (3, .int a2), (0, .ref (y 0)), (1, .int a1), (2, .int a2)]) hx hb dX9_lies_96 hl (by decide) rfl (fun ls hl => ?_)
            refine lv_iconst (v := 0) hx hb dX9_lies_98 (by decide) ?_
            refine lv_istore (lv' := [(5, .int 0), (4, .int py0_12), (3, .int a2), (0, .ref (y 0)), (1, .int a1), (2, .int a2)]) hx hb dX9_lies_99 hl (by decide) rfl (fun ls hl => ?_)
            refine loopF (X := fun (n_60 : Nat) (H : Heap) (locs : List Loc) (ls : Array Slot) => ∃ (u_55 : Int32) (u_56 : Int32) (f_57 : Nat → Int32) (f_58 : Nat → Int32) (f_59 : Nat → Int32), (iv 0 2147483647 u_55) ∧ (iv 0 9999 u_56) ∧ (∀ j, iv 0 10 (f_57 j)) ∧ KN D9 f_57 ∧ n_60 = (2147483647 - (u_55 : Int32).toInt).toNat ∧ va_P V.1 vwCl [(y 0, .inr (9, o9_rirrrrrrrrvviii (y 1) py0_1 (y 2) (y 10) (y 19) (y 25) (y 26) (y 30) (y 31) (y 32) o10 o11 py0_12 py0_13 py0_14)), (y 3, aI V 4 fy3), (y 9, aI V 900 fy9), (y 19, .inr (4, o4_rrrrrr (y 2) (y 20) (y 21) (y 22) (y 23) (y 24))), (y 20, aI V 2000 f_57), (y 21, aI V 6 f_58), (y 22, aI V 64 f_59), (y 25, .inr (0, [.int v_29, .int v_30])), (y 2, .inr (1, o1_iiiiiirrrrrrriiiii py2_0 py2_1 py2_2 py2_3 py2_4 py2_5 (y 3) (y 4) (y 5) (y 6) (y 7) (y 8) (y 9) py2_13 py2_14 py2_15 py2_16 py2_17))] H ∧ va_D A [(y 0, .inr (9, o9_rirrrrrrrrvviii (y 1) py0_1 (y 2) (y 10) (y 19) (y 25) (y 26) (y 30) (y 31) (y 32) o10 o11 py0_12 py0_13 py0_14)), (y 3, aI V 4 fy3), (y 9, aI V 900 fy9), (y 19, .inr (4, o4_rrrrrr (y 2) (y 20) (y 21) (y 22) (y 23) (y 24))), (y 20, aI V 2000 f_57), (y 21, aI V 6 f_58), (y 22, aI V 64 f_59), (y 25, .inr (0, [.int v_29, .int v_30])), (y 2, .inr (1, o1_iiiiiirrrrrrriiiii py2_0 py2_1 py2_2 py2_3 py2_4 py2_5 (y 3) (y 4) (y 5) (y 6) (y 7) (y 8) (y 9) py2_13 py2_14 py2_15 py2_16 py2_17))] ∧ va_S A s.heap H locs ∧ lv_has ls 6 [(5, .int u_55), (4, .int u_56), (3, .int a2), (0, .ref (y 0)), (1, .int a1), (2, .int a2)]) (g := fun ls => F0 m 101 ls []) (fun n_60 H locs ls hX ihn_60 => ?_) _ ⟨0, py0_12, f_26, f_27, f_28, (iv_c (0 : Int32) (by decide)), bpy0_12, tf_26, kn_31, rfl, hP, hD, hS, lv_sub hl [0, 1, 2, 3, 4, 5] rfl⟩
            obtain ⟨u_55, u_56, f_57, f_58, f_59, bu_55, bu_56, tf_57, knn_60, en_60, hP, hD, hS, hl⟩ := hX
            refine lv_iload hx hb dX9_lies_101 (lv_at hl 0 rfl) ?_
            refine lv_iload_n hx hb dX9_lies_103 rfl (lv_at hl 2 rfl) ?_
            refine lv_icmp_ge (tgt := 129) hx hb dX9_lies_104 (by decide) (fun c_61 => ?_) (fun c_61 => ?_)
            · refine lv_iload hx hb dX9_lies_129 (lv_at hl 1 rfl) ?_
              refine lv_iload_n hx hb dX9_lies_131 rfl (lv_at hl 4 rfl) ?_
              refine jnI (wr := [(y 0, .inr (9, o9_rirrrrrrrrvviii (y 1) py0_1 (y 2) (y 10) (y 19) (y 25) (y 26) (y 30) (y 31) (y 32) o10 o11 py0_12 py0_13 py0_14)), (y 3, aI V 4 fy3), (y 9, aI V 900 fy9), (y 19, .inr (4, o4_rrrrrr (y 2) (y 20) (y 21) (y 22) (y 23) (y 24))), (y 20, aI V 2000 f_57), (y 21, aI V 6 f_58), (y 22, aI V 64 f_59), (y 25, .inr (0, [.int v_29, .int v_30])), (y 2, .inr (1, o1_iiiiiirrrrrrriiiii py2_0 py2_1 py2_2 py2_3 py2_4 py2_5 (y 3) (y 4) (y 5) (y 6) (y 7) (y 8) (y 9) py2_13 py2_14 py2_15 py2_16 py2_17))]) (rnS (rest := []) ⟨hx, hb, hml, hown, hg⟩ (k_X9_stackIn_0 l V u_56 a1 bu_56 (iv_w b_17 (by decide))) mt_X9_stackIn q_3_126 ⟨Nat.le_of_ble_eq_true rfl, Nat.le_of_ble_eq_true rfl⟩ hK hP hD hS hA hE [] rfl rfl rfl hl.1 rfl (Nat.le_of_ble_eq_true rfl) dX9_lies_132 ⟨Nat.le_of_ble_eq_true rfl, Nat.le_of_ble_eq_true rfl⟩) hP hD hS hA [] [0, 1, 2, 3, 4, 5, 6, 7, 8] rfl rfl rfl (by decide) (fun r_62 w H locs hw hP hD hS => ?_)
              obtain ⟨br_62, er_62, et_63, rfl⟩ := hw
              have hP : va_P V.1 vwCl [(y 0, .inr (9, o9_rirrrrrrrrvviii (y 1) py0_1 (y 2) (y 10) (y 19) (y 25) (y 26) (y 30) (y 31) (y 32) o10 o11 py0_12 py0_13 py0_14)), (y 3, aI V 4 fy3), (y 9, aI V 900 fy9), (y 19, .inr (4, o4_rrrrrr (y 2) (y 20) (y 21) (y 22) (y 23) (y 24))), (y 20, aI V 2000 f_57), (y 21, aI V 6 f_58), (y 22, aI V 64 f_59), (y 25, .inr (0, [.int v_29, .int v_30])), (y 2, .inr (1, o1_iiiiiirrrrrrriiiii py2_0 py2_1 py2_2 py2_3 py2_4 py2_5 (y 3) (y 4) (y 5) (y 6) (y 7) (y 8) (y 9) py2_13 py2_14 py2_15 py2_16 py2_17))] H := hP
              have hD := cpD hP hD
              have hP := subP (ws' := [(y 0, .inr (9, o9_rirrrrrrrrvviii (y 1) py0_1 (y 2) (y 10) (y 19) (y 25) (y 26) (y 30) (y 31) (y 32) o10 o11 py0_12 py0_13 py0_14)), (y 2, .inr (1, o1_iiiiiirrrrrrriiiii py2_0 py2_1 py2_2 py2_3 py2_4 py2_5 (y 3) (y 4) (y 5) (y 6) (y 7) (y 8) (y 9) py2_13 py2_14 py2_15 py2_16 py2_17)), (y 3, aI V 4 fy3), (y 9, aI V 900 fy9), (y 19, .inr (4, o4_rrrrrr (y 2) (y 20) (y 21) (y 22) (y 23) (y 24))), (y 20, aI V 2000 f_57), (y 21, aI V 6 f_58), (y 22, aI V 64 f_59), (y 25, .inr (0, [.int v_29, .int v_30]))]) hP [0, 8, 1, 2, 3, 4, 5, 6, 7] rfl
              have hD := subD hP hD [0, 8, 1, 2, 3, 4, 5, 6, 7] rfl rfl
              exact fiI hx hb hr hlk hK hP hD hS dX9_lies_135 (Nat.le_of_ble_eq_true rfl) (Nat.le_of_ble_eq_true rfl) (⟨f_57, f_58, f_59, v_29, v_30, tf_57, (iv_w br_62 (by decide)), knn_60, rfl⟩)
            · have b_64 : iv 0 99998 u_55 := iv_l1 (Int32.not_le.mp c_61) bu_55 b_25 (by decide)
              have b_65 : iv 1 99999 a2 := iv_l2 (Int32.not_le.mp c_61) bu_55 b_25 (by decide)
              refine lv_aload_n hx hb dX9_lies_107 rfl (lv_at hl 3 rfl) ?_
              refine va_get (ci := 9) (v := .ref (y 19)) (C := RX9) (T := TX9) (N := 15) hx hb hg inX9 hown hK hP 0 rfl rfl 4 (by decide) (hg _ q_2_40) (fun _ h9 => h9) rfl dX9_lies_108 ?_
              refine lv_iload hx hb dX9_lies_111 (lv_at hl 1 rfl) ?_
              refine lv_aload_n hx hb dX9_lies_113 rfl (lv_at hl 3 rfl) ?_
              refine va_get (ci := 9) (v := .int py0_13) (C := RX9) (T := TX9) (N := 15) hx hb hg inX9 hown hK hP 0 rfl rfl 13 (by decide) (hg _ q_2_49) (fun _ h9 => h9) rfl dX9_lies_114 ?_
              refine lv_iconst (v := 0) hx hb dX9_lies_117 (by decide) ?_
              refine jnI (wr := [(y 0, .inr (9, o9_rirrrrrrrrvviii (y 1) py0_1 (y 2) (y 10) (y 19) (y 25) (y 26) (y 30) (y 31) (y 32) o10 o11 py0_12 py0_13 py0_14)), (y 25, .inr (0, [.int v_29, .int v_30]))]) (rnV (rest := []) ⟨hx, hb, hml, hown, hg⟩ (k_X4_behind_0 l V y u_56 py0_13 0 fy3 fy9 f_57 f_58 f_59 py2_0 py2_1 py2_2 py2_3 py2_4 py2_5 py2_13 py2_14 py2_15 py2_16 py2_17 bu_56 bpy0_13 tf_57 (iv_w b_18 (by decide)) bpy2_2 bpy2_3 bpy2_4 bpy2_5 bpy2_13 bpy2_14 bpy2_15 bpy2_16 bpy2_17) mt_X4_behind q_3_145 ⟨Nat.le_of_ble_eq_true rfl, Nat.le_of_ble_eq_true rfl⟩ hK hP hD hS hA hE [1, 2, 3, 4, 5, 6, 8] rfl rfl 3 rfl rfl rfl rfl hl.1 rfl (Nat.le_of_ble_eq_true rfl) dX9_lies_118 ⟨Nat.le_of_ble_eq_true rfl, Nat.le_of_ble_eq_true rfl⟩) hP hD hS hA [1, 2, 3, 4, 5, 6, 8] [0, 7] rfl rfl rfl (by decide) (fun r_66 w H locs hw hP hD hS => ?_)
              obtain ⟨f_67, f_68, f_69, tf_67, br_66, g_70, rfl⟩ := hw
              have qkn_71 := g_70 D9 hL9 knn_60
              have er_66 : r_66 = bhS D9 u_56 py0_13 (0 : Int32) (py2_1 : Int32).toNatClampNeg := qkn_71.1
              have kn_71 := qkn_71.2
              have hP : va_P V.1 vwCl [(y 0, .inr (9, o9_rirrrrrrrrvviii (y 1) py0_1 (y 2) (y 10) (y 19) (y 25) (y 26) (y 30) (y 31) (y 32) o10 o11 py0_12 py0_13 py0_14)), (y 25, .inr (0, [.int v_29, .int v_30])), (y 3, aI V 4 fy3), (y 9, aI V 900 fy9), (y 19, .inr (4, o4_rrrrrr (y 2) (y 20) (y 21) (y 22) (y 23) (y 24))), (y 20, aI V 2000 f_67), (y 21, aI V 6 f_68), (y 22, aI V 64 f_69), (y 2, .inr (1, o1_iiiiiirrrrrrriiiii py2_0 py2_1 py2_2 py2_3 py2_4 py2_5 (y 3) (y 4) (y 5) (y 6) (y 7) (y 8) (y 9) py2_13 py2_14 py2_15 py2_16 py2_17))] H := hP
              have hD := cpD hP hD
              refine lv_istore (lv' := [(4, .int r_66), (5, .int u_55), (3, .int a2), (0, .ref (y 0)), (1, .int a1), (2, .int a2)]) hx hb dX9_lies_121 hl (by decide) rfl (fun ls hl => ?_)
              obtain ⟨x_72, ex_72⟩ : ∃ z9 : Int32, z9 = u_55 + 1 := ⟨_, rfl⟩
              have bx_72 : iv 1 99999 x_72 := by rw [ex_72]; exact iv_add b_64 (iv_c (1 : Int32) (a := 1) (b := 1) (by decide)) (by decide)
              refine lv_iinc (v := x_72) (lv' := [(5, .int x_72), (4, .int r_66), (3, .int a2), (0, .ref (y 0)), (1, .int a1), (2, .int a2)]) hx hb dX9_lies_123 hl (k := 1) rfl (by rw [ex_72]; rfl) (by decide) rfl (fun ls hl => ?_)
              refine lv_goto (tgt := 101) hx hb dX9_lies_126 (by decide) ?_
              have hP := subP (ws' := [(y 0, .inr (9, o9_rirrrrrrrrvviii (y 1) py0_1 (y 2) (y 10) (y 19) (y 25) (y 26) (y 30) (y 31) (y 32) o10 o11 py0_12 py0_13 py0_14)), (y 3, aI V 4 fy3), (y 9, aI V 900 fy9), (y 19, .inr (4, o4_rrrrrr (y 2) (y 20) (y 21) (y 22) (y 23) (y 24))), (y 20, aI V 2000 f_67), (y 21, aI V 6 f_68), (y 22, aI V 64 f_69), (y 25, .inr (0, [.int v_29, .int v_30])), (y 2, .inr (1, o1_iiiiiirrrrrrriiiii py2_0 py2_1 py2_2 py2_3 py2_4 py2_5 (y 3) (y 4) (y 5) (y 6) (y 7) (y 8) (y 9) py2_13 py2_14 py2_15 py2_16 py2_17))]) hP [0, 2, 3, 4, 5, 6, 7, 1, 8] rfl
              have hD := subD hP hD [0, 2, 3, 4, 5, 6, 7, 1, 8] rfl rfl
              exact ihn_60 _ _ _ _ (by rw [en_60, ex_72]; exact mu_up b_64 (by decide)) ⟨x_72, r_66, f_67, f_68, f_69, (iv_w bx_72 (by decide)), br_66, tf_67, kn_71, rfl, hP, hD, hS, lv_sub hl [0, 1, 2, 3, 4, 5] rfl⟩
          · have b_73 : iv 1 2147483647 v_30 := iv_l2 (Int32.not_le.mp c_53) (iv_c (0 : Int32) (a := 0) (b := 0) (by decide)) (iv_top v_30) (by decide)
            refine lv_aload_n hx hb dX9_lies_66 rfl (lv_at hl 1 rfl) ?_
            refine va_get (ci := 9) (v := .ref (y 25)) (C := RX9) (T := TX9) (N := 15) hx hb hg inX9 hown hK hP 0 rfl rfl 5 (by decide) (hg _ q_2_41) (fun _ h9 => h9) rfl dX9_lies_67 ?_
            refine va_get (ci := 0) (v := .int v_29) (C := RX0) (T := TX0) (N := 2) hx hb hg inX0 hown hK hP 7 rfl rfl 0 (by decide) (hg _ q_1_197) (fun _ h9 => h9) rfl dX9_lies_70 ?_
            refine lv_iload_n hx hb dX9_lies_73 rfl (lv_at hl 3 rfl) ?_
            refine lv_aload_n hx hb dX9_lies_74 rfl (lv_at hl 1 rfl) ?_
            refine va_get (ci := 9) (v := .ref (y 25)) (C := RX9) (T := TX9) (N := 15) hx hb hg inX9 hown hK hP 0 rfl rfl 5 (by decide) (hg _ q_2_41) (fun _ h9 => h9) rfl dX9_lies_75 ?_
            refine va_get (ci := 0) (v := .int v_29) (C := RX0) (T := TX0) (N := 2) hx hb hg inX0 hown hK hP 7 rfl rfl 0 (by decide) (hg _ q_1_197) (fun _ h9 => h9) rfl dX9_lies_78 ?_
            refine lv_isub hx hb dX9_lies_81 ?_
            refine lv_topi (fun x_74 ex_74 => ?_)
            refine lv_aload_n hx hb dX9_lies_82 rfl (lv_at hl 1 rfl) ?_
            refine va_get (ci := 9) (v := .ref (y 25)) (C := RX9) (T := TX9) (N := 15) hx hb hg inX9 hown hK hP 0 rfl rfl 5 (by decide) (hg _ q_2_41) (fun _ h9 => h9) rfl dX9_lies_83 ?_
            refine va_get (ci := 0) (v := .int v_30) (C := RX0) (T := TX0) (N := 2) hx hb hg inX0 hown hK hP 7 rfl rfl 1 (by decide) (hg _ q_1_199) (fun _ h9 => h9) rfl dX9_lies_86 ?_
            refine lv_irem hx hb dX9_lies_89 (iv_nz b_73 (by decide)) ?_
            refine lv_topi (fun x_75 ex_75 => ?_)
            refine lv_iadd hx hb dX9_lies_90 ?_
            refine lv_topi (fun x_76 ex_76 => ?_)
            refine lv_istore_n (lv' := [(3, .int x_76), (0, .ref (y 0)), (1, .int a1), (2, .int a2)]) hx hb dX9_lies_91 rfl hl (by decide) rfl (fun ls hl => ?_)
            refine lv_aload_n hx hb dX9_lies_92 rfl (lv_at hl 1 rfl) ?_
            refine va_get (ci := 9) (v := .int py0_12) (C := RX9) (T := TX9) (N := 15) hx hb hg inX9 hown hK hP 0 rfl rfl 12 (by decide) (hg _ q_2_48) (fun _ h9 => h9) rfl dX9_lies_93 ?_
            refine lv_istore (lv' := [(4, .int py0_12), (3, .int x_76), (0, .ref (y 0)), (1, .int a1), (2, .int a2)]) hx hb dX9_lies_96 hl (by decide) rfl (fun ls hl => ?_)
            refine lv_iconst (v := 0) hx hb dX9_lies_98 (by decide) ?_
            refine lv_istore (lv' := [(5, .int 0), (4, .int py0_12), (3, .int x_76), (0, .ref (y 0)), (1, .int a1), (2, .int a2)]) hx hb dX9_lies_99 hl (by decide) rfl (fun ls hl => ?_)
            refine loopF (X := fun (n_82 : Nat) (H : Heap) (locs : List Loc) (ls : Array Slot) => ∃ (u_77 : Int32) (u_78 : Int32) (f_79 : Nat → Int32) (f_80 : Nat → Int32) (f_81 : Nat → Int32), (iv 0 2147483647 u_77) ∧ (iv 0 9999 u_78) ∧ (∀ j, iv 0 10 (f_79 j)) ∧ KN D9 f_79 ∧ n_82 = (2147483647 - (u_77 : Int32).toInt).toNat ∧ va_P V.1 vwCl [(y 0, .inr (9, o9_rirrrrrrrrvviii (y 1) py0_1 (y 2) (y 10) (y 19) (y 25) (y 26) (y 30) (y 31) (y 32) o10 o11 py0_12 py0_13 py0_14)), (y 3, aI V 4 fy3), (y 9, aI V 900 fy9), (y 19, .inr (4, o4_rrrrrr (y 2) (y 20) (y 21) (y 22) (y 23) (y 24))), (y 20, aI V 2000 f_79), (y 21, aI V 6 f_80), (y 22, aI V 64 f_81), (y 25, .inr (0, [.int v_29, .int v_30])), (y 2, .inr (1, o1_iiiiiirrrrrrriiiii py2_0 py2_1 py2_2 py2_3 py2_4 py2_5 (y 3) (y 4) (y 5) (y 6) (y 7) (y 8) (y 9) py2_13 py2_14 py2_15 py2_16 py2_17))] H ∧ va_D A [(y 0, .inr (9, o9_rirrrrrrrrvviii (y 1) py0_1 (y 2) (y 10) (y 19) (y 25) (y 26) (y 30) (y 31) (y 32) o10 o11 py0_12 py0_13 py0_14)), (y 3, aI V 4 fy3), (y 9, aI V 900 fy9), (y 19, .inr (4, o4_rrrrrr (y 2) (y 20) (y 21) (y 22) (y 23) (y 24))), (y 20, aI V 2000 f_79), (y 21, aI V 6 f_80), (y 22, aI V 64 f_81), (y 25, .inr (0, [.int v_29, .int v_30])), (y 2, .inr (1, o1_iiiiiirrrrrrriiiii py2_0 py2_1 py2_2 py2_3 py2_4 py2_5 (y 3) (y 4) (y 5) (y 6) (y 7) (y 8) (y 9) py2_13 py2_14 py2_15 py2_16 py2_17))] ∧ va_S A s.heap H locs ∧ lv_has ls 6 [(5, .int u_77), (4, .int u_78), (3, .int x_76), (0, .ref (y 0)), (1, .int a1), (2, .int a2)]) (g := fun ls => F0 m 101 ls []) (fun n_82 H locs ls hX ihn_82 => ?_) _ ⟨0, py0_12, f_26, f_27, f_28, (iv_c (0 : Int32) (by decide)), bpy0_12, tf_26, kn_31, rfl, hP, hD, hS, lv_sub hl [0, 1, 2, 3, 4, 5] rfl⟩
            obtain ⟨u_77, u_78, f_79, f_80, f_81, bu_77, bu_78, tf_79, knn_82, en_82, hP, hD, hS, hl⟩ := hX
            refine lv_iload hx hb dX9_lies_101 (lv_at hl 0 rfl) ?_
            refine lv_iload_n hx hb dX9_lies_103 rfl (lv_at hl 2 rfl) ?_
            refine lv_icmp_ge (tgt := 129) hx hb dX9_lies_104 (by decide) (fun c_83 => ?_) (fun c_83 => ?_)
            · refine lv_iload hx hb dX9_lies_129 (lv_at hl 1 rfl) ?_
              refine lv_iload_n hx hb dX9_lies_131 rfl (lv_at hl 4 rfl) ?_
              refine jnI (wr := [(y 0, .inr (9, o9_rirrrrrrrrvviii (y 1) py0_1 (y 2) (y 10) (y 19) (y 25) (y 26) (y 30) (y 31) (y 32) o10 o11 py0_12 py0_13 py0_14)), (y 3, aI V 4 fy3), (y 9, aI V 900 fy9), (y 19, .inr (4, o4_rrrrrr (y 2) (y 20) (y 21) (y 22) (y 23) (y 24))), (y 20, aI V 2000 f_79), (y 21, aI V 6 f_80), (y 22, aI V 64 f_81), (y 25, .inr (0, [.int v_29, .int v_30])), (y 2, .inr (1, o1_iiiiiirrrrrrriiiii py2_0 py2_1 py2_2 py2_3 py2_4 py2_5 (y 3) (y 4) (y 5) (y 6) (y 7) (y 8) (y 9) py2_13 py2_14 py2_15 py2_16 py2_17))]) (rnS (rest := []) ⟨hx, hb, hml, hown, hg⟩ (k_X9_stackIn_0 l V u_78 a1 bu_78 (iv_w b_17 (by decide))) mt_X9_stackIn q_3_126 ⟨Nat.le_of_ble_eq_true rfl, Nat.le_of_ble_eq_true rfl⟩ hK hP hD hS hA hE [] rfl rfl rfl hl.1 rfl (Nat.le_of_ble_eq_true rfl) dX9_lies_132 ⟨Nat.le_of_ble_eq_true rfl, Nat.le_of_ble_eq_true rfl⟩) hP hD hS hA [] [0, 1, 2, 3, 4, 5, 6, 7, 8] rfl rfl rfl (by decide) (fun r_84 w H locs hw hP hD hS => ?_)
              obtain ⟨br_84, er_84, et_85, rfl⟩ := hw
              have hP : va_P V.1 vwCl [(y 0, .inr (9, o9_rirrrrrrrrvviii (y 1) py0_1 (y 2) (y 10) (y 19) (y 25) (y 26) (y 30) (y 31) (y 32) o10 o11 py0_12 py0_13 py0_14)), (y 3, aI V 4 fy3), (y 9, aI V 900 fy9), (y 19, .inr (4, o4_rrrrrr (y 2) (y 20) (y 21) (y 22) (y 23) (y 24))), (y 20, aI V 2000 f_79), (y 21, aI V 6 f_80), (y 22, aI V 64 f_81), (y 25, .inr (0, [.int v_29, .int v_30])), (y 2, .inr (1, o1_iiiiiirrrrrrriiiii py2_0 py2_1 py2_2 py2_3 py2_4 py2_5 (y 3) (y 4) (y 5) (y 6) (y 7) (y 8) (y 9) py2_13 py2_14 py2_15 py2_16 py2_17))] H := hP
              have hD := cpD hP hD
              have hP := subP (ws' := [(y 0, .inr (9, o9_rirrrrrrrrvviii (y 1) py0_1 (y 2) (y 10) (y 19) (y 25) (y 26) (y 30) (y 31) (y 32) o10 o11 py0_12 py0_13 py0_14)), (y 2, .inr (1, o1_iiiiiirrrrrrriiiii py2_0 py2_1 py2_2 py2_3 py2_4 py2_5 (y 3) (y 4) (y 5) (y 6) (y 7) (y 8) (y 9) py2_13 py2_14 py2_15 py2_16 py2_17)), (y 3, aI V 4 fy3), (y 9, aI V 900 fy9), (y 19, .inr (4, o4_rrrrrr (y 2) (y 20) (y 21) (y 22) (y 23) (y 24))), (y 20, aI V 2000 f_79), (y 21, aI V 6 f_80), (y 22, aI V 64 f_81), (y 25, .inr (0, [.int v_29, .int v_30]))]) hP [0, 8, 1, 2, 3, 4, 5, 6, 7] rfl
              have hD := subD hP hD [0, 8, 1, 2, 3, 4, 5, 6, 7] rfl rfl
              exact fiI hx hb hr hlk hK hP hD hS dX9_lies_135 (Nat.le_of_ble_eq_true rfl) (Nat.le_of_ble_eq_true rfl) (⟨f_79, f_80, f_81, v_29, v_30, tf_79, (iv_w br_84 (by decide)), knn_82, rfl⟩)
            · have b_86 : iv 0 2147483646 u_77 := iv_l1 (Int32.not_le.mp c_83) bu_77 (iv_top x_76) (by decide)
              have b_87 : iv 1 2147483647 x_76 := iv_l2 (Int32.not_le.mp c_83) bu_77 (iv_top x_76) (by decide)
              refine lv_aload_n hx hb dX9_lies_107 rfl (lv_at hl 3 rfl) ?_
              refine va_get (ci := 9) (v := .ref (y 19)) (C := RX9) (T := TX9) (N := 15) hx hb hg inX9 hown hK hP 0 rfl rfl 4 (by decide) (hg _ q_2_40) (fun _ h9 => h9) rfl dX9_lies_108 ?_
              refine lv_iload hx hb dX9_lies_111 (lv_at hl 1 rfl) ?_
              refine lv_aload_n hx hb dX9_lies_113 rfl (lv_at hl 3 rfl) ?_
              refine va_get (ci := 9) (v := .int py0_13) (C := RX9) (T := TX9) (N := 15) hx hb hg inX9 hown hK hP 0 rfl rfl 13 (by decide) (hg _ q_2_49) (fun _ h9 => h9) rfl dX9_lies_114 ?_
              refine lv_iconst (v := 0) hx hb dX9_lies_117 (by decide) ?_
              refine jnI (wr := [(y 0, .inr (9, o9_rirrrrrrrrvviii (y 1) py0_1 (y 2) (y 10) (y 19) (y 25) (y 26) (y 30) (y 31) (y 32) o10 o11 py0_12 py0_13 py0_14)), (y 25, .inr (0, [.int v_29, .int v_30]))]) (rnV (rest := []) ⟨hx, hb, hml, hown, hg⟩ (k_X4_behind_0 l V y u_78 py0_13 0 fy3 fy9 f_79 f_80 f_81 py2_0 py2_1 py2_2 py2_3 py2_4 py2_5 py2_13 py2_14 py2_15 py2_16 py2_17 bu_78 bpy0_13 tf_79 (iv_w b_18 (by decide)) bpy2_2 bpy2_3 bpy2_4 bpy2_5 bpy2_13 bpy2_14 bpy2_15 bpy2_16 bpy2_17) mt_X4_behind q_3_145 ⟨Nat.le_of_ble_eq_true rfl, Nat.le_of_ble_eq_true rfl⟩ hK hP hD hS hA hE [1, 2, 3, 4, 5, 6, 8] rfl rfl 3 rfl rfl rfl rfl hl.1 rfl (Nat.le_of_ble_eq_true rfl) dX9_lies_118 ⟨Nat.le_of_ble_eq_true rfl, Nat.le_of_ble_eq_true rfl⟩) hP hD hS hA [1, 2, 3, 4, 5, 6, 8] [0, 7] rfl rfl rfl (by decide) (fun r_88 w H locs hw hP hD hS => ?_)
              obtain ⟨f_89, f_90, f_91, tf_89, br_88, g_92, rfl⟩ := hw
              have qkn_93 := g_92 D9 hL9 knn_82
              have er_88 : r_88 = bhS D9 u_78 py0_13 (0 : Int32) (py2_1 : Int32).toNatClampNeg := qkn_93.1
              have kn_93 := qkn_93.2
              have hP : va_P V.1 vwCl [(y 0, .inr (9, o9_rirrrrrrrrvviii (y 1) py0_1 (y 2) (y 10) (y 19) (y 25) (y 26) (y 30) (y 31) (y 32) o10 o11 py0_12 py0_13 py0_14)), (y 25, .inr (0, [.int v_29, .int v_30])), (y 3, aI V 4 fy3), (y 9, aI V 900 fy9), (y 19, .inr (4, o4_rrrrrr (y 2) (y 20) (y 21) (y 22) (y 23) (y 24))), (y 20, aI V 2000 f_89), (y 21, aI V 6 f_90), (y 22, aI V 64 f_91), (y 2, .inr (1, o1_iiiiiirrrrrrriiiii py2_0 py2_1 py2_2 py2_3 py2_4 py2_5 (y 3) (y 4) (y 5) (y 6) (y 7) (y 8) (y 9) py2_13 py2_14 py2_15 py2_16 py2_17))] H := hP
              have hD := cpD hP hD
              refine lv_istore (lv' := [(4, .int r_88), (5, .int u_77), (3, .int x_76), (0, .ref (y 0)), (1, .int a1), (2, .int a2)]) hx hb dX9_lies_121 hl (by decide) rfl (fun ls hl => ?_)
              obtain ⟨x_94, ex_94⟩ : ∃ z9 : Int32, z9 = u_77 + 1 := ⟨_, rfl⟩
              have bx_94 : iv 1 2147483647 x_94 := by rw [ex_94]; exact iv_add b_86 (iv_c (1 : Int32) (a := 1) (b := 1) (by decide)) (by decide)
              refine lv_iinc (v := x_94) (lv' := [(5, .int x_94), (4, .int r_88), (3, .int x_76), (0, .ref (y 0)), (1, .int a1), (2, .int a2)]) hx hb dX9_lies_123 hl (k := 1) rfl (by rw [ex_94]; rfl) (by decide) rfl (fun ls hl => ?_)
              refine lv_goto (tgt := 101) hx hb dX9_lies_126 (by decide) ?_
              have hP := subP (ws' := [(y 0, .inr (9, o9_rirrrrrrrrvviii (y 1) py0_1 (y 2) (y 10) (y 19) (y 25) (y 26) (y 30) (y 31) (y 32) o10 o11 py0_12 py0_13 py0_14)), (y 3, aI V 4 fy3), (y 9, aI V 900 fy9), (y 19, .inr (4, o4_rrrrrr (y 2) (y 20) (y 21) (y 22) (y 23) (y 24))), (y 20, aI V 2000 f_89), (y 21, aI V 6 f_90), (y 22, aI V 64 f_91), (y 25, .inr (0, [.int v_29, .int v_30])), (y 2, .inr (1, o1_iiiiiirrrrrrriiiii py2_0 py2_1 py2_2 py2_3 py2_4 py2_5 (y 3) (y 4) (y 5) (y 6) (y 7) (y 8) (y 9) py2_13 py2_14 py2_15 py2_16 py2_17))]) hP [0, 2, 3, 4, 5, 6, 7, 1, 8] rfl
              have hD := subD hP hD [0, 2, 3, 4, 5, 6, 7, 1, 8] rfl rfl
              exact ihn_82 _ _ _ _ (by rw [en_82, ex_94]; exact mu_up b_86 (by decide)) ⟨x_94, r_88, f_89, f_90, f_91, (iv_w bx_94 (by decide)), br_88, tf_89, kn_93, rfl, hP, hD, hS, lv_sub hl [0, 1, 2, 3, 4, 5] rfl⟩
      · have b_95 : iv 100000 2147483647 a2 := iv_l2 (Int32.not_le.mp c_24) (iv_c (99999 : Int32) (a := 99999) (b := 99999) (by decide)) b_23 (by decide)
        refine lv_bipush (v := (-3)) hx hb dX9_lies_21 (by decide) ?_
        have hP := subP (ws' := [(y 0, .inr (9, o9_rirrrrrrrrvviii (y 1) py0_1 (y 2) (y 10) (y 19) (y 25) (y 26) (y 30) (y 31) (y 32) o10 o11 py0_12 py0_13 py0_14)), (y 2, .inr (1, o1_iiiiiirrrrrrriiiii py2_0 py2_1 py2_2 py2_3 py2_4 py2_5 (y 3) (y 4) (y 5) (y 6) (y 7) (y 8) (y 9) py2_13 py2_14 py2_15 py2_16 py2_17)), (y 3, aI V 4 fy3), (y 9, aI V 900 fy9), (y 19, .inr (4, o4_rrrrrr (y 2) (y 20) (y 21) (y 22) (y 23) (y 24))), (y 20, aI V 2000 fy20), (y 21, aI V 6 fy21), (y 22, aI V 64 fy22), (y 25, .inr (0, [.int py25_0, .int py25_1]))]) hP [7, 8, 0, 1, 2, 3, 4, 5, 6] rfl
        have hD := subD hP hD [7, 8, 0, 1, 2, 3, 4, 5, 6] rfl rfl
        exact fiI hx hb hr hlk hK hP hD hS dX9_lies_23 (Nat.le_of_ble_eq_true rfl) (Nat.le_of_ble_eq_true rfl) (⟨fy20, fy21, fy22, py25_0, py25_1, tfy20, (iv_c ((-3) : Int32) (by decide)), hK9, rfl⟩)
