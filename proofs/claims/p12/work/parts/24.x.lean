set_option maxHeartbeats 4000000 in
set_option maxRecDepth 100000 in
theorem k_X9_fogs_1 (l : Launch) (V : GV) (y : Nat → Nat) (a1 : Int32) (a2 : Int32) (a3 : Int32) (py0_1 : Int32) (o10 : Value) (o11 : Value) (py0_12 : Int32) (py0_13 : Int32) (py0_14 : Int32) (py2_0 : Int32) (py2_1 : Int32) (py2_2 : Int32) (py2_3 : Int32) (py2_4 : Int32) (py2_5 : Int32) (py2_13 : Int32) (py2_14 : Int32) (py2_15 : Int32) (py2_16 : Int32) (py2_17 : Int32) (py33_1 : Int32) (py33_2 : Int32) (fy34 : Nat → Int64) (py35_1 : Int32) (py35_2 : Int32) (fy36 : Nat → Int64) (py37_1 : Int32) (py37_2 : Int32) (fy38 : Nat → Int64) (py39_1 : Int32) (py39_2 : Int32) (fy40 : Nat → Int64) (bpy0_1 : iv 0 900 py0_1) (bpy0_12 : iv 0 9999 py0_12) (bpy0_13 : iv 0 9 py0_13) (bpy2_1 : iv 0 4 py2_1) (bpy2_2 : iv 0 4 py2_2) (bpy2_3 : iv 0 8 py2_3) (bpy2_4 : iv 0 9999 py2_4) (bpy2_5 : iv 0 9 py2_5) (bpy2_13 : iv 0 900 py2_13) (bpy2_14 : iv 0 900 py2_14) (bpy2_15 : iv 0 900 py2_15) (bpy2_16 : iv 0 900 py2_16) (bpy2_17 : iv 0 900 py2_17) (bpy33_1 : iv (-1) 40 py33_1) (bpy35_1 : iv (-1) 40 py35_1) (bpy37_1 : iv (-1) 40 py37_1) (bpy39_1 : iv (-1) 40 py39_1) (hf0 : ¬ (rfF a1 a2 (-1 : Int32) py2_1 py33_1 py35_1 py37_1 py39_1 fy34 fy36 fy38 fy40 = 0 ∧ 0 ≤ (a3 : Int32).toInt ∧ (a3 : Int32).toInt < (cntF a1 py33_1 py35_1 py37_1 py39_1 : Int32).toInt)) : Ct l V yX9_fogs (.code yX9_fogs cX9_fogs 6 (some .int)) 3 [.ref (y 0), .int a1, .int a2, .int a3] [(y 0, .inr (9, o9_rirrrrrrrrvviii (y 1) py0_1 (y 2) (y 10) (y 19) (y 25) (y 26) (y 30) (y 31) (y 32) o10 o11 py0_12 py0_13 py0_14)), (y 2, .inr (1, o1_iiiiiirrrrrrriiiii py2_0 py2_1 py2_2 py2_3 py2_4 py2_5 (y 3) (y 4) (y 5) (y 6) (y 7) (y 8) (y 9) py2_13 py2_14 py2_15 py2_16 py2_17)), (y 30, aT V 4 (va_up (va_up (va_up (va_up (fun _ => none) 0 (some (y 33))) 1 (some (y 35))) 2 (some (y 37))) 3 (some (y 39)))), (y 33, .inr (7, o7_rii (y 34) py33_1 py33_2)), (y 34, aJ V 40 fy34), (y 35, .inr (7, o7_rii (y 36) py35_1 py35_2)), (y 36, aJ V 40 fy36), (y 37, .inr (7, o7_rii (y 38) py37_1 py37_2)), (y 38, aJ V 40 fy38), (y 39, .inr (7, o7_rii (y 40) py39_1 py39_2)), (y 40, aJ V 40 fy40)] 0 0 (QI V (fun (r : Int32) (w : va_W) => iv (-7) (-2) r ∧ w = [(y 0, .inr (9, o9_rirrrrrrrrvviii (y 1) py0_1 (y 2) (y 10) (y 19) (y 25) (y 26) (y 30) (y 31) (y 32) o10 o11 py0_12 py0_13 py0_14)), (y 2, .inr (1, o1_iiiiiirrrrrrriiiii py2_0 py2_1 py2_2 py2_3 py2_4 py2_5 (y 3) (y 4) (y 5) (y 6) (y 7) (y 8) (y 9) py2_13 py2_14 py2_15 py2_16 py2_17)), (y 30, aT V 4 (va_up (va_up (va_up (va_up (fun _ => none) 0 (some (y 33))) 1 (some (y 35))) 2 (some (y 37))) 3 (some (y 39)))), (y 33, .inr (7, o7_rii (y 34) py33_1 py33_2)), (y 34, aJ V 40 fy34), (y 35, .inr (7, o7_rii (y 36) py35_1 py35_2)), (y 36, aJ V 40 fy36), (y 37, .inr (7, o7_rii (y 38) py37_1 py37_2)), (y 38, aJ V 40 fy38), (y 39, .inr (7, o7_rii (y 40) py39_1 py39_2)), (y 40, aJ V 40 fy40)])) := by
  refine Ct.of (by decide) (Nat.le_of_ble_eq_true rfl) (fun p e s m below meth c A ls hx hb hr hml hown hlk hnm hg hP hK hD hE hA hS hl => ?_)
  have hl : lv_has ls 6 [(0, .ref (y 0)), (1, .int a1), (2, .int a2), (3, .int a3)] := hl
  refine lv_aload_n hx hb dX9_fogs_0 rfl (lv_at hl 0 rfl) ?_
  refine lv_iload_n hx hb dX9_fogs_1 rfl (lv_at hl 1 rfl) ?_
  refine lv_iload_n hx hb dX9_fogs_2 rfl (lv_at hl 2 rfl) ?_
  refine lv_iconst (v := (-1)) hx hb dX9_fogs_3 (by decide) ?_
  refine jnI (wr := []) (rnV (rest := []) ⟨hx, hb, hml, hown, hg⟩ (k_X9_refusalOfTold_0 l V y a1 a2 (-1) py0_1 o10 o11 py0_12 py0_13 py0_14 py2_0 py2_1 py2_2 py2_3 py2_4 py2_5 py2_13 py2_14 py2_15 py2_16 py2_17 py33_1 py33_2 fy34 py35_1 py35_2 fy36 py37_1 py37_2 fy38 py39_1 py39_2 fy40 bpy0_1 bpy0_12 bpy0_13 bpy2_1 bpy2_2 bpy2_3 bpy2_4 bpy2_5 bpy2_13 bpy2_14 bpy2_15 bpy2_16 bpy2_17 bpy33_1 bpy35_1 bpy37_1 bpy39_1) mt_X9_refusalOfTold q_5_21 ⟨Nat.le_of_ble_eq_true rfl, Nat.le_of_ble_eq_true rfl⟩ hK hP hD hS hA hE [0, 1, 2, 3, 4, 5, 6, 7, 8, 9, 10] rfl rfl 0 rfl rfl rfl rfl hl.1 rfl (Nat.le_of_ble_eq_true rfl) dX9_fogs_4 ⟨Nat.le_of_ble_eq_true rfl, Nat.le_of_ble_eq_true rfl⟩) hP hD hS hA [0, 1, 2, 3, 4, 5, 6, 7, 8, 9, 10] [] rfl rfl rfl (by decide) (fun r_1 w H locs hw hP hD hS => ?_)
  rcases hw with ⟨c_2, rfl, g_3, rfl⟩ | ⟨c_4, c_5, rfl, g_6, rfl⟩ | ⟨c_7, c_8, c_9, rfl, g_10, rfl⟩ | ⟨c_11, c_12, c_13, c_14, rfl, g_15, rfl⟩ | ⟨c_16, c_17, c_18, c_19, c_20, c_21, c_22, rfl, g_23, rfl⟩ | ⟨c_24, c_25, c_26, c_27, c_28, c_29, c_30, c_31, rfl, g_32, rfl⟩ | ⟨c_33, c_34, c_35, c_36, c_37, c_38, c_39, c_40, rfl, g_41, rfl⟩ | ⟨c_42, c_43, c_44, c_45, c_46, c_47, c_48, c_49, rfl, g_50, rfl⟩ | ⟨c_51, c_52, c_53, c_54, c_55, c_56, rfl, g_57, rfl⟩ | ⟨c_58, c_59, c_60, c_61, c_62, c_63, c_64, rfl, g_65, rfl⟩ | ⟨c_66, c_67, c_68, c_69, c_70, c_71, c_72, c_73, rfl, g_74, rfl⟩ | ⟨c_75, c_76, c_77, c_78, c_79, c_80, c_81, c_82, rfl, g_83, rfl⟩ | ⟨c_84, c_85, c_86, c_87, c_88, c_89, c_90, c_91, rfl, g_92, rfl⟩ | ⟨c_93, c_94, c_95, c_96, c_97, c_98, rfl, g_99, rfl⟩ | ⟨c_100, c_101, c_102, c_103, c_104, c_105, c_106, rfl, g_107, rfl⟩ | ⟨c_108, c_109, c_110, c_111, c_112, c_113, c_114, c_115, rfl, g_116, rfl⟩ | ⟨c_117, c_118, c_119, c_120, c_121, c_122, c_123, c_124, rfl, g_125, rfl⟩ | ⟨c_126, c_127, c_128, c_129, c_130, c_131, c_132, c_133, rfl, g_134, rfl⟩ | ⟨c_135, c_136, c_137, c_138, c_139, c_140, rfl, g_141, rfl⟩ | ⟨c_142, c_143, c_144, c_145, c_146, c_147, c_148, rfl, g_149, rfl⟩ | ⟨c_150, c_151, c_152, c_153, c_154, c_155, c_156, c_157, rfl, g_158, rfl⟩ | ⟨c_159, c_160, c_161, c_162, c_163, c_164, c_165, c_166, rfl, g_167, rfl⟩ | ⟨c_168, c_169, c_170, c_171, c_172, c_173, c_174, c_175, rfl, g_176, rfl⟩ | ⟨c_177, c_178, c_179, c_180, c_181, c_182, rfl, g_183, rfl⟩
  · have hP : va_P V.1 vwCl [(y 0, .inr (9, o9_rirrrrrrrrvviii (y 1) py0_1 (y 2) (y 10) (y 19) (y 25) (y 26) (y 30) (y 31) (y 32) o10 o11 py0_12 py0_13 py0_14)), (y 2, .inr (1, o1_iiiiiirrrrrrriiiii py2_0 py2_1 py2_2 py2_3 py2_4 py2_5 (y 3) (y 4) (y 5) (y 6) (y 7) (y 8) (y 9) py2_13 py2_14 py2_15 py2_16 py2_17)), (y 30, aT V 4 (va_up (va_up (va_up (va_up (fun _ => none) 0 (some (y 33))) 1 (some (y 35))) 2 (some (y 37))) 3 (some (y 39)))), (y 33, .inr (7, o7_rii (y 34) py33_1 py33_2)), (y 34, aJ V 40 fy34), (y 35, .inr (7, o7_rii (y 36) py35_1 py35_2)), (y 36, aJ V 40 fy36), (y 37, .inr (7, o7_rii (y 38) py37_1 py37_2)), (y 38, aJ V 40 fy38), (y 39, .inr (7, o7_rii (y 40) py39_1 py39_2)), (y 40, aJ V 40 fy40)] H := hP
    have hD := cpD hP hD
    have b_184 : iv (-2147483648) (-1) a1 := iv_l1 c_2 (iv_top a1) (iv_c (0 : Int32) (a := 0) (b := 0) (by decide)) (by decide)
    refine lv_istore (lv' := [(4, .int (-2)), (0, .ref (y 0)), (1, .int a1), (2, .int a2), (3, .int a3)]) hx hb dX9_fogs_7 hl (by decide) rfl (fun ls hl => ?_)
    refine lv_iload hx hb dX9_fogs_9 (lv_at hl 0 rfl) ?_
    refine lv_if_eq (tgt := 17) hx hb dX9_fogs_11 (by decide) (fun c_186 => absurd c_186 (by decide)) (fun _ => ?_)
    refine lv_iload hx hb dX9_fogs_14 (lv_at hl 0 rfl) ?_
    exact fiI hx hb hr hlk hK hP hD hS dX9_fogs_16 (Nat.le_of_ble_eq_true rfl) (Nat.le_of_ble_eq_true rfl) (⟨(iv_c ((-2) : Int32) (by decide)), rfl⟩)
  · have hP : va_P V.1 vwCl [(y 0, .inr (9, o9_rirrrrrrrrvviii (y 1) py0_1 (y 2) (y 10) (y 19) (y 25) (y 26) (y 30) (y 31) (y 32) o10 o11 py0_12 py0_13 py0_14)), (y 2, .inr (1, o1_iiiiiirrrrrrriiiii py2_0 py2_1 py2_2 py2_3 py2_4 py2_5 (y 3) (y 4) (y 5) (y 6) (y 7) (y 8) (y 9) py2_13 py2_14 py2_15 py2_16 py2_17)), (y 30, aT V 4 (va_up (va_up (va_up (va_up (fun _ => none) 0 (some (y 33))) 1 (some (y 35))) 2 (some (y 37))) 3 (some (y 39)))), (y 33, .inr (7, o7_rii (y 34) py33_1 py33_2)), (y 34, aJ V 40 fy34), (y 35, .inr (7, o7_rii (y 36) py35_1 py35_2)), (y 36, aJ V 40 fy36), (y 37, .inr (7, o7_rii (y 38) py37_1 py37_2)), (y 38, aJ V 40 fy38), (y 39, .inr (7, o7_rii (y 40) py39_1 py39_2)), (y 40, aJ V 40 fy40)] H := hP
    have hD := cpD hP hD
    have b_187 : iv 0 2147483647 a1 := iv_e2 (Int32.not_lt.mp c_4) (iv_c (0 : Int32) (a := 0) (b := 0) (by decide)) (iv_top a1) (by decide)
    have b_188 : iv 4 2147483647 a1 := iv_e2 c_5 (iv_c (4 : Int32) (a := 4) (b := 4) (by decide)) b_187 (by decide)
    refine lv_istore (lv' := [(4, .int (-2)), (0, .ref (y 0)), (1, .int a1), (2, .int a2), (3, .int a3)]) hx hb dX9_fogs_7 hl (by decide) rfl (fun ls hl => ?_)
    refine lv_iload hx hb dX9_fogs_9 (lv_at hl 0 rfl) ?_
    refine lv_if_eq (tgt := 17) hx hb dX9_fogs_11 (by decide) (fun c_190 => absurd c_190 (by decide)) (fun _ => ?_)
    refine lv_iload hx hb dX9_fogs_14 (lv_at hl 0 rfl) ?_
    exact fiI hx hb hr hlk hK hP hD hS dX9_fogs_16 (Nat.le_of_ble_eq_true rfl) (Nat.le_of_ble_eq_true rfl) (⟨(iv_c ((-2) : Int32) (by decide)), rfl⟩)
  · have hP : va_P V.1 vwCl [(y 0, .inr (9, o9_rirrrrrrrrvviii (y 1) py0_1 (y 2) (y 10) (y 19) (y 25) (y 26) (y 30) (y 31) (y 32) o10 o11 py0_12 py0_13 py0_14)), (y 2, .inr (1, o1_iiiiiirrrrrrriiiii py2_0 py2_1 py2_2 py2_3 py2_4 py2_5 (y 3) (y 4) (y 5) (y 6) (y 7) (y 8) (y 9) py2_13 py2_14 py2_15 py2_16 py2_17)), (y 30, aT V 4 (va_up (va_up (va_up (va_up (fun _ => none) 0 (some (y 33))) 1 (some (y 35))) 2 (some (y 37))) 3 (some (y 39)))), (y 33, .inr (7, o7_rii (y 34) py33_1 py33_2)), (y 34, aJ V 40 fy34), (y 35, .inr (7, o7_rii (y 36) py35_1 py35_2)), (y 36, aJ V 40 fy36), (y 37, .inr (7, o7_rii (y 38) py37_1 py37_2)), (y 38, aJ V 40 fy38), (y 39, .inr (7, o7_rii (y 40) py39_1 py39_2)), (y 40, aJ V 40 fy40)] H := hP
    have hD := cpD hP hD
    have b_191 : iv 0 2147483647 a1 := iv_e2 (Int32.not_lt.mp c_7) (iv_c (0 : Int32) (a := 0) (b := 0) (by decide)) (iv_top a1) (by decide)
    have b_192 : iv 0 3 a1 := iv_l1 (Int32.not_le.mp c_8) b_191 (iv_c (4 : Int32) (a := 4) (b := 4) (by decide)) (by decide)
    have b_193 : iv (-2147483648) (-1) a2 := iv_l1 c_9 (iv_top a2) (iv_c (0 : Int32) (a := 0) (b := 0) (by decide)) (by decide)
    refine lv_istore (lv' := [(4, .int (-2)), (0, .ref (y 0)), (1, .int a1), (2, .int a2), (3, .int a3)]) hx hb dX9_fogs_7 hl (by decide) rfl (fun ls hl => ?_)
    refine lv_iload hx hb dX9_fogs_9 (lv_at hl 0 rfl) ?_
    refine lv_if_eq (tgt := 17) hx hb dX9_fogs_11 (by decide) (fun c_195 => absurd c_195 (by decide)) (fun _ => ?_)
    refine lv_iload hx hb dX9_fogs_14 (lv_at hl 0 rfl) ?_
    exact fiI hx hb hr hlk hK hP hD hS dX9_fogs_16 (Nat.le_of_ble_eq_true rfl) (Nat.le_of_ble_eq_true rfl) (⟨(iv_c ((-2) : Int32) (by decide)), rfl⟩)
  · have hP : va_P V.1 vwCl [(y 0, .inr (9, o9_rirrrrrrrrvviii (y 1) py0_1 (y 2) (y 10) (y 19) (y 25) (y 26) (y 30) (y 31) (y 32) o10 o11 py0_12 py0_13 py0_14)), (y 2, .inr (1, o1_iiiiiirrrrrrriiiii py2_0 py2_1 py2_2 py2_3 py2_4 py2_5 (y 3) (y 4) (y 5) (y 6) (y 7) (y 8) (y 9) py2_13 py2_14 py2_15 py2_16 py2_17)), (y 30, aT V 4 (va_up (va_up (va_up (va_up (fun _ => none) 0 (some (y 33))) 1 (some (y 35))) 2 (some (y 37))) 3 (some (y 39)))), (y 33, .inr (7, o7_rii (y 34) py33_1 py33_2)), (y 34, aJ V 40 fy34), (y 35, .inr (7, o7_rii (y 36) py35_1 py35_2)), (y 36, aJ V 40 fy36), (y 37, .inr (7, o7_rii (y 38) py37_1 py37_2)), (y 38, aJ V 40 fy38), (y 39, .inr (7, o7_rii (y 40) py39_1 py39_2)), (y 40, aJ V 40 fy40)] H := hP
    have hD := cpD hP hD
    have b_196 : iv 0 2147483647 a1 := iv_e2 (Int32.not_lt.mp c_11) (iv_c (0 : Int32) (a := 0) (b := 0) (by decide)) (iv_top a1) (by decide)
    have b_197 : iv 0 3 a1 := iv_l1 (Int32.not_le.mp c_12) b_196 (iv_c (4 : Int32) (a := 4) (b := 4) (by decide)) (by decide)
    have b_198 : iv 0 2147483647 a2 := iv_e2 (Int32.not_lt.mp c_13) (iv_c (0 : Int32) (a := 0) (b := 0) (by decide)) (iv_top a2) (by decide)
    refine lv_istore (lv' := [(4, .int (-2)), (0, .ref (y 0)), (1, .int a1), (2, .int a2), (3, .int a3)]) hx hb dX9_fogs_7 hl (by decide) rfl (fun ls hl => ?_)
    refine lv_iload hx hb dX9_fogs_9 (lv_at hl 0 rfl) ?_
    refine lv_if_eq (tgt := 17) hx hb dX9_fogs_11 (by decide) (fun c_200 => absurd c_200 (by decide)) (fun _ => ?_)
    refine lv_iload hx hb dX9_fogs_14 (lv_at hl 0 rfl) ?_
    exact fiI hx hb hr hlk hK hP hD hS dX9_fogs_16 (Nat.le_of_ble_eq_true rfl) (Nat.le_of_ble_eq_true rfl) (⟨(iv_c ((-2) : Int32) (by decide)), rfl⟩)
  · have hP : va_P V.1 vwCl [(y 0, .inr (9, o9_rirrrrrrrrvviii (y 1) py0_1 (y 2) (y 10) (y 19) (y 25) (y 26) (y 30) (y 31) (y 32) o10 o11 py0_12 py0_13 py0_14)), (y 2, .inr (1, o1_iiiiiirrrrrrriiiii py2_0 py2_1 py2_2 py2_3 py2_4 py2_5 (y 3) (y 4) (y 5) (y 6) (y 7) (y 8) (y 9) py2_13 py2_14 py2_15 py2_16 py2_17)), (y 30, aT V 4 (va_up (va_up (va_up (va_up (fun _ => none) 0 (some (y 33))) 1 (some (y 35))) 2 (some (y 37))) 3 (some (y 39)))), (y 33, .inr (7, o7_rii (y 34) py33_1 py33_2)), (y 34, aJ V 40 fy34), (y 35, .inr (7, o7_rii (y 36) py35_1 py35_2)), (y 36, aJ V 40 fy36), (y 37, .inr (7, o7_rii (y 38) py37_1 py37_2)), (y 38, aJ V 40 fy38), (y 39, .inr (7, o7_rii (y 40) py39_1 py39_2)), (y 40, aJ V 40 fy40)] H := hP
    have hD := cpD hP hD
    have b_201 : iv 0 2147483647 a2 := iv_e2 (Int32.not_lt.mp c_18) (iv_c (0 : Int32) (a := 0) (b := 0) (by decide)) (iv_top a2) (by decide)
    have b_202 : iv 0 3 a2 := iv_l1 (Int32.not_le.mp c_19) b_201 bpy2_1 (by decide)
    have b_203 : iv 1 4 py2_1 := iv_l2 (Int32.not_le.mp c_19) b_201 bpy2_1 (by decide)
    have b_204 : iv 0 0 a1 := iv_q c_20 (iv_c (0 : Int32) (a := 0) (b := 0) (by decide))
    have b_205 : iv 0 40 py33_1 := iv_e2 c_21 (iv_c (0 : Int32) (a := 0) (b := 0) (by decide)) bpy33_1 (by decide)
    have b_206 : iv 0 0 py33_1 := iv_l1 c_22 b_205 (iv_c (1 : Int32) (a := 1) (b := 1) (by decide)) (by decide)
    refine lv_istore (lv' := [(4, .int (-4)), (0, .ref (y 0)), (1, .int a1), (2, .int a2), (3, .int a3)]) hx hb dX9_fogs_7 hl (by decide) rfl (fun ls hl => ?_)
    refine lv_iload hx hb dX9_fogs_9 (lv_at hl 0 rfl) ?_
    refine lv_if_eq (tgt := 17) hx hb dX9_fogs_11 (by decide) (fun c_208 => absurd c_208 (by decide)) (fun _ => ?_)
    refine lv_iload hx hb dX9_fogs_14 (lv_at hl 0 rfl) ?_
    exact fiI hx hb hr hlk hK hP hD hS dX9_fogs_16 (Nat.le_of_ble_eq_true rfl) (Nat.le_of_ble_eq_true rfl) (⟨(iv_c ((-4) : Int32) (by decide)), rfl⟩)
  · have hP : va_P V.1 vwCl [(y 0, .inr (9, o9_rirrrrrrrrvviii (y 1) py0_1 (y 2) (y 10) (y 19) (y 25) (y 26) (y 30) (y 31) (y 32) o10 o11 py0_12 py0_13 py0_14)), (y 2, .inr (1, o1_iiiiiirrrrrrriiiii py2_0 py2_1 py2_2 py2_3 py2_4 py2_5 (y 3) (y 4) (y 5) (y 6) (y 7) (y 8) (y 9) py2_13 py2_14 py2_15 py2_16 py2_17)), (y 30, aT V 4 (va_up (va_up (va_up (va_up (fun _ => none) 0 (some (y 33))) 1 (some (y 35))) 2 (some (y 37))) 3 (some (y 39)))), (y 33, .inr (7, o7_rii (y 34) py33_1 py33_2)), (y 34, aJ V 40 fy34), (y 35, .inr (7, o7_rii (y 36) py35_1 py35_2)), (y 36, aJ V 40 fy36), (y 37, .inr (7, o7_rii (y 38) py37_1 py37_2)), (y 38, aJ V 40 fy38), (y 39, .inr (7, o7_rii (y 40) py39_1 py39_2)), (y 40, aJ V 40 fy40)] H := hP
    have hD := cpD hP hD
    have b_209 : iv 0 2147483647 a2 := iv_e2 (Int32.not_lt.mp c_26) (iv_c (0 : Int32) (a := 0) (b := 0) (by decide)) (iv_top a2) (by decide)
    have b_210 : iv 0 3 a2 := iv_l1 (Int32.not_le.mp c_27) b_209 bpy2_1 (by decide)
    have b_211 : iv 1 4 py2_1 := iv_l2 (Int32.not_le.mp c_27) b_209 bpy2_1 (by decide)
    have b_212 : iv 0 0 a1 := iv_q c_28 (iv_c (0 : Int32) (a := 0) (b := 0) (by decide))
    have b_213 : iv 0 40 py33_1 := iv_e2 c_29 (iv_c (0 : Int32) (a := 0) (b := 0) (by decide)) bpy33_1 (by decide)
    have b_214 : iv 1 40 py33_1 := iv_e2 (Int32.not_lt.mp c_30) (iv_c (1 : Int32) (a := 1) (b := 1) (by decide)) b_213 (by decide)
    have b_215 : iv 1 8 py33_1 := iv_e1 c_31 b_214 (iv_c (8 : Int32) (a := 8) (b := 8) (by decide)) (by decide)
    refine lv_istore (lv' := [(4, .int 0), (0, .ref (y 0)), (1, .int a1), (2, .int a2), (3, .int a3)]) hx hb dX9_fogs_7 hl (by decide) rfl (fun ls hl => ?_)
    refine lv_iload hx hb dX9_fogs_9 (lv_at hl 0 rfl) ?_
    refine lv_if_eq (tgt := 17) hx hb dX9_fogs_11 (by decide) (fun _ => ?_) (fun c_217 => absurd c_217 (by decide))
    refine lv_iload_n hx hb dX9_fogs_17 rfl (lv_at hl 4 rfl) ?_
    refine lv_if_ge (tgt := 24) hx hb dX9_fogs_18 (by decide) (fun c_218 => ?_) (fun c_218 => ?_)
    · have b_219 : iv 0 2147483647 a3 := iv_e2 c_218 (iv_c (0 : Int32) (a := 0) (b := 0) (by decide)) (iv_top a3) (by decide)
      refine lv_iload_n hx hb dX9_fogs_24 rfl (lv_at hl 4 rfl) ?_
      refine lv_aload_n hx hb dX9_fogs_25 rfl (lv_at hl 1 rfl) ?_
      refine va_get (ci := 9) (v := .ref (y 30)) (C := RX9) (T := TX9) (N := 15) hx hb hg inX9 hown hK hP 0 rfl rfl 7 (by decide) (hg _ q_2_43) (fun _ h9 => h9) rfl dX9_fogs_26 ?_
      refine lv_iload_n hx hb dX9_fogs_29 rfl (lv_at hl 2 rfl) ?_
      have c_220 : a1 = 0 := by have q9 := b_212; unfold iv at q9; simp only [tI_eq, (by decide : (0 : Int32).toInt = 0)]; omega
      rcases c_220 with rfl
      · refine va_aldq hx hb hK hP 2 4 rfl rfl (vin (by decide +kernel)) dX9_fogs_30 ?_
        refine W.eq (g2 := F0 m 31 ls (.ref (y 33) :: .int a3 :: [])) rfl ?_
        refine va_get (ci := 7) (v := .int py33_1) (C := RX7) (T := TX7) (N := 3) hx hb hg inX7 hown hK hP 3 rfl rfl 1 (by decide) (hg _ q_2_2) (fun _ h9 => h9) rfl dX9_fogs_31 ?_
        refine lv_icmp_lt (tgt := 40) hx hb dX9_fogs_34 (by decide) (fun c_221 => ?_) (fun c_221 => ?_)
        · have b_222 : iv 0 7 a3 := iv_l1 c_221 b_219 b_215 (by decide)
          refine lv_aload_n hx hb dX9_fogs_40 rfl (lv_at hl 1 rfl) ?_
          refine lv_aload_n hx hb dX9_fogs_41 rfl (lv_at hl 1 rfl) ?_
          refine va_get (ci := 9) (v := .ref (y 30)) (C := RX9) (T := TX9) (N := 15) hx hb hg inX9 hown hK hP 0 rfl rfl 7 (by decide) (hg _ q_2_43) (fun _ h9 => h9) rfl dX9_fogs_42 ?_
          refine lv_iload_n hx hb dX9_fogs_45 rfl (lv_at hl 2 rfl) ?_
          refine va_aldq hx hb hK hP 2 4 rfl rfl (vin (by decide +kernel)) dX9_fogs_46 ?_
          refine W.eq (g2 := F0 m 47 ls (.ref (y 33) :: .ref (y 0) :: [])) rfl ?_
          refine va_get (ci := 7) (v := .int py33_1) (C := RX7) (T := TX7) (N := 3) hx hb hg inX7 hown hK hP 3 rfl rfl 1 (by decide) (hg _ q_2_2) (fun _ h9 => h9) rfl dX9_fogs_47 ?_
          have z_0 := Int32.le_iff_toInt_le.mp (Int32.not_lt.mp c_24)
          have z_1 := Int32.lt_iff_toInt_lt.mp (Int32.not_le.mp c_25)
          have z_2 := Int32.le_iff_toInt_le.mp (Int32.not_lt.mp c_26)
          have z_3 := Int32.lt_iff_toInt_lt.mp (Int32.not_le.mp c_27)
          have z_4 := congrArg Int32.toInt c_28
          have z_5 := Int32.le_iff_toInt_le.mp c_29
          have z_6 := Int32.le_iff_toInt_le.mp (Int32.not_lt.mp c_30)
          have z_7 := Int32.le_iff_toInt_le.mp c_31
          have z_8 := Int32.le_iff_toInt_le.mp c_218
          have z_9 := Int32.lt_iff_toInt_lt.mp c_221
          have k_0 : (0 : Int32).toInt = 0 := (by decide)
          have k_1 : (1 : Int32).toInt = 1 := (by decide)
          have k_4 : (4 : Int32).toInt = 4 := (by decide)
          have k_8 : (8 : Int32).toInt = 8 := (by decide)
          exact absurd ⟨g_32.symm, by omega, by rw [cntF_0]; omega⟩ hf0
        · have b_223 : iv 1 2147483647 a3 := iv_e2 (Int32.not_lt.mp c_221) b_215 b_219 (by decide)
          refine lv_bipush (v := (-7)) hx hb dX9_fogs_37 (by decide) ?_
          exact fiI hx hb hr hlk hK hP hD hS dX9_fogs_39 (Nat.le_of_ble_eq_true rfl) (Nat.le_of_ble_eq_true rfl) (⟨(iv_c ((-7) : Int32) (by decide)), rfl⟩)
    · have b_224 : iv (-2147483648) (-1) a3 := iv_l1 (Int32.not_le.mp c_218) (iv_top a3) (iv_c (0 : Int32) (a := 0) (b := 0) (by decide)) (by decide)
      refine lv_bipush (v := (-3)) hx hb dX9_fogs_21 (by decide) ?_
      exact fiI hx hb hr hlk hK hP hD hS dX9_fogs_23 (Nat.le_of_ble_eq_true rfl) (Nat.le_of_ble_eq_true rfl) (⟨(iv_c ((-3) : Int32) (by decide)), rfl⟩)
  · have hP : va_P V.1 vwCl [(y 0, .inr (9, o9_rirrrrrrrrvviii (y 1) py0_1 (y 2) (y 10) (y 19) (y 25) (y 26) (y 30) (y 31) (y 32) o10 o11 py0_12 py0_13 py0_14)), (y 2, .inr (1, o1_iiiiiirrrrrrriiiii py2_0 py2_1 py2_2 py2_3 py2_4 py2_5 (y 3) (y 4) (y 5) (y 6) (y 7) (y 8) (y 9) py2_13 py2_14 py2_15 py2_16 py2_17)), (y 30, aT V 4 (va_up (va_up (va_up (va_up (fun _ => none) 0 (some (y 33))) 1 (some (y 35))) 2 (some (y 37))) 3 (some (y 39)))), (y 33, .inr (7, o7_rii (y 34) py33_1 py33_2)), (y 34, aJ V 40 fy34), (y 35, .inr (7, o7_rii (y 36) py35_1 py35_2)), (y 36, aJ V 40 fy36), (y 37, .inr (7, o7_rii (y 38) py37_1 py37_2)), (y 38, aJ V 40 fy38), (y 39, .inr (7, o7_rii (y 40) py39_1 py39_2)), (y 40, aJ V 40 fy40)] H := hP
    have hD := cpD hP hD
    have b_225 : iv 0 2147483647 a2 := iv_e2 (Int32.not_lt.mp c_35) (iv_c (0 : Int32) (a := 0) (b := 0) (by decide)) (iv_top a2) (by decide)
    have b_226 : iv 0 3 a2 := iv_l1 (Int32.not_le.mp c_36) b_225 bpy2_1 (by decide)
    have b_227 : iv 1 4 py2_1 := iv_l2 (Int32.not_le.mp c_36) b_225 bpy2_1 (by decide)
    have b_228 : iv 0 0 a1 := iv_q c_37 (iv_c (0 : Int32) (a := 0) (b := 0) (by decide))
    have b_229 : iv 0 40 py33_1 := iv_e2 c_38 (iv_c (0 : Int32) (a := 0) (b := 0) (by decide)) bpy33_1 (by decide)
    have b_230 : iv 1 40 py33_1 := iv_e2 (Int32.not_lt.mp c_39) (iv_c (1 : Int32) (a := 1) (b := 1) (by decide)) b_229 (by decide)
    have b_231 : iv 1 8 py33_1 := iv_e1 c_40 b_230 (iv_c (8 : Int32) (a := 8) (b := 8) (by decide)) (by decide)
    refine lv_istore (lv' := [(4, .int (-3)), (0, .ref (y 0)), (1, .int a1), (2, .int a2), (3, .int a3)]) hx hb dX9_fogs_7 hl (by decide) rfl (fun ls hl => ?_)
    refine lv_iload hx hb dX9_fogs_9 (lv_at hl 0 rfl) ?_
    refine lv_if_eq (tgt := 17) hx hb dX9_fogs_11 (by decide) (fun c_233 => absurd c_233 (by decide)) (fun _ => ?_)
    refine lv_iload hx hb dX9_fogs_14 (lv_at hl 0 rfl) ?_
    exact fiI hx hb hr hlk hK hP hD hS dX9_fogs_16 (Nat.le_of_ble_eq_true rfl) (Nat.le_of_ble_eq_true rfl) (⟨(iv_c ((-3) : Int32) (by decide)), rfl⟩)
  · have hP : va_P V.1 vwCl [(y 0, .inr (9, o9_rirrrrrrrrvviii (y 1) py0_1 (y 2) (y 10) (y 19) (y 25) (y 26) (y 30) (y 31) (y 32) o10 o11 py0_12 py0_13 py0_14)), (y 2, .inr (1, o1_iiiiiirrrrrrriiiii py2_0 py2_1 py2_2 py2_3 py2_4 py2_5 (y 3) (y 4) (y 5) (y 6) (y 7) (y 8) (y 9) py2_13 py2_14 py2_15 py2_16 py2_17)), (y 30, aT V 4 (va_up (va_up (va_up (va_up (fun _ => none) 0 (some (y 33))) 1 (some (y 35))) 2 (some (y 37))) 3 (some (y 39)))), (y 33, .inr (7, o7_rii (y 34) py33_1 py33_2)), (y 34, aJ V 40 fy34), (y 35, .inr (7, o7_rii (y 36) py35_1 py35_2)), (y 36, aJ V 40 fy36), (y 37, .inr (7, o7_rii (y 38) py37_1 py37_2)), (y 38, aJ V 40 fy38), (y 39, .inr (7, o7_rii (y 40) py39_1 py39_2)), (y 40, aJ V 40 fy40)] H := hP
    have hD := cpD hP hD
    have b_234 : iv 0 2147483647 a2 := iv_e2 (Int32.not_lt.mp c_44) (iv_c (0 : Int32) (a := 0) (b := 0) (by decide)) (iv_top a2) (by decide)
    have b_235 : iv 0 3 a2 := iv_l1 (Int32.not_le.mp c_45) b_234 bpy2_1 (by decide)
    have b_236 : iv 1 4 py2_1 := iv_l2 (Int32.not_le.mp c_45) b_234 bpy2_1 (by decide)
    have b_237 : iv 0 0 a1 := iv_q c_46 (iv_c (0 : Int32) (a := 0) (b := 0) (by decide))
    have b_238 : iv 0 40 py33_1 := iv_e2 c_47 (iv_c (0 : Int32) (a := 0) (b := 0) (by decide)) bpy33_1 (by decide)
    have b_239 : iv 1 40 py33_1 := iv_e2 (Int32.not_lt.mp c_48) (iv_c (1 : Int32) (a := 1) (b := 1) (by decide)) b_238 (by decide)
    have b_240 : iv 9 40 py33_1 := iv_l2 (Int32.not_le.mp c_49) (iv_c (8 : Int32) (a := 8) (b := 8) (by decide)) b_239 (by decide)
    refine lv_istore (lv' := [(4, .int (-4)), (0, .ref (y 0)), (1, .int a1), (2, .int a2), (3, .int a3)]) hx hb dX9_fogs_7 hl (by decide) rfl (fun ls hl => ?_)
    refine lv_iload hx hb dX9_fogs_9 (lv_at hl 0 rfl) ?_
    refine lv_if_eq (tgt := 17) hx hb dX9_fogs_11 (by decide) (fun c_242 => absurd c_242 (by decide)) (fun _ => ?_)
    refine lv_iload hx hb dX9_fogs_14 (lv_at hl 0 rfl) ?_
    exact fiI hx hb hr hlk hK hP hD hS dX9_fogs_16 (Nat.le_of_ble_eq_true rfl) (Nat.le_of_ble_eq_true rfl) (⟨(iv_c ((-4) : Int32) (by decide)), rfl⟩)
  · have hP : va_P V.1 vwCl [(y 0, .inr (9, o9_rirrrrrrrrvviii (y 1) py0_1 (y 2) (y 10) (y 19) (y 25) (y 26) (y 30) (y 31) (y 32) o10 o11 py0_12 py0_13 py0_14)), (y 2, .inr (1, o1_iiiiiirrrrrrriiiii py2_0 py2_1 py2_2 py2_3 py2_4 py2_5 (y 3) (y 4) (y 5) (y 6) (y 7) (y 8) (y 9) py2_13 py2_14 py2_15 py2_16 py2_17)), (y 30, aT V 4 (va_up (va_up (va_up (va_up (fun _ => none) 0 (some (y 33))) 1 (some (y 35))) 2 (some (y 37))) 3 (some (y 39)))), (y 33, .inr (7, o7_rii (y 34) py33_1 py33_2)), (y 34, aJ V 40 fy34), (y 35, .inr (7, o7_rii (y 36) py35_1 py35_2)), (y 36, aJ V 40 fy36), (y 37, .inr (7, o7_rii (y 38) py37_1 py37_2)), (y 38, aJ V 40 fy38), (y 39, .inr (7, o7_rii (y 40) py39_1 py39_2)), (y 40, aJ V 40 fy40)] H := hP
    have hD := cpD hP hD
    have b_243 : iv 0 2147483647 a2 := iv_e2 (Int32.not_lt.mp c_53) (iv_c (0 : Int32) (a := 0) (b := 0) (by decide)) (iv_top a2) (by decide)
    have b_244 : iv 0 3 a2 := iv_l1 (Int32.not_le.mp c_54) b_243 bpy2_1 (by decide)
    have b_245 : iv 1 4 py2_1 := iv_l2 (Int32.not_le.mp c_54) b_243 bpy2_1 (by decide)
    have b_246 : iv 0 0 a1 := iv_q c_55 (iv_c (0 : Int32) (a := 0) (b := 0) (by decide))
    have b_247 : iv (-1) (-1) py33_1 := iv_l1 (Int32.not_le.mp c_56) bpy33_1 (iv_c (0 : Int32) (a := 0) (b := 0) (by decide)) (by decide)
    refine lv_istore (lv' := [(4, .int (-6)), (0, .ref (y 0)), (1, .int a1), (2, .int a2), (3, .int a3)]) hx hb dX9_fogs_7 hl (by decide) rfl (fun ls hl => ?_)
    refine lv_iload hx hb dX9_fogs_9 (lv_at hl 0 rfl) ?_
    refine lv_if_eq (tgt := 17) hx hb dX9_fogs_11 (by decide) (fun c_249 => absurd c_249 (by decide)) (fun _ => ?_)
    refine lv_iload hx hb dX9_fogs_14 (lv_at hl 0 rfl) ?_
    exact fiI hx hb hr hlk hK hP hD hS dX9_fogs_16 (Nat.le_of_ble_eq_true rfl) (Nat.le_of_ble_eq_true rfl) (⟨(iv_c ((-6) : Int32) (by decide)), rfl⟩)
  · have hP : va_P V.1 vwCl [(y 0, .inr (9, o9_rirrrrrrrrvviii (y 1) py0_1 (y 2) (y 10) (y 19) (y 25) (y 26) (y 30) (y 31) (y 32) o10 o11 py0_12 py0_13 py0_14)), (y 2, .inr (1, o1_iiiiiirrrrrrriiiii py2_0 py2_1 py2_2 py2_3 py2_4 py2_5 (y 3) (y 4) (y 5) (y 6) (y 7) (y 8) (y 9) py2_13 py2_14 py2_15 py2_16 py2_17)), (y 30, aT V 4 (va_up (va_up (va_up (va_up (fun _ => none) 0 (some (y 33))) 1 (some (y 35))) 2 (some (y 37))) 3 (some (y 39)))), (y 33, .inr (7, o7_rii (y 34) py33_1 py33_2)), (y 34, aJ V 40 fy34), (y 35, .inr (7, o7_rii (y 36) py35_1 py35_2)), (y 36, aJ V 40 fy36), (y 37, .inr (7, o7_rii (y 38) py37_1 py37_2)), (y 38, aJ V 40 fy38), (y 39, .inr (7, o7_rii (y 40) py39_1 py39_2)), (y 40, aJ V 40 fy40)] H := hP
    have hD := cpD hP hD
    have b_250 : iv 0 2147483647 a2 := iv_e2 (Int32.not_lt.mp c_60) (iv_c (0 : Int32) (a := 0) (b := 0) (by decide)) (iv_top a2) (by decide)
    have b_251 : iv 0 3 a2 := iv_l1 (Int32.not_le.mp c_61) b_250 bpy2_1 (by decide)
    have b_252 : iv 1 4 py2_1 := iv_l2 (Int32.not_le.mp c_61) b_250 bpy2_1 (by decide)
    have b_253 : iv 1 1 a1 := iv_q c_62 (iv_c (1 : Int32) (a := 1) (b := 1) (by decide))
    have b_254 : iv 0 40 py35_1 := iv_e2 c_63 (iv_c (0 : Int32) (a := 0) (b := 0) (by decide)) bpy35_1 (by decide)
    have b_255 : iv 0 0 py35_1 := iv_l1 c_64 b_254 (iv_c (1 : Int32) (a := 1) (b := 1) (by decide)) (by decide)
    refine lv_istore (lv' := [(4, .int (-4)), (0, .ref (y 0)), (1, .int a1), (2, .int a2), (3, .int a3)]) hx hb dX9_fogs_7 hl (by decide) rfl (fun ls hl => ?_)
    refine lv_iload hx hb dX9_fogs_9 (lv_at hl 0 rfl) ?_
    refine lv_if_eq (tgt := 17) hx hb dX9_fogs_11 (by decide) (fun c_257 => absurd c_257 (by decide)) (fun _ => ?_)
    refine lv_iload hx hb dX9_fogs_14 (lv_at hl 0 rfl) ?_
    exact fiI hx hb hr hlk hK hP hD hS dX9_fogs_16 (Nat.le_of_ble_eq_true rfl) (Nat.le_of_ble_eq_true rfl) (⟨(iv_c ((-4) : Int32) (by decide)), rfl⟩)
  · have hP : va_P V.1 vwCl [(y 0, .inr (9, o9_rirrrrrrrrvviii (y 1) py0_1 (y 2) (y 10) (y 19) (y 25) (y 26) (y 30) (y 31) (y 32) o10 o11 py0_12 py0_13 py0_14)), (y 2, .inr (1, o1_iiiiiirrrrrrriiiii py2_0 py2_1 py2_2 py2_3 py2_4 py2_5 (y 3) (y 4) (y 5) (y 6) (y 7) (y 8) (y 9) py2_13 py2_14 py2_15 py2_16 py2_17)), (y 30, aT V 4 (va_up (va_up (va_up (va_up (fun _ => none) 0 (some (y 33))) 1 (some (y 35))) 2 (some (y 37))) 3 (some (y 39)))), (y 33, .inr (7, o7_rii (y 34) py33_1 py33_2)), (y 34, aJ V 40 fy34), (y 35, .inr (7, o7_rii (y 36) py35_1 py35_2)), (y 36, aJ V 40 fy36), (y 37, .inr (7, o7_rii (y 38) py37_1 py37_2)), (y 38, aJ V 40 fy38), (y 39, .inr (7, o7_rii (y 40) py39_1 py39_2)), (y 40, aJ V 40 fy40)] H := hP
    have hD := cpD hP hD
    have b_258 : iv 0 2147483647 a2 := iv_e2 (Int32.not_lt.mp c_68) (iv_c (0 : Int32) (a := 0) (b := 0) (by decide)) (iv_top a2) (by decide)
    have b_259 : iv 0 3 a2 := iv_l1 (Int32.not_le.mp c_69) b_258 bpy2_1 (by decide)
    have b_260 : iv 1 4 py2_1 := iv_l2 (Int32.not_le.mp c_69) b_258 bpy2_1 (by decide)
    have b_261 : iv 1 1 a1 := iv_q c_70 (iv_c (1 : Int32) (a := 1) (b := 1) (by decide))
    have b_262 : iv 0 40 py35_1 := iv_e2 c_71 (iv_c (0 : Int32) (a := 0) (b := 0) (by decide)) bpy35_1 (by decide)
    have b_263 : iv 1 40 py35_1 := iv_e2 (Int32.not_lt.mp c_72) (iv_c (1 : Int32) (a := 1) (b := 1) (by decide)) b_262 (by decide)
    have b_264 : iv 1 8 py35_1 := iv_e1 c_73 b_263 (iv_c (8 : Int32) (a := 8) (b := 8) (by decide)) (by decide)
    refine lv_istore (lv' := [(4, .int 0), (0, .ref (y 0)), (1, .int a1), (2, .int a2), (3, .int a3)]) hx hb dX9_fogs_7 hl (by decide) rfl (fun ls hl => ?_)
    refine lv_iload hx hb dX9_fogs_9 (lv_at hl 0 rfl) ?_
    refine lv_if_eq (tgt := 17) hx hb dX9_fogs_11 (by decide) (fun _ => ?_) (fun c_266 => absurd c_266 (by decide))
    refine lv_iload_n hx hb dX9_fogs_17 rfl (lv_at hl 4 rfl) ?_
    refine lv_if_ge (tgt := 24) hx hb dX9_fogs_18 (by decide) (fun c_267 => ?_) (fun c_267 => ?_)
    · have b_268 : iv 0 2147483647 a3 := iv_e2 c_267 (iv_c (0 : Int32) (a := 0) (b := 0) (by decide)) (iv_top a3) (by decide)
      refine lv_iload_n hx hb dX9_fogs_24 rfl (lv_at hl 4 rfl) ?_
      refine lv_aload_n hx hb dX9_fogs_25 rfl (lv_at hl 1 rfl) ?_
      refine va_get (ci := 9) (v := .ref (y 30)) (C := RX9) (T := TX9) (N := 15) hx hb hg inX9 hown hK hP 0 rfl rfl 7 (by decide) (hg _ q_2_43) (fun _ h9 => h9) rfl dX9_fogs_26 ?_
      refine lv_iload_n hx hb dX9_fogs_29 rfl (lv_at hl 2 rfl) ?_
      have c_269 : a1 = 1 := by have q9 := b_261; unfold iv at q9; simp only [tI_eq, (by decide : (1 : Int32).toInt = 1)]; omega
      rcases c_269 with rfl
      · refine va_aldq hx hb hK hP 2 4 rfl rfl (vin (by decide +kernel)) dX9_fogs_30 ?_
        refine W.eq (g2 := F0 m 31 ls (.ref (y 35) :: .int a3 :: [])) rfl ?_
        refine va_get (ci := 7) (v := .int py35_1) (C := RX7) (T := TX7) (N := 3) hx hb hg inX7 hown hK hP 5 rfl rfl 1 (by decide) (hg _ q_2_2) (fun _ h9 => h9) rfl dX9_fogs_31 ?_
        refine lv_icmp_lt (tgt := 40) hx hb dX9_fogs_34 (by decide) (fun c_270 => ?_) (fun c_270 => ?_)
        · have b_271 : iv 0 7 a3 := iv_l1 c_270 b_268 b_264 (by decide)
          refine lv_aload_n hx hb dX9_fogs_40 rfl (lv_at hl 1 rfl) ?_
          refine lv_aload_n hx hb dX9_fogs_41 rfl (lv_at hl 1 rfl) ?_
          refine va_get (ci := 9) (v := .ref (y 30)) (C := RX9) (T := TX9) (N := 15) hx hb hg inX9 hown hK hP 0 rfl rfl 7 (by decide) (hg _ q_2_43) (fun _ h9 => h9) rfl dX9_fogs_42 ?_
          refine lv_iload_n hx hb dX9_fogs_45 rfl (lv_at hl 2 rfl) ?_
          refine va_aldq hx hb hK hP 2 4 rfl rfl (vin (by decide +kernel)) dX9_fogs_46 ?_
          refine W.eq (g2 := F0 m 47 ls (.ref (y 35) :: .ref (y 0) :: [])) rfl ?_
          refine va_get (ci := 7) (v := .int py35_1) (C := RX7) (T := TX7) (N := 3) hx hb hg inX7 hown hK hP 5 rfl rfl 1 (by decide) (hg _ q_2_2) (fun _ h9 => h9) rfl dX9_fogs_47 ?_
          have z_0 := Int32.le_iff_toInt_le.mp (Int32.not_lt.mp c_66)
          have z_1 := Int32.lt_iff_toInt_lt.mp (Int32.not_le.mp c_67)
          have z_2 := Int32.le_iff_toInt_le.mp (Int32.not_lt.mp c_68)
          have z_3 := Int32.lt_iff_toInt_lt.mp (Int32.not_le.mp c_69)
          have z_4 := congrArg Int32.toInt c_70
          have z_5 := Int32.le_iff_toInt_le.mp c_71
          have z_6 := Int32.le_iff_toInt_le.mp (Int32.not_lt.mp c_72)
          have z_7 := Int32.le_iff_toInt_le.mp c_73
          have z_8 := Int32.le_iff_toInt_le.mp c_267
          have z_9 := Int32.lt_iff_toInt_lt.mp c_270
          have k_0 : (0 : Int32).toInt = 0 := (by decide)
          have k_1 : (1 : Int32).toInt = 1 := (by decide)
          have k_4 : (4 : Int32).toInt = 4 := (by decide)
          have k_8 : (8 : Int32).toInt = 8 := (by decide)
          exact absurd ⟨g_74.symm, by omega, by rw [cntF_1]; omega⟩ hf0
        · have b_272 : iv 1 2147483647 a3 := iv_e2 (Int32.not_lt.mp c_270) b_264 b_268 (by decide)
          refine lv_bipush (v := (-7)) hx hb dX9_fogs_37 (by decide) ?_
          exact fiI hx hb hr hlk hK hP hD hS dX9_fogs_39 (Nat.le_of_ble_eq_true rfl) (Nat.le_of_ble_eq_true rfl) (⟨(iv_c ((-7) : Int32) (by decide)), rfl⟩)
    · have b_273 : iv (-2147483648) (-1) a3 := iv_l1 (Int32.not_le.mp c_267) (iv_top a3) (iv_c (0 : Int32) (a := 0) (b := 0) (by decide)) (by decide)
      refine lv_bipush (v := (-3)) hx hb dX9_fogs_21 (by decide) ?_
      exact fiI hx hb hr hlk hK hP hD hS dX9_fogs_23 (Nat.le_of_ble_eq_true rfl) (Nat.le_of_ble_eq_true rfl) (⟨(iv_c ((-3) : Int32) (by decide)), rfl⟩)
  · have hP : va_P V.1 vwCl [(y 0, .inr (9, o9_rirrrrrrrrvviii (y 1) py0_1 (y 2) (y 10) (y 19) (y 25) (y 26) (y 30) (y 31) (y 32) o10 o11 py0_12 py0_13 py0_14)), (y 2, .inr (1, o1_iiiiiirrrrrrriiiii py2_0 py2_1 py2_2 py2_3 py2_4 py2_5 (y 3) (y 4) (y 5) (y 6) (y 7) (y 8) (y 9) py2_13 py2_14 py2_15 py2_16 py2_17)), (y 30, aT V 4 (va_up (va_up (va_up (va_up (fun _ => none) 0 (some (y 33))) 1 (some (y 35))) 2 (some (y 37))) 3 (some (y 39)))), (y 33, .inr (7, o7_rii (y 34) py33_1 py33_2)), (y 34, aJ V 40 fy34), (y 35, .inr (7, o7_rii (y 36) py35_1 py35_2)), (y 36, aJ V 40 fy36), (y 37, .inr (7, o7_rii (y 38) py37_1 py37_2)), (y 38, aJ V 40 fy38), (y 39, .inr (7, o7_rii (y 40) py39_1 py39_2)), (y 40, aJ V 40 fy40)] H := hP
    have hD := cpD hP hD
    have b_274 : iv 0 2147483647 a2 := iv_e2 (Int32.not_lt.mp c_77) (iv_c (0 : Int32) (a := 0) (b := 0) (by decide)) (iv_top a2) (by decide)
    have b_275 : iv 0 3 a2 := iv_l1 (Int32.not_le.mp c_78) b_274 bpy2_1 (by decide)
    have b_276 : iv 1 4 py2_1 := iv_l2 (Int32.not_le.mp c_78) b_274 bpy2_1 (by decide)
    have b_277 : iv 1 1 a1 := iv_q c_79 (iv_c (1 : Int32) (a := 1) (b := 1) (by decide))
    have b_278 : iv 0 40 py35_1 := iv_e2 c_80 (iv_c (0 : Int32) (a := 0) (b := 0) (by decide)) bpy35_1 (by decide)
    have b_279 : iv 1 40 py35_1 := iv_e2 (Int32.not_lt.mp c_81) (iv_c (1 : Int32) (a := 1) (b := 1) (by decide)) b_278 (by decide)
    have b_280 : iv 1 8 py35_1 := iv_e1 c_82 b_279 (iv_c (8 : Int32) (a := 8) (b := 8) (by decide)) (by decide)
    refine lv_istore (lv' := [(4, .int (-3)), (0, .ref (y 0)), (1, .int a1), (2, .int a2), (3, .int a3)]) hx hb dX9_fogs_7 hl (by decide) rfl (fun ls hl => ?_)
    refine lv_iload hx hb dX9_fogs_9 (lv_at hl 0 rfl) ?_
    refine lv_if_eq (tgt := 17) hx hb dX9_fogs_11 (by decide) (fun c_282 => absurd c_282 (by decide)) (fun _ => ?_)
    refine lv_iload hx hb dX9_fogs_14 (lv_at hl 0 rfl) ?_
    exact fiI hx hb hr hlk hK hP hD hS dX9_fogs_16 (Nat.le_of_ble_eq_true rfl) (Nat.le_of_ble_eq_true rfl) (⟨(iv_c ((-3) : Int32) (by decide)), rfl⟩)
  · have hP : va_P V.1 vwCl [(y 0, .inr (9, o9_rirrrrrrrrvviii (y 1) py0_1 (y 2) (y 10) (y 19) (y 25) (y 26) (y 30) (y 31) (y 32) o10 o11 py0_12 py0_13 py0_14)), (y 2, .inr (1, o1_iiiiiirrrrrrriiiii py2_0 py2_1 py2_2 py2_3 py2_4 py2_5 (y 3) (y 4) (y 5) (y 6) (y 7) (y 8) (y 9) py2_13 py2_14 py2_15 py2_16 py2_17)), (y 30, aT V 4 (va_up (va_up (va_up (va_up (fun _ => none) 0 (some (y 33))) 1 (some (y 35))) 2 (some (y 37))) 3 (some (y 39)))), (y 33, .inr (7, o7_rii (y 34) py33_1 py33_2)), (y 34, aJ V 40 fy34), (y 35, .inr (7, o7_rii (y 36) py35_1 py35_2)), (y 36, aJ V 40 fy36), (y 37, .inr (7, o7_rii (y 38) py37_1 py37_2)), (y 38, aJ V 40 fy38), (y 39, .inr (7, o7_rii (y 40) py39_1 py39_2)), (y 40, aJ V 40 fy40)] H := hP
    have hD := cpD hP hD
    have b_283 : iv 0 2147483647 a2 := iv_e2 (Int32.not_lt.mp c_86) (iv_c (0 : Int32) (a := 0) (b := 0) (by decide)) (iv_top a2) (by decide)
    have b_284 : iv 0 3 a2 := iv_l1 (Int32.not_le.mp c_87) b_283 bpy2_1 (by decide)
    have b_285 : iv 1 4 py2_1 := iv_l2 (Int32.not_le.mp c_87) b_283 bpy2_1 (by decide)
    have b_286 : iv 1 1 a1 := iv_q c_88 (iv_c (1 : Int32) (a := 1) (b := 1) (by decide))
    have b_287 : iv 0 40 py35_1 := iv_e2 c_89 (iv_c (0 : Int32) (a := 0) (b := 0) (by decide)) bpy35_1 (by decide)
    have b_288 : iv 1 40 py35_1 := iv_e2 (Int32.not_lt.mp c_90) (iv_c (1 : Int32) (a := 1) (b := 1) (by decide)) b_287 (by decide)
    have b_289 : iv 9 40 py35_1 := iv_l2 (Int32.not_le.mp c_91) (iv_c (8 : Int32) (a := 8) (b := 8) (by decide)) b_288 (by decide)
    refine lv_istore (lv' := [(4, .int (-4)), (0, .ref (y 0)), (1, .int a1), (2, .int a2), (3, .int a3)]) hx hb dX9_fogs_7 hl (by decide) rfl (fun ls hl => ?_)
    refine lv_iload hx hb dX9_fogs_9 (lv_at hl 0 rfl) ?_
    refine lv_if_eq (tgt := 17) hx hb dX9_fogs_11 (by decide) (fun c_291 => absurd c_291 (by decide)) (fun _ => ?_)
    refine lv_iload hx hb dX9_fogs_14 (lv_at hl 0 rfl) ?_
    exact fiI hx hb hr hlk hK hP hD hS dX9_fogs_16 (Nat.le_of_ble_eq_true rfl) (Nat.le_of_ble_eq_true rfl) (⟨(iv_c ((-4) : Int32) (by decide)), rfl⟩)
  · have hP : va_P V.1 vwCl [(y 0, .inr (9, o9_rirrrrrrrrvviii (y 1) py0_1 (y 2) (y 10) (y 19) (y 25) (y 26) (y 30) (y 31) (y 32) o10 o11 py0_12 py0_13 py0_14)), (y 2, .inr (1, o1_iiiiiirrrrrrriiiii py2_0 py2_1 py2_2 py2_3 py2_4 py2_5 (y 3) (y 4) (y 5) (y 6) (y 7) (y 8) (y 9) py2_13 py2_14 py2_15 py2_16 py2_17)), (y 30, aT V 4 (va_up (va_up (va_up (va_up (fun _ => none) 0 (some (y 33))) 1 (some (y 35))) 2 (some (y 37))) 3 (some (y 39)))), (y 33, .inr (7, o7_rii (y 34) py33_1 py33_2)), (y 34, aJ V 40 fy34), (y 35, .inr (7, o7_rii (y 36) py35_1 py35_2)), (y 36, aJ V 40 fy36), (y 37, .inr (7, o7_rii (y 38) py37_1 py37_2)), (y 38, aJ V 40 fy38), (y 39, .inr (7, o7_rii (y 40) py39_1 py39_2)), (y 40, aJ V 40 fy40)] H := hP
    have hD := cpD hP hD
    have b_292 : iv 0 2147483647 a2 := iv_e2 (Int32.not_lt.mp c_95) (iv_c (0 : Int32) (a := 0) (b := 0) (by decide)) (iv_top a2) (by decide)
    have b_293 : iv 0 3 a2 := iv_l1 (Int32.not_le.mp c_96) b_292 bpy2_1 (by decide)
    have b_294 : iv 1 4 py2_1 := iv_l2 (Int32.not_le.mp c_96) b_292 bpy2_1 (by decide)
    have b_295 : iv 1 1 a1 := iv_q c_97 (iv_c (1 : Int32) (a := 1) (b := 1) (by decide))
    have b_296 : iv (-1) (-1) py35_1 := iv_l1 (Int32.not_le.mp c_98) bpy35_1 (iv_c (0 : Int32) (a := 0) (b := 0) (by decide)) (by decide)
    refine lv_istore (lv' := [(4, .int (-6)), (0, .ref (y 0)), (1, .int a1), (2, .int a2), (3, .int a3)]) hx hb dX9_fogs_7 hl (by decide) rfl (fun ls hl => ?_)
    refine lv_iload hx hb dX9_fogs_9 (lv_at hl 0 rfl) ?_
    refine lv_if_eq (tgt := 17) hx hb dX9_fogs_11 (by decide) (fun c_298 => absurd c_298 (by decide)) (fun _ => ?_)
    refine lv_iload hx hb dX9_fogs_14 (lv_at hl 0 rfl) ?_
    exact fiI hx hb hr hlk hK hP hD hS dX9_fogs_16 (Nat.le_of_ble_eq_true rfl) (Nat.le_of_ble_eq_true rfl) (⟨(iv_c ((-6) : Int32) (by decide)), rfl⟩)
  · have hP : va_P V.1 vwCl [(y 0, .inr (9, o9_rirrrrrrrrvviii (y 1) py0_1 (y 2) (y 10) (y 19) (y 25) (y 26) (y 30) (y 31) (y 32) o10 o11 py0_12 py0_13 py0_14)), (y 2, .inr (1, o1_iiiiiirrrrrrriiiii py2_0 py2_1 py2_2 py2_3 py2_4 py2_5 (y 3) (y 4) (y 5) (y 6) (y 7) (y 8) (y 9) py2_13 py2_14 py2_15 py2_16 py2_17)), (y 30, aT V 4 (va_up (va_up (va_up (va_up (fun _ => none) 0 (some (y 33))) 1 (some (y 35))) 2 (some (y 37))) 3 (some (y 39)))), (y 33, .inr (7, o7_rii (y 34) py33_1 py33_2)), (y 34, aJ V 40 fy34), (y 35, .inr (7, o7_rii (y 36) py35_1 py35_2)), (y 36, aJ V 40 fy36), (y 37, .inr (7, o7_rii (y 38) py37_1 py37_2)), (y 38, aJ V 40 fy38), (y 39, .inr (7, o7_rii (y 40) py39_1 py39_2)), (y 40, aJ V 40 fy40)] H := hP
    have hD := cpD hP hD
    have b_299 : iv 0 2147483647 a2 := iv_e2 (Int32.not_lt.mp c_102) (iv_c (0 : Int32) (a := 0) (b := 0) (by decide)) (iv_top a2) (by decide)
    have b_300 : iv 0 3 a2 := iv_l1 (Int32.not_le.mp c_103) b_299 bpy2_1 (by decide)
    have b_301 : iv 1 4 py2_1 := iv_l2 (Int32.not_le.mp c_103) b_299 bpy2_1 (by decide)
    have b_302 : iv 2 2 a1 := iv_q c_104 (iv_c (2 : Int32) (a := 2) (b := 2) (by decide))
    have b_303 : iv 0 40 py37_1 := iv_e2 c_105 (iv_c (0 : Int32) (a := 0) (b := 0) (by decide)) bpy37_1 (by decide)
    have b_304 : iv 0 0 py37_1 := iv_l1 c_106 b_303 (iv_c (1 : Int32) (a := 1) (b := 1) (by decide)) (by decide)
    refine lv_istore (lv' := [(4, .int (-4)), (0, .ref (y 0)), (1, .int a1), (2, .int a2), (3, .int a3)]) hx hb dX9_fogs_7 hl (by decide) rfl (fun ls hl => ?_)
    refine lv_iload hx hb dX9_fogs_9 (lv_at hl 0 rfl) ?_
    refine lv_if_eq (tgt := 17) hx hb dX9_fogs_11 (by decide) (fun c_306 => absurd c_306 (by decide)) (fun _ => ?_)
    refine lv_iload hx hb dX9_fogs_14 (lv_at hl 0 rfl) ?_
    exact fiI hx hb hr hlk hK hP hD hS dX9_fogs_16 (Nat.le_of_ble_eq_true rfl) (Nat.le_of_ble_eq_true rfl) (⟨(iv_c ((-4) : Int32) (by decide)), rfl⟩)
  · have hP : va_P V.1 vwCl [(y 0, .inr (9, o9_rirrrrrrrrvviii (y 1) py0_1 (y 2) (y 10) (y 19) (y 25) (y 26) (y 30) (y 31) (y 32) o10 o11 py0_12 py0_13 py0_14)), (y 2, .inr (1, o1_iiiiiirrrrrrriiiii py2_0 py2_1 py2_2 py2_3 py2_4 py2_5 (y 3) (y 4) (y 5) (y 6) (y 7) (y 8) (y 9) py2_13 py2_14 py2_15 py2_16 py2_17)), (y 30, aT V 4 (va_up (va_up (va_up (va_up (fun _ => none) 0 (some (y 33))) 1 (some (y 35))) 2 (some (y 37))) 3 (some (y 39)))), (y 33, .inr (7, o7_rii (y 34) py33_1 py33_2)), (y 34, aJ V 40 fy34), (y 35, .inr (7, o7_rii (y 36) py35_1 py35_2)), (y 36, aJ V 40 fy36), (y 37, .inr (7, o7_rii (y 38) py37_1 py37_2)), (y 38, aJ V 40 fy38), (y 39, .inr (7, o7_rii (y 40) py39_1 py39_2)), (y 40, aJ V 40 fy40)] H := hP
    have hD := cpD hP hD
    have b_307 : iv 0 2147483647 a2 := iv_e2 (Int32.not_lt.mp c_110) (iv_c (0 : Int32) (a := 0) (b := 0) (by decide)) (iv_top a2) (by decide)
    have b_308 : iv 0 3 a2 := iv_l1 (Int32.not_le.mp c_111) b_307 bpy2_1 (by decide)
    have b_309 : iv 1 4 py2_1 := iv_l2 (Int32.not_le.mp c_111) b_307 bpy2_1 (by decide)
    have b_310 : iv 2 2 a1 := iv_q c_112 (iv_c (2 : Int32) (a := 2) (b := 2) (by decide))
    have b_311 : iv 0 40 py37_1 := iv_e2 c_113 (iv_c (0 : Int32) (a := 0) (b := 0) (by decide)) bpy37_1 (by decide)
    have b_312 : iv 1 40 py37_1 := iv_e2 (Int32.not_lt.mp c_114) (iv_c (1 : Int32) (a := 1) (b := 1) (by decide)) b_311 (by decide)
    have b_313 : iv 1 8 py37_1 := iv_e1 c_115 b_312 (iv_c (8 : Int32) (a := 8) (b := 8) (by decide)) (by decide)
    refine lv_istore (lv' := [(4, .int 0), (0, .ref (y 0)), (1, .int a1), (2, .int a2), (3, .int a3)]) hx hb dX9_fogs_7 hl (by decide) rfl (fun ls hl => ?_)
    refine lv_iload hx hb dX9_fogs_9 (lv_at hl 0 rfl) ?_
    refine lv_if_eq (tgt := 17) hx hb dX9_fogs_11 (by decide) (fun _ => ?_) (fun c_315 => absurd c_315 (by decide))
    refine lv_iload_n hx hb dX9_fogs_17 rfl (lv_at hl 4 rfl) ?_
    refine lv_if_ge (tgt := 24) hx hb dX9_fogs_18 (by decide) (fun c_316 => ?_) (fun c_316 => ?_)
    · have b_317 : iv 0 2147483647 a3 := iv_e2 c_316 (iv_c (0 : Int32) (a := 0) (b := 0) (by decide)) (iv_top a3) (by decide)
      refine lv_iload_n hx hb dX9_fogs_24 rfl (lv_at hl 4 rfl) ?_
      refine lv_aload_n hx hb dX9_fogs_25 rfl (lv_at hl 1 rfl) ?_
      refine va_get (ci := 9) (v := .ref (y 30)) (C := RX9) (T := TX9) (N := 15) hx hb hg inX9 hown hK hP 0 rfl rfl 7 (by decide) (hg _ q_2_43) (fun _ h9 => h9) rfl dX9_fogs_26 ?_
      refine lv_iload_n hx hb dX9_fogs_29 rfl (lv_at hl 2 rfl) ?_
      have c_318 : a1 = 2 := by have q9 := b_310; unfold iv at q9; simp only [tI_eq, (by decide : (2 : Int32).toInt = 2)]; omega
      rcases c_318 with rfl
      · refine va_aldq hx hb hK hP 2 4 rfl rfl (vin (by decide +kernel)) dX9_fogs_30 ?_
        refine W.eq (g2 := F0 m 31 ls (.ref (y 37) :: .int a3 :: [])) rfl ?_
        refine va_get (ci := 7) (v := .int py37_1) (C := RX7) (T := TX7) (N := 3) hx hb hg inX7 hown hK hP 7 rfl rfl 1 (by decide) (hg _ q_2_2) (fun _ h9 => h9) rfl dX9_fogs_31 ?_
        refine lv_icmp_lt (tgt := 40) hx hb dX9_fogs_34 (by decide) (fun c_319 => ?_) (fun c_319 => ?_)
        · have b_320 : iv 0 7 a3 := iv_l1 c_319 b_317 b_313 (by decide)
          refine lv_aload_n hx hb dX9_fogs_40 rfl (lv_at hl 1 rfl) ?_
          refine lv_aload_n hx hb dX9_fogs_41 rfl (lv_at hl 1 rfl) ?_
          refine va_get (ci := 9) (v := .ref (y 30)) (C := RX9) (T := TX9) (N := 15) hx hb hg inX9 hown hK hP 0 rfl rfl 7 (by decide) (hg _ q_2_43) (fun _ h9 => h9) rfl dX9_fogs_42 ?_
          refine lv_iload_n hx hb dX9_fogs_45 rfl (lv_at hl 2 rfl) ?_
          refine va_aldq hx hb hK hP 2 4 rfl rfl (vin (by decide +kernel)) dX9_fogs_46 ?_
          refine W.eq (g2 := F0 m 47 ls (.ref (y 37) :: .ref (y 0) :: [])) rfl ?_
          refine va_get (ci := 7) (v := .int py37_1) (C := RX7) (T := TX7) (N := 3) hx hb hg inX7 hown hK hP 7 rfl rfl 1 (by decide) (hg _ q_2_2) (fun _ h9 => h9) rfl dX9_fogs_47 ?_
          have z_0 := Int32.le_iff_toInt_le.mp (Int32.not_lt.mp c_108)
          have z_1 := Int32.lt_iff_toInt_lt.mp (Int32.not_le.mp c_109)
          have z_2 := Int32.le_iff_toInt_le.mp (Int32.not_lt.mp c_110)
          have z_3 := Int32.lt_iff_toInt_lt.mp (Int32.not_le.mp c_111)
          have z_4 := congrArg Int32.toInt c_112
          have z_5 := Int32.le_iff_toInt_le.mp c_113
          have z_6 := Int32.le_iff_toInt_le.mp (Int32.not_lt.mp c_114)
          have z_7 := Int32.le_iff_toInt_le.mp c_115
          have z_8 := Int32.le_iff_toInt_le.mp c_316
          have z_9 := Int32.lt_iff_toInt_lt.mp c_319
          have k_0 : (0 : Int32).toInt = 0 := (by decide)
          have k_1 : (1 : Int32).toInt = 1 := (by decide)
          have k_2 : (2 : Int32).toInt = 2 := (by decide)
          have k_4 : (4 : Int32).toInt = 4 := (by decide)
          have k_8 : (8 : Int32).toInt = 8 := (by decide)
          exact absurd ⟨g_116.symm, by omega, by rw [cntF_2]; omega⟩ hf0
        · have b_321 : iv 1 2147483647 a3 := iv_e2 (Int32.not_lt.mp c_319) b_313 b_317 (by decide)
          refine lv_bipush (v := (-7)) hx hb dX9_fogs_37 (by decide) ?_
          exact fiI hx hb hr hlk hK hP hD hS dX9_fogs_39 (Nat.le_of_ble_eq_true rfl) (Nat.le_of_ble_eq_true rfl) (⟨(iv_c ((-7) : Int32) (by decide)), rfl⟩)
    · have b_322 : iv (-2147483648) (-1) a3 := iv_l1 (Int32.not_le.mp c_316) (iv_top a3) (iv_c (0 : Int32) (a := 0) (b := 0) (by decide)) (by decide)
      refine lv_bipush (v := (-3)) hx hb dX9_fogs_21 (by decide) ?_
      exact fiI hx hb hr hlk hK hP hD hS dX9_fogs_23 (Nat.le_of_ble_eq_true rfl) (Nat.le_of_ble_eq_true rfl) (⟨(iv_c ((-3) : Int32) (by decide)), rfl⟩)
  · have hP : va_P V.1 vwCl [(y 0, .inr (9, o9_rirrrrrrrrvviii (y 1) py0_1 (y 2) (y 10) (y 19) (y 25) (y 26) (y 30) (y 31) (y 32) o10 o11 py0_12 py0_13 py0_14)), (y 2, .inr (1, o1_iiiiiirrrrrrriiiii py2_0 py2_1 py2_2 py2_3 py2_4 py2_5 (y 3) (y 4) (y 5) (y 6) (y 7) (y 8) (y 9) py2_13 py2_14 py2_15 py2_16 py2_17)), (y 30, aT V 4 (va_up (va_up (va_up (va_up (fun _ => none) 0 (some (y 33))) 1 (some (y 35))) 2 (some (y 37))) 3 (some (y 39)))), (y 33, .inr (7, o7_rii (y 34) py33_1 py33_2)), (y 34, aJ V 40 fy34), (y 35, .inr (7, o7_rii (y 36) py35_1 py35_2)), (y 36, aJ V 40 fy36), (y 37, .inr (7, o7_rii (y 38) py37_1 py37_2)), (y 38, aJ V 40 fy38), (y 39, .inr (7, o7_rii (y 40) py39_1 py39_2)), (y 40, aJ V 40 fy40)] H := hP
    have hD := cpD hP hD
    have b_323 : iv 0 2147483647 a2 := iv_e2 (Int32.not_lt.mp c_119) (iv_c (0 : Int32) (a := 0) (b := 0) (by decide)) (iv_top a2) (by decide)
    have b_324 : iv 0 3 a2 := iv_l1 (Int32.not_le.mp c_120) b_323 bpy2_1 (by decide)
    have b_325 : iv 1 4 py2_1 := iv_l2 (Int32.not_le.mp c_120) b_323 bpy2_1 (by decide)
    have b_326 : iv 2 2 a1 := iv_q c_121 (iv_c (2 : Int32) (a := 2) (b := 2) (by decide))
    have b_327 : iv 0 40 py37_1 := iv_e2 c_122 (iv_c (0 : Int32) (a := 0) (b := 0) (by decide)) bpy37_1 (by decide)
    have b_328 : iv 1 40 py37_1 := iv_e2 (Int32.not_lt.mp c_123) (iv_c (1 : Int32) (a := 1) (b := 1) (by decide)) b_327 (by decide)
    have b_329 : iv 1 8 py37_1 := iv_e1 c_124 b_328 (iv_c (8 : Int32) (a := 8) (b := 8) (by decide)) (by decide)
    refine lv_istore (lv' := [(4, .int (-3)), (0, .ref (y 0)), (1, .int a1), (2, .int a2), (3, .int a3)]) hx hb dX9_fogs_7 hl (by decide) rfl (fun ls hl => ?_)
    refine lv_iload hx hb dX9_fogs_9 (lv_at hl 0 rfl) ?_
    refine lv_if_eq (tgt := 17) hx hb dX9_fogs_11 (by decide) (fun c_331 => absurd c_331 (by decide)) (fun _ => ?_)
    refine lv_iload hx hb dX9_fogs_14 (lv_at hl 0 rfl) ?_
    exact fiI hx hb hr hlk hK hP hD hS dX9_fogs_16 (Nat.le_of_ble_eq_true rfl) (Nat.le_of_ble_eq_true rfl) (⟨(iv_c ((-3) : Int32) (by decide)), rfl⟩)
  · have hP : va_P V.1 vwCl [(y 0, .inr (9, o9_rirrrrrrrrvviii (y 1) py0_1 (y 2) (y 10) (y 19) (y 25) (y 26) (y 30) (y 31) (y 32) o10 o11 py0_12 py0_13 py0_14)), (y 2, .inr (1, o1_iiiiiirrrrrrriiiii py2_0 py2_1 py2_2 py2_3 py2_4 py2_5 (y 3) (y 4) (y 5) (y 6) (y 7) (y 8) (y 9) py2_13 py2_14 py2_15 py2_16 py2_17)), (y 30, aT V 4 (va_up (va_up (va_up (va_up (fun _ => none) 0 (some (y 33))) 1 (some (y 35))) 2 (some (y 37))) 3 (some (y 39)))), (y 33, .inr (7, o7_rii (y 34) py33_1 py33_2)), (y 34, aJ V 40 fy34), (y 35, .inr (7, o7_rii (y 36) py35_1 py35_2)), (y 36, aJ V 40 fy36), (y 37, .inr (7, o7_rii (y 38) py37_1 py37_2)), (y 38, aJ V 40 fy38), (y 39, .inr (7, o7_rii (y 40) py39_1 py39_2)), (y 40, aJ V 40 fy40)] H := hP
    have hD := cpD hP hD
    have b_332 : iv 0 2147483647 a2 := iv_e2 (Int32.not_lt.mp c_128) (iv_c (0 : Int32) (a := 0) (b := 0) (by decide)) (iv_top a2) (by decide)
    have b_333 : iv 0 3 a2 := iv_l1 (Int32.not_le.mp c_129) b_332 bpy2_1 (by decide)
    have b_334 : iv 1 4 py2_1 := iv_l2 (Int32.not_le.mp c_129) b_332 bpy2_1 (by decide)
    have b_335 : iv 2 2 a1 := iv_q c_130 (iv_c (2 : Int32) (a := 2) (b := 2) (by decide))
    have b_336 : iv 0 40 py37_1 := iv_e2 c_131 (iv_c (0 : Int32) (a := 0) (b := 0) (by decide)) bpy37_1 (by decide)
    have b_337 : iv 1 40 py37_1 := iv_e2 (Int32.not_lt.mp c_132) (iv_c (1 : Int32) (a := 1) (b := 1) (by decide)) b_336 (by decide)
    have b_338 : iv 9 40 py37_1 := iv_l2 (Int32.not_le.mp c_133) (iv_c (8 : Int32) (a := 8) (b := 8) (by decide)) b_337 (by decide)
    refine lv_istore (lv' := [(4, .int (-4)), (0, .ref (y 0)), (1, .int a1), (2, .int a2), (3, .int a3)]) hx hb dX9_fogs_7 hl (by decide) rfl (fun ls hl => ?_)
    refine lv_iload hx hb dX9_fogs_9 (lv_at hl 0 rfl) ?_
    refine lv_if_eq (tgt := 17) hx hb dX9_fogs_11 (by decide) (fun c_340 => absurd c_340 (by decide)) (fun _ => ?_)
    refine lv_iload hx hb dX9_fogs_14 (lv_at hl 0 rfl) ?_
    exact fiI hx hb hr hlk hK hP hD hS dX9_fogs_16 (Nat.le_of_ble_eq_true rfl) (Nat.le_of_ble_eq_true rfl) (⟨(iv_c ((-4) : Int32) (by decide)), rfl⟩)
  · have hP : va_P V.1 vwCl [(y 0, .inr (9, o9_rirrrrrrrrvviii (y 1) py0_1 (y 2) (y 10) (y 19) (y 25) (y 26) (y 30) (y 31) (y 32) o10 o11 py0_12 py0_13 py0_14)), (y 2, .inr (1, o1_iiiiiirrrrrrriiiii py2_0 py2_1 py2_2 py2_3 py2_4 py2_5 (y 3) (y 4) (y 5) (y 6) (y 7) (y 8) (y 9) py2_13 py2_14 py2_15 py2_16 py2_17)), (y 30, aT V 4 (va_up (va_up (va_up (va_up (fun _ => none) 0 (some (y 33))) 1 (some (y 35))) 2 (some (y 37))) 3 (some (y 39)))), (y 33, .inr (7, o7_rii (y 34) py33_1 py33_2)), (y 34, aJ V 40 fy34), (y 35, .inr (7, o7_rii (y 36) py35_1 py35_2)), (y 36, aJ V 40 fy36), (y 37, .inr (7, o7_rii (y 38) py37_1 py37_2)), (y 38, aJ V 40 fy38), (y 39, .inr (7, o7_rii (y 40) py39_1 py39_2)), (y 40, aJ V 40 fy40)] H := hP
    have hD := cpD hP hD
    have b_341 : iv 0 2147483647 a2 := iv_e2 (Int32.not_lt.mp c_137) (iv_c (0 : Int32) (a := 0) (b := 0) (by decide)) (iv_top a2) (by decide)
    have b_342 : iv 0 3 a2 := iv_l1 (Int32.not_le.mp c_138) b_341 bpy2_1 (by decide)
    have b_343 : iv 1 4 py2_1 := iv_l2 (Int32.not_le.mp c_138) b_341 bpy2_1 (by decide)
    have b_344 : iv 2 2 a1 := iv_q c_139 (iv_c (2 : Int32) (a := 2) (b := 2) (by decide))
    have b_345 : iv (-1) (-1) py37_1 := iv_l1 (Int32.not_le.mp c_140) bpy37_1 (iv_c (0 : Int32) (a := 0) (b := 0) (by decide)) (by decide)
    refine lv_istore (lv' := [(4, .int (-6)), (0, .ref (y 0)), (1, .int a1), (2, .int a2), (3, .int a3)]) hx hb dX9_fogs_7 hl (by decide) rfl (fun ls hl => ?_)
    refine lv_iload hx hb dX9_fogs_9 (lv_at hl 0 rfl) ?_
    refine lv_if_eq (tgt := 17) hx hb dX9_fogs_11 (by decide) (fun c_347 => absurd c_347 (by decide)) (fun _ => ?_)
    refine lv_iload hx hb dX9_fogs_14 (lv_at hl 0 rfl) ?_
    exact fiI hx hb hr hlk hK hP hD hS dX9_fogs_16 (Nat.le_of_ble_eq_true rfl) (Nat.le_of_ble_eq_true rfl) (⟨(iv_c ((-6) : Int32) (by decide)), rfl⟩)
  · have hP : va_P V.1 vwCl [(y 0, .inr (9, o9_rirrrrrrrrvviii (y 1) py0_1 (y 2) (y 10) (y 19) (y 25) (y 26) (y 30) (y 31) (y 32) o10 o11 py0_12 py0_13 py0_14)), (y 2, .inr (1, o1_iiiiiirrrrrrriiiii py2_0 py2_1 py2_2 py2_3 py2_4 py2_5 (y 3) (y 4) (y 5) (y 6) (y 7) (y 8) (y 9) py2_13 py2_14 py2_15 py2_16 py2_17)), (y 30, aT V 4 (va_up (va_up (va_up (va_up (fun _ => none) 0 (some (y 33))) 1 (some (y 35))) 2 (some (y 37))) 3 (some (y 39)))), (y 33, .inr (7, o7_rii (y 34) py33_1 py33_2)), (y 34, aJ V 40 fy34), (y 35, .inr (7, o7_rii (y 36) py35_1 py35_2)), (y 36, aJ V 40 fy36), (y 37, .inr (7, o7_rii (y 38) py37_1 py37_2)), (y 38, aJ V 40 fy38), (y 39, .inr (7, o7_rii (y 40) py39_1 py39_2)), (y 40, aJ V 40 fy40)] H := hP
    have hD := cpD hP hD
    have b_348 : iv 0 2147483647 a2 := iv_e2 (Int32.not_lt.mp c_144) (iv_c (0 : Int32) (a := 0) (b := 0) (by decide)) (iv_top a2) (by decide)
    have b_349 : iv 0 3 a2 := iv_l1 (Int32.not_le.mp c_145) b_348 bpy2_1 (by decide)
    have b_350 : iv 1 4 py2_1 := iv_l2 (Int32.not_le.mp c_145) b_348 bpy2_1 (by decide)
    have b_351 : iv 3 3 a1 := iv_q c_146 (iv_c (3 : Int32) (a := 3) (b := 3) (by decide))
    have b_352 : iv 0 40 py39_1 := iv_e2 c_147 (iv_c (0 : Int32) (a := 0) (b := 0) (by decide)) bpy39_1 (by decide)
    have b_353 : iv 0 0 py39_1 := iv_l1 c_148 b_352 (iv_c (1 : Int32) (a := 1) (b := 1) (by decide)) (by decide)
    refine lv_istore (lv' := [(4, .int (-4)), (0, .ref (y 0)), (1, .int a1), (2, .int a2), (3, .int a3)]) hx hb dX9_fogs_7 hl (by decide) rfl (fun ls hl => ?_)
    refine lv_iload hx hb dX9_fogs_9 (lv_at hl 0 rfl) ?_
    refine lv_if_eq (tgt := 17) hx hb dX9_fogs_11 (by decide) (fun c_355 => absurd c_355 (by decide)) (fun _ => ?_)
    refine lv_iload hx hb dX9_fogs_14 (lv_at hl 0 rfl) ?_
    exact fiI hx hb hr hlk hK hP hD hS dX9_fogs_16 (Nat.le_of_ble_eq_true rfl) (Nat.le_of_ble_eq_true rfl) (⟨(iv_c ((-4) : Int32) (by decide)), rfl⟩)
  · have hP : va_P V.1 vwCl [(y 0, .inr (9, o9_rirrrrrrrrvviii (y 1) py0_1 (y 2) (y 10) (y 19) (y 25) (y 26) (y 30) (y 31) (y 32) o10 o11 py0_12 py0_13 py0_14)), (y 2, .inr (1, o1_iiiiiirrrrrrriiiii py2_0 py2_1 py2_2 py2_3 py2_4 py2_5 (y 3) (y 4) (y 5) (y 6) (y 7) (y 8) (y 9) py2_13 py2_14 py2_15 py2_16 py2_17)), (y 30, aT V 4 (va_up (va_up (va_up (va_up (fun _ => none) 0 (some (y 33))) 1 (some (y 35))) 2 (some (y 37))) 3 (some (y 39)))), (y 33, .inr (7, o7_rii (y 34) py33_1 py33_2)), (y 34, aJ V 40 fy34), (y 35, .inr (7, o7_rii (y 36) py35_1 py35_2)), (y 36, aJ V 40 fy36), (y 37, .inr (7, o7_rii (y 38) py37_1 py37_2)), (y 38, aJ V 40 fy38), (y 39, .inr (7, o7_rii (y 40) py39_1 py39_2)), (y 40, aJ V 40 fy40)] H := hP
    have hD := cpD hP hD
    have b_356 : iv 0 2147483647 a2 := iv_e2 (Int32.not_lt.mp c_152) (iv_c (0 : Int32) (a := 0) (b := 0) (by decide)) (iv_top a2) (by decide)
    have b_357 : iv 0 3 a2 := iv_l1 (Int32.not_le.mp c_153) b_356 bpy2_1 (by decide)
    have b_358 : iv 1 4 py2_1 := iv_l2 (Int32.not_le.mp c_153) b_356 bpy2_1 (by decide)
    have b_359 : iv 3 3 a1 := iv_q c_154 (iv_c (3 : Int32) (a := 3) (b := 3) (by decide))
    have b_360 : iv 0 40 py39_1 := iv_e2 c_155 (iv_c (0 : Int32) (a := 0) (b := 0) (by decide)) bpy39_1 (by decide)
    have b_361 : iv 1 40 py39_1 := iv_e2 (Int32.not_lt.mp c_156) (iv_c (1 : Int32) (a := 1) (b := 1) (by decide)) b_360 (by decide)
    have b_362 : iv 1 8 py39_1 := iv_e1 c_157 b_361 (iv_c (8 : Int32) (a := 8) (b := 8) (by decide)) (by decide)
    refine lv_istore (lv' := [(4, .int 0), (0, .ref (y 0)), (1, .int a1), (2, .int a2), (3, .int a3)]) hx hb dX9_fogs_7 hl (by decide) rfl (fun ls hl => ?_)
    refine lv_iload hx hb dX9_fogs_9 (lv_at hl 0 rfl) ?_
    refine lv_if_eq (tgt := 17) hx hb dX9_fogs_11 (by decide) (fun _ => ?_) (fun c_364 => absurd c_364 (by decide))
    refine lv_iload_n hx hb dX9_fogs_17 rfl (lv_at hl 4 rfl) ?_
    refine lv_if_ge (tgt := 24) hx hb dX9_fogs_18 (by decide) (fun c_365 => ?_) (fun c_365 => ?_)
    · have b_366 : iv 0 2147483647 a3 := iv_e2 c_365 (iv_c (0 : Int32) (a := 0) (b := 0) (by decide)) (iv_top a3) (by decide)
      refine lv_iload_n hx hb dX9_fogs_24 rfl (lv_at hl 4 rfl) ?_
      refine lv_aload_n hx hb dX9_fogs_25 rfl (lv_at hl 1 rfl) ?_
      refine va_get (ci := 9) (v := .ref (y 30)) (C := RX9) (T := TX9) (N := 15) hx hb hg inX9 hown hK hP 0 rfl rfl 7 (by decide) (hg _ q_2_43) (fun _ h9 => h9) rfl dX9_fogs_26 ?_
      refine lv_iload_n hx hb dX9_fogs_29 rfl (lv_at hl 2 rfl) ?_
      have c_367 : a1 = 3 := by have q9 := b_359; unfold iv at q9; simp only [tI_eq, (by decide : (3 : Int32).toInt = 3)]; omega
      rcases c_367 with rfl
      · refine va_aldq hx hb hK hP 2 4 rfl rfl (vin (by decide +kernel)) dX9_fogs_30 ?_
        refine W.eq (g2 := F0 m 31 ls (.ref (y 39) :: .int a3 :: [])) rfl ?_
        refine va_get (ci := 7) (v := .int py39_1) (C := RX7) (T := TX7) (N := 3) hx hb hg inX7 hown hK hP 9 rfl rfl 1 (by decide) (hg _ q_2_2) (fun _ h9 => h9) rfl dX9_fogs_31 ?_
        refine lv_icmp_lt (tgt := 40) hx hb dX9_fogs_34 (by decide) (fun c_368 => ?_) (fun c_368 => ?_)
        · have b_369 : iv 0 7 a3 := iv_l1 c_368 b_366 b_362 (by decide)
          refine lv_aload_n hx hb dX9_fogs_40 rfl (lv_at hl 1 rfl) ?_
          refine lv_aload_n hx hb dX9_fogs_41 rfl (lv_at hl 1 rfl) ?_
          refine va_get (ci := 9) (v := .ref (y 30)) (C := RX9) (T := TX9) (N := 15) hx hb hg inX9 hown hK hP 0 rfl rfl 7 (by decide) (hg _ q_2_43) (fun _ h9 => h9) rfl dX9_fogs_42 ?_
          refine lv_iload_n hx hb dX9_fogs_45 rfl (lv_at hl 2 rfl) ?_
          refine va_aldq hx hb hK hP 2 4 rfl rfl (vin (by decide +kernel)) dX9_fogs_46 ?_
          refine W.eq (g2 := F0 m 47 ls (.ref (y 39) :: .ref (y 0) :: [])) rfl ?_
          refine va_get (ci := 7) (v := .int py39_1) (C := RX7) (T := TX7) (N := 3) hx hb hg inX7 hown hK hP 9 rfl rfl 1 (by decide) (hg _ q_2_2) (fun _ h9 => h9) rfl dX9_fogs_47 ?_
          have z_0 := Int32.le_iff_toInt_le.mp (Int32.not_lt.mp c_150)
          have z_1 := Int32.lt_iff_toInt_lt.mp (Int32.not_le.mp c_151)
          have z_2 := Int32.le_iff_toInt_le.mp (Int32.not_lt.mp c_152)
          have z_3 := Int32.lt_iff_toInt_lt.mp (Int32.not_le.mp c_153)
          have z_4 := congrArg Int32.toInt c_154
          have z_5 := Int32.le_iff_toInt_le.mp c_155
          have z_6 := Int32.le_iff_toInt_le.mp (Int32.not_lt.mp c_156)
          have z_7 := Int32.le_iff_toInt_le.mp c_157
          have z_8 := Int32.le_iff_toInt_le.mp c_365
          have z_9 := Int32.lt_iff_toInt_lt.mp c_368
          have k_0 : (0 : Int32).toInt = 0 := (by decide)
          have k_1 : (1 : Int32).toInt = 1 := (by decide)
          have k_3 : (3 : Int32).toInt = 3 := (by decide)
          have k_4 : (4 : Int32).toInt = 4 := (by decide)
          have k_8 : (8 : Int32).toInt = 8 := (by decide)
          exact absurd ⟨g_158.symm, by omega, by rw [cntF_3]; omega⟩ hf0
        · have b_370 : iv 1 2147483647 a3 := iv_e2 (Int32.not_lt.mp c_368) b_362 b_366 (by decide)
          refine lv_bipush (v := (-7)) hx hb dX9_fogs_37 (by decide) ?_
          exact fiI hx hb hr hlk hK hP hD hS dX9_fogs_39 (Nat.le_of_ble_eq_true rfl) (Nat.le_of_ble_eq_true rfl) (⟨(iv_c ((-7) : Int32) (by decide)), rfl⟩)
    · have b_371 : iv (-2147483648) (-1) a3 := iv_l1 (Int32.not_le.mp c_365) (iv_top a3) (iv_c (0 : Int32) (a := 0) (b := 0) (by decide)) (by decide)
      refine lv_bipush (v := (-3)) hx hb dX9_fogs_21 (by decide) ?_
      exact fiI hx hb hr hlk hK hP hD hS dX9_fogs_23 (Nat.le_of_ble_eq_true rfl) (Nat.le_of_ble_eq_true rfl) (⟨(iv_c ((-3) : Int32) (by decide)), rfl⟩)
  · have hP : va_P V.1 vwCl [(y 0, .inr (9, o9_rirrrrrrrrvviii (y 1) py0_1 (y 2) (y 10) (y 19) (y 25) (y 26) (y 30) (y 31) (y 32) o10 o11 py0_12 py0_13 py0_14)), (y 2, .inr (1, o1_iiiiiirrrrrrriiiii py2_0 py2_1 py2_2 py2_3 py2_4 py2_5 (y 3) (y 4) (y 5) (y 6) (y 7) (y 8) (y 9) py2_13 py2_14 py2_15 py2_16 py2_17)), (y 30, aT V 4 (va_up (va_up (va_up (va_up (fun _ => none) 0 (some (y 33))) 1 (some (y 35))) 2 (some (y 37))) 3 (some (y 39)))), (y 33, .inr (7, o7_rii (y 34) py33_1 py33_2)), (y 34, aJ V 40 fy34), (y 35, .inr (7, o7_rii (y 36) py35_1 py35_2)), (y 36, aJ V 40 fy36), (y 37, .inr (7, o7_rii (y 38) py37_1 py37_2)), (y 38, aJ V 40 fy38), (y 39, .inr (7, o7_rii (y 40) py39_1 py39_2)), (y 40, aJ V 40 fy40)] H := hP
    have hD := cpD hP hD
    have b_372 : iv 0 2147483647 a2 := iv_e2 (Int32.not_lt.mp c_161) (iv_c (0 : Int32) (a := 0) (b := 0) (by decide)) (iv_top a2) (by decide)
    have b_373 : iv 0 3 a2 := iv_l1 (Int32.not_le.mp c_162) b_372 bpy2_1 (by decide)
    have b_374 : iv 1 4 py2_1 := iv_l2 (Int32.not_le.mp c_162) b_372 bpy2_1 (by decide)
    have b_375 : iv 3 3 a1 := iv_q c_163 (iv_c (3 : Int32) (a := 3) (b := 3) (by decide))
    have b_376 : iv 0 40 py39_1 := iv_e2 c_164 (iv_c (0 : Int32) (a := 0) (b := 0) (by decide)) bpy39_1 (by decide)
    have b_377 : iv 1 40 py39_1 := iv_e2 (Int32.not_lt.mp c_165) (iv_c (1 : Int32) (a := 1) (b := 1) (by decide)) b_376 (by decide)
    have b_378 : iv 1 8 py39_1 := iv_e1 c_166 b_377 (iv_c (8 : Int32) (a := 8) (b := 8) (by decide)) (by decide)
    refine lv_istore (lv' := [(4, .int (-3)), (0, .ref (y 0)), (1, .int a1), (2, .int a2), (3, .int a3)]) hx hb dX9_fogs_7 hl (by decide) rfl (fun ls hl => ?_)
    refine lv_iload hx hb dX9_fogs_9 (lv_at hl 0 rfl) ?_
    refine lv_if_eq (tgt := 17) hx hb dX9_fogs_11 (by decide) (fun c_380 => absurd c_380 (by decide)) (fun _ => ?_)
    refine lv_iload hx hb dX9_fogs_14 (lv_at hl 0 rfl) ?_
    exact fiI hx hb hr hlk hK hP hD hS dX9_fogs_16 (Nat.le_of_ble_eq_true rfl) (Nat.le_of_ble_eq_true rfl) (⟨(iv_c ((-3) : Int32) (by decide)), rfl⟩)
  · have hP : va_P V.1 vwCl [(y 0, .inr (9, o9_rirrrrrrrrvviii (y 1) py0_1 (y 2) (y 10) (y 19) (y 25) (y 26) (y 30) (y 31) (y 32) o10 o11 py0_12 py0_13 py0_14)), (y 2, .inr (1, o1_iiiiiirrrrrrriiiii py2_0 py2_1 py2_2 py2_3 py2_4 py2_5 (y 3) (y 4) (y 5) (y 6) (y 7) (y 8) (y 9) py2_13 py2_14 py2_15 py2_16 py2_17)), (y 30, aT V 4 (va_up (va_up (va_up (va_up (fun _ => none) 0 (some (y 33))) 1 (some (y 35))) 2 (some (y 37))) 3 (some (y 39)))), (y 33, .inr (7, o7_rii (y 34) py33_1 py33_2)), (y 34, aJ V 40 fy34), (y 35, .inr (7, o7_rii (y 36) py35_1 py35_2)), (y 36, aJ V 40 fy36), (y 37, .inr (7, o7_rii (y 38) py37_1 py37_2)), (y 38, aJ V 40 fy38), (y 39, .inr (7, o7_rii (y 40) py39_1 py39_2)), (y 40, aJ V 40 fy40)] H := hP
    have hD := cpD hP hD
    have b_381 : iv 0 2147483647 a2 := iv_e2 (Int32.not_lt.mp c_170) (iv_c (0 : Int32) (a := 0) (b := 0) (by decide)) (iv_top a2) (by decide)
    have b_382 : iv 0 3 a2 := iv_l1 (Int32.not_le.mp c_171) b_381 bpy2_1 (by decide)
    have b_383 : iv 1 4 py2_1 := iv_l2 (Int32.not_le.mp c_171) b_381 bpy2_1 (by decide)
    have b_384 : iv 3 3 a1 := iv_q c_172 (iv_c (3 : Int32) (a := 3) (b := 3) (by decide))
    have b_385 : iv 0 40 py39_1 := iv_e2 c_173 (iv_c (0 : Int32) (a := 0) (b := 0) (by decide)) bpy39_1 (by decide)
    have b_386 : iv 1 40 py39_1 := iv_e2 (Int32.not_lt.mp c_174) (iv_c (1 : Int32) (a := 1) (b := 1) (by decide)) b_385 (by decide)
    have b_387 : iv 9 40 py39_1 := iv_l2 (Int32.not_le.mp c_175) (iv_c (8 : Int32) (a := 8) (b := 8) (by decide)) b_386 (by decide)
    refine lv_istore (lv' := [(4, .int (-4)), (0, .ref (y 0)), (1, .int a1), (2, .int a2), (3, .int a3)]) hx hb dX9_fogs_7 hl (by decide) rfl (fun ls hl => ?_)
    refine lv_iload hx hb dX9_fogs_9 (lv_at hl 0 rfl) ?_
    refine lv_if_eq (tgt := 17) hx hb dX9_fogs_11 (by decide) (fun c_389 => absurd c_389 (by decide)) (fun _ => ?_)
    refine lv_iload hx hb dX9_fogs_14 (lv_at hl 0 rfl) ?_
    exact fiI hx hb hr hlk hK hP hD hS dX9_fogs_16 (Nat.le_of_ble_eq_true rfl) (Nat.le_of_ble_eq_true rfl) (⟨(iv_c ((-4) : Int32) (by decide)), rfl⟩)
  · have hP : va_P V.1 vwCl [(y 0, .inr (9, o9_rirrrrrrrrvviii (y 1) py0_1 (y 2) (y 10) (y 19) (y 25) (y 26) (y 30) (y 31) (y 32) o10 o11 py0_12 py0_13 py0_14)), (y 2, .inr (1, o1_iiiiiirrrrrrriiiii py2_0 py2_1 py2_2 py2_3 py2_4 py2_5 (y 3) (y 4) (y 5) (y 6) (y 7) (y 8) (y 9) py2_13 py2_14 py2_15 py2_16 py2_17)), (y 30, aT V 4 (va_up (va_up (va_up (va_up (fun _ => none) 0 (some (y 33))) 1 (some (y 35))) 2 (some (y 37))) 3 (some (y 39)))), (y 33, .inr (7, o7_rii (y 34) py33_1 py33_2)), (y 34, aJ V 40 fy34), (y 35, .inr (7, o7_rii (y 36) py35_1 py35_2)), (y 36, aJ V 40 fy36), (y 37, .inr (7, o7_rii (y 38) py37_1 py37_2)), (y 38, aJ V 40 fy38), (y 39, .inr (7, o7_rii (y 40) py39_1 py39_2)), (y 40, aJ V 40 fy40)] H := hP
    have hD := cpD hP hD
    have b_390 : iv 0 2147483647 a2 := iv_e2 (Int32.not_lt.mp c_179) (iv_c (0 : Int32) (a := 0) (b := 0) (by decide)) (iv_top a2) (by decide)
    have b_391 : iv 0 3 a2 := iv_l1 (Int32.not_le.mp c_180) b_390 bpy2_1 (by decide)
    have b_392 : iv 1 4 py2_1 := iv_l2 (Int32.not_le.mp c_180) b_390 bpy2_1 (by decide)
    have b_393 : iv 3 3 a1 := iv_q c_181 (iv_c (3 : Int32) (a := 3) (b := 3) (by decide))
    have b_394 : iv (-1) (-1) py39_1 := iv_l1 (Int32.not_le.mp c_182) bpy39_1 (iv_c (0 : Int32) (a := 0) (b := 0) (by decide)) (by decide)
    refine lv_istore (lv' := [(4, .int (-6)), (0, .ref (y 0)), (1, .int a1), (2, .int a2), (3, .int a3)]) hx hb dX9_fogs_7 hl (by decide) rfl (fun ls hl => ?_)
    refine lv_iload hx hb dX9_fogs_9 (lv_at hl 0 rfl) ?_
    refine lv_if_eq (tgt := 17) hx hb dX9_fogs_11 (by decide) (fun c_396 => absurd c_396 (by decide)) (fun _ => ?_)
    refine lv_iload hx hb dX9_fogs_14 (lv_at hl 0 rfl) ?_
    exact fiI hx hb hr hlk hK hP hD hS dX9_fogs_16 (Nat.le_of_ble_eq_true rfl) (Nat.le_of_ble_eq_true rfl) (⟨(iv_c ((-6) : Int32) (by decide)), rfl⟩)
set_option maxHeartbeats 4000000 in
set_option maxRecDepth 100000 in
theorem k_X9_fogs_2 (l : Launch) (V : GV) (y : Nat → Nat) (D9 : Nat → Int32) (a1 : Int32) (a2 : Int32) (a3 : Int32) (py0_1 : Int32) (o11 : Value) (py0_12 : Int32) (py0_13 : Int32) (py0_14 : Int32) (py2_0 : Int32) (py2_1 : Int32) (py2_2 : Int32) (py2_3 : Int32) (py2_4 : Int32) (py2_5 : Int32) (py2_13 : Int32) (py2_14 : Int32) (py2_15 : Int32) (py2_16 : Int32) (py2_17 : Int32) (fy3 : Nat → Int32) (fy9 : Nat → Int32) (fy20 : Nat → Int32) (fy21 : Nat → Int32) (fy22 : Nat → Int32) (py33_1 : Int32) (py33_2 : Int32) (fy34 : Nat → Int64) (py35_1 : Int32) (py35_2 : Int32) (fy36 : Nat → Int64) (py37_1 : Int32) (py37_2 : Int32) (fy38 : Nat → Int64) (py39_1 : Int32) (py39_2 : Int32) (fy40 : Nat → Int64) (bpy0_1 : iv 0 900 py0_1) (bpy0_12 : iv 0 9999 py0_12) (bpy0_13 : iv 0 9 py0_13) (bpy2_1 : iv 0 4 py2_1) (bpy2_2 : iv 0 4 py2_2) (bpy2_3 : iv 0 8 py2_3) (bpy2_4 : iv 0 9999 py2_4) (bpy2_5 : iv 0 9 py2_5) (bpy2_13 : iv 0 900 py2_13) (bpy2_14 : iv 0 900 py2_14) (bpy2_15 : iv 0 900 py2_15) (bpy2_16 : iv 0 900 py2_16) (bpy2_17 : iv 0 900 py2_17) (tfy20 : ∀ j, iv 0 10 (fy20 j)) (bpy33_1 : iv (-1) 40 py33_1) (bpy35_1 : iv (-1) 40 py35_1) (bpy37_1 : iv (-1) 40 py37_1) (bpy39_1 : iv (-1) 40 py39_1) (hf0 : rfF a1 a2 (-1 : Int32) py2_1 py33_1 py35_1 py37_1 py39_1 fy34 fy36 fy38 fy40 = 0) (hf1 : 0 ≤ (a3 : Int32).toInt) (hf2 : (a3 : Int32).toInt < (cntF a1 py33_1 py35_1 py37_1 py39_1 : Int32).toInt) (hL9 : LW D9 fy3 fy9 py2_14 py2_15 py2_16 py2_17) (hK9 : KN D9 fy20) : Ct l V yX9_fogs (.code yX9_fogs cX9_fogs 6 (some .int)) 8 [.ref (y 0), .int a1, .int a2, .int a3] [(y 0, .inr (9, o9_rirrrrrrrrnviii (y 1) py0_1 (y 2) (y 10) (y 19) (y 25) (y 26) (y 30) (y 31) (y 32) o11 py0_12 py0_13 py0_14)), (y 2, .inr (1, o1_iiiiiirrrrrrriiiii py2_0 py2_1 py2_2 py2_3 py2_4 py2_5 (y 3) (y 4) (y 5) (y 6) (y 7) (y 8) (y 9) py2_13 py2_14 py2_15 py2_16 py2_17)), (y 3, aI V 4 fy3), (y 9, aI V 900 fy9), (y 19, .inr (4, o4_rrrrrr (y 2) (y 20) (y 21) (y 22) (y 23) (y 24))), (y 20, aI V 2000 fy20), (y 21, aI V 6 fy21), (y 22, aI V 64 fy22), (y 30, aT V 4 (va_up (va_up (va_up (va_up (fun _ => none) 0 (some (y 33))) 1 (some (y 35))) 2 (some (y 37))) 3 (some (y 39)))), (y 33, .inr (7, o7_rii (y 34) py33_1 py33_2)), (y 34, aJ V 40 fy34), (y 35, .inr (7, o7_rii (y 36) py35_1 py35_2)), (y 36, aJ V 40 fy36), (y 37, .inr (7, o7_rii (y 38) py37_1 py37_2)), (y 38, aJ V 40 fy38), (y 39, .inr (7, o7_rii (y 40) py39_1 py39_2)), (y 40, aJ V 40 fy40)] 10 46481 (QI V (fun (r : Int32) (w : va_W) => ∃ (n : Nat) (L : Nat) (Yw : Nat → Nat) (wa : Nat) (wb : Nat) (g0 : Nat → Int32) (g1 : Nat → Int32) (g2 : Nat → Int32) (ww0 : Int32) (ww5 : Int32) (ww6 : Int32) (ww14 : Int32) (ww15 : Int32) (ww16 : Int32) (wew1 : Nat → Int32) (wew2 : Nat → Int32) (wew3 : Nat → Int32) (wew4 : Nat → Int32) (wew5 : Nat → Int32) (wew6 : Nat → Int32) (wew7 : Nat → Int32) (wew8 : Nat → Int32) (wew9 : Nat → Int32), (1 ≤ n ∧ n ≤ 3646) ∧ (1 ≤ L ∧ L ≤ 10000) ∧ (∀ j, iv 0 10 (g0 j)) ∧ iv 0 4 ww0 ∧ iv 0 ((n : Int)) ww5 ∧ iv 0 4 ww6 ∧ iv 0 4 ww14 ∧ iv 0 9 ww15 ∧ iv 0 ((n : Int)) ww16 ∧ (∀ j, iv 0 ((L : Int) - 1) (wew1 j)) ∧ (∀ j, iv 0 ((n : Int)) (wew4 j)) ∧ (∀ j, iv 0 (4 * (n : Int) - 1) (wew5 j)) ∧ (∀ j, iv 0 ((n : Int) - 1) (wew6 j)) ∧ (∀ j, iv 0 ((n : Int) - 1) (wew7 j)) ∧ (WA ww5 wew4 wew1) ∧ (WB ww16 ww6 ww5 wew6) ∧ (WC ww5 wew2) ∧ (ww0 = py2_1) ∧ KN D9 g0 ∧ w = [(y 0, .inr (9, o9_rirrrrrrrrrviii (y 1) py0_1 (y 2) (y 10) (y 19) (y 25) (y 26) (y 30) (y 31) (y 32) (Yw 0) o11 py0_12 py0_13 py0_14)), (y 2, .inr (1, o1_iiiiiirrrrrrriiiii py2_0 py2_1 py2_2 py2_3 py2_4 py2_5 (y 3) (y 4) (y 5) (y 6) (y 7) (y 8) (y 9) py2_13 py2_14 py2_15 py2_16 py2_17)), (y 3, aI V 4 fy3), (y 9, aI V 900 fy9), (y 19, .inr (4, o4_rrrrrr (y 2) (y 20) (y 21) (y 22) (y 23) (y 24))), (y 20, aI V 2000 g0), (y 21, aI V 6 g1), (y 22, aI V 64 g2), (y 30, aT V 4 (va_up (va_up (va_up (va_up (fun _ => none) 0 (some (y 33))) 1 (some (y 35))) 2 (some (y 37))) 3 (some (y 39)))), (y 33, .inr (7, o7_rii (y 34) py33_1 py33_2)), (y 34, aJ V 40 fy34), (y 35, .inr (7, o7_rii (y 36) py35_1 py35_2)), (y 36, aJ V 40 fy36), (y 37, .inr (7, o7_rii (y 38) py37_1 py37_2)), (y 38, aJ V 40 fy38), (y 39, .inr (7, o7_rii (y 40) py39_1 py39_2)), (y 40, aJ V 40 fy40), (Yw 0, .inr (8, o8_iirrriirrrrrrriii ww0 (nI n) (Yw 1) (Yw 2) wa ww5 ww6 (y 19) (Yw 4) (Yw 5) (Yw 6) (Yw 7) (Yw 8) wb ww14 ww15 ww16)), (Yw 1, aI V n wew1), (Yw 2, aI V n wew2), (wa, aI V n wew3), (Yw 4, aI V L wew4), (Yw 5, aI V n wew5), (Yw 6, aI V (n * 4) wew6), (Yw 7, aI V n wew7), (Yw 8, aI V 4 wew8), (wb, aI V n wew9)])) := by
  refine Ct.of (by decide) (Nat.le_of_ble_eq_true rfl) (fun p e s m below meth c A ls hx hb hr hml hown hlk hnm hg hP hK hD hE hA hS hl => ?_)
  have hl : lv_has ls 6 [(0, .ref (y 0)), (1, .int a1), (2, .int a2), (3, .int a3)] := hl
  refine lv_aload_n hx hb dX9_fogs_0 rfl (lv_at hl 0 rfl) ?_
  refine lv_iload_n hx hb dX9_fogs_1 rfl (lv_at hl 1 rfl) ?_
  refine lv_iload_n hx hb dX9_fogs_2 rfl (lv_at hl 2 rfl) ?_
  refine lv_iconst (v := (-1)) hx hb dX9_fogs_3 (by decide) ?_
  refine jnI (wr := [(y 3, aI V 4 fy3), (y 9, aI V 900 fy9), (y 19, .inr (4, o4_rrrrrr (y 2) (y 20) (y 21) (y 22) (y 23) (y 24))), (y 20, aI V 2000 fy20), (y 21, aI V 6 fy21), (y 22, aI V 64 fy22)]) (rnV (rest := []) ⟨hx, hb, hml, hown, hg⟩ (k_X9_refusalOfTold_0 l V y a1 a2 (-1) py0_1 (.null) o11 py0_12 py0_13 py0_14 py2_0 py2_1 py2_2 py2_3 py2_4 py2_5 py2_13 py2_14 py2_15 py2_16 py2_17 py33_1 py33_2 fy34 py35_1 py35_2 fy36 py37_1 py37_2 fy38 py39_1 py39_2 fy40 bpy0_1 bpy0_12 bpy0_13 bpy2_1 bpy2_2 bpy2_3 bpy2_4 bpy2_5 bpy2_13 bpy2_14 bpy2_15 bpy2_16 bpy2_17 bpy33_1 bpy35_1 bpy37_1 bpy39_1) mt_X9_refusalOfTold q_5_21 ⟨Nat.le_of_ble_eq_true rfl, Nat.le_of_ble_eq_true rfl⟩ hK hP hD hS hA hE [0, 1, 8, 9, 10, 11, 12, 13, 14, 15, 16] rfl rfl 0 rfl rfl rfl rfl hl.1 rfl (Nat.le_of_ble_eq_true rfl) dX9_fogs_4 ⟨Nat.le_of_ble_eq_true rfl, Nat.le_of_ble_eq_true rfl⟩) hP hD hS hA [0, 1, 8, 9, 10, 11, 12, 13, 14, 15, 16] [2, 3, 4, 5, 6, 7] rfl rfl rfl (by decide) (fun r_1 w H locs hw hP hD hS => ?_)
  rcases hw with ⟨c_2, rfl, g_3, rfl⟩ | ⟨c_4, c_5, rfl, g_6, rfl⟩ | ⟨c_7, c_8, c_9, rfl, g_10, rfl⟩ | ⟨c_11, c_12, c_13, c_14, rfl, g_15, rfl⟩ | ⟨c_16, c_17, c_18, c_19, c_20, c_21, c_22, rfl, g_23, rfl⟩ | ⟨c_24, c_25, c_26, c_27, c_28, c_29, c_30, c_31, rfl, g_32, rfl⟩ | ⟨c_33, c_34, c_35, c_36, c_37, c_38, c_39, c_40, rfl, g_41, rfl⟩ | ⟨c_42, c_43, c_44, c_45, c_46, c_47, c_48, c_49, rfl, g_50, rfl⟩ | ⟨c_51, c_52, c_53, c_54, c_55, c_56, rfl, g_57, rfl⟩ | ⟨c_58, c_59, c_60, c_61, c_62, c_63, c_64, rfl, g_65, rfl⟩ | ⟨c_66, c_67, c_68, c_69, c_70, c_71, c_72, c_73, rfl, g_74, rfl⟩ | ⟨c_75, c_76, c_77, c_78, c_79, c_80, c_81, c_82, rfl, g_83, rfl⟩ | ⟨c_84, c_85, c_86, c_87, c_88, c_89, c_90, c_91, rfl, g_92, rfl⟩ | ⟨c_93, c_94, c_95, c_96, c_97, c_98, rfl, g_99, rfl⟩ | ⟨c_100, c_101, c_102, c_103, c_104, c_105, c_106, rfl, g_107, rfl⟩ | ⟨c_108, c_109, c_110, c_111, c_112, c_113, c_114, c_115, rfl, g_116, rfl⟩ | ⟨c_117, c_118, c_119, c_120, c_121, c_122, c_123, c_124, rfl, g_125, rfl⟩ | ⟨c_126, c_127, c_128, c_129, c_130, c_131, c_132, c_133, rfl, g_134, rfl⟩ | ⟨c_135, c_136, c_137, c_138, c_139, c_140, rfl, g_141, rfl⟩ | ⟨c_142, c_143, c_144, c_145, c_146, c_147, c_148, rfl, g_149, rfl⟩ | ⟨c_150, c_151, c_152, c_153, c_154, c_155, c_156, c_157, rfl, g_158, rfl⟩ | ⟨c_159, c_160, c_161, c_162, c_163, c_164, c_165, c_166, rfl, g_167, rfl⟩ | ⟨c_168, c_169, c_170, c_171, c_172, c_173, c_174, c_175, rfl, g_176, rfl⟩ | ⟨c_177, c_178, c_179, c_180, c_181, c_182, rfl, g_183, rfl⟩
  · have hP : va_P V.1 vwCl [(y 3, aI V 4 fy3), (y 9, aI V 900 fy9), (y 19, .inr (4, o4_rrrrrr (y 2) (y 20) (y 21) (y 22) (y 23) (y 24))), (y 20, aI V 2000 fy20), (y 21, aI V 6 fy21), (y 22, aI V 64 fy22), (y 0, .inr (9, o9_rirrrrrrrrnviii (y 1) py0_1 (y 2) (y 10) (y 19) (y 25) (y 26) (y 30) (y 31) (y 32) o11 py0_12 py0_13 py0_14)), (y 2, .inr (1, o1_iiiiiirrrrrrriiiii py2_0 py2_1 py2_2 py2_3 py2_4 py2_5 (y 3) (y 4) (y 5) (y 6) (y 7) (y 8) (y 9) py2_13 py2_14 py2_15 py2_16 py2_17)), (y 30, aT V 4 (va_up (va_up (va_up (va_up (fun _ => none) 0 (some (y 33))) 1 (some (y 35))) 2 (some (y 37))) 3 (some (y 39)))), (y 33, .inr (7, o7_rii (y 34) py33_1 py33_2)), (y 34, aJ V 40 fy34), (y 35, .inr (7, o7_rii (y 36) py35_1 py35_2)), (y 36, aJ V 40 fy36), (y 37, .inr (7, o7_rii (y 38) py37_1 py37_2)), (y 38, aJ V 40 fy38), (y 39, .inr (7, o7_rii (y 40) py39_1 py39_2)), (y 40, aJ V 40 fy40)] H := hP
    have hD := cpD hP hD
    have b_184 : iv (-2147483648) (-1) a1 := iv_l1 c_2 (iv_top a1) (iv_c (0 : Int32) (a := 0) (b := 0) (by decide)) (by first | decide | omega)
    refine lv_istore (lv' := [(4, .int (-2)), (0, .ref (y 0)), (1, .int a1), (2, .int a2), (3, .int a3)]) hx hb dX9_fogs_7 hl (by decide) rfl (fun ls hl => ?_)
    refine lv_iload hx hb dX9_fogs_9 (lv_at hl 0 rfl) ?_
    refine lv_if_eq (tgt := 17) hx hb dX9_fogs_11 (by decide) (fun c_186 => absurd c_186 (by decide)) (fun _ => ?_)
    refine lv_iload hx hb dX9_fogs_14 (lv_at hl 0 rfl) ?_
    have z_0 := Int32.lt_iff_toInt_lt.mp c_2
    have k_0 : (0 : Int32).toInt = 0 := (by decide)
    exfalso
    have g_0 := hf0
    have g_1 := hf1
    have g_2 := hf2
    exact absurd (g_3.trans g_0) (by decide)
  · have hP : va_P V.1 vwCl [(y 3, aI V 4 fy3), (y 9, aI V 900 fy9), (y 19, .inr (4, o4_rrrrrr (y 2) (y 20) (y 21) (y 22) (y 23) (y 24))), (y 20, aI V 2000 fy20), (y 21, aI V 6 fy21), (y 22, aI V 64 fy22), (y 0, .inr (9, o9_rirrrrrrrrnviii (y 1) py0_1 (y 2) (y 10) (y 19) (y 25) (y 26) (y 30) (y 31) (y 32) o11 py0_12 py0_13 py0_14)), (y 2, .inr (1, o1_iiiiiirrrrrrriiiii py2_0 py2_1 py2_2 py2_3 py2_4 py2_5 (y 3) (y 4) (y 5) (y 6) (y 7) (y 8) (y 9) py2_13 py2_14 py2_15 py2_16 py2_17)), (y 30, aT V 4 (va_up (va_up (va_up (va_up (fun _ => none) 0 (some (y 33))) 1 (some (y 35))) 2 (some (y 37))) 3 (some (y 39)))), (y 33, .inr (7, o7_rii (y 34) py33_1 py33_2)), (y 34, aJ V 40 fy34), (y 35, .inr (7, o7_rii (y 36) py35_1 py35_2)), (y 36, aJ V 40 fy36), (y 37, .inr (7, o7_rii (y 38) py37_1 py37_2)), (y 38, aJ V 40 fy38), (y 39, .inr (7, o7_rii (y 40) py39_1 py39_2)), (y 40, aJ V 40 fy40)] H := hP
    have hD := cpD hP hD
    have b_187 : iv 0 2147483647 a1 := iv_e2 (Int32.not_lt.mp c_4) (iv_c (0 : Int32) (a := 0) (b := 0) (by decide)) (iv_top a1) (by first | decide | omega)
    have b_188 : iv 4 2147483647 a1 := iv_e2 c_5 (iv_c (4 : Int32) (a := 4) (b := 4) (by decide)) b_187 (by first | decide | omega)
    refine lv_istore (lv' := [(4, .int (-2)), (0, .ref (y 0)), (1, .int a1), (2, .int a2), (3, .int a3)]) hx hb dX9_fogs_7 hl (by decide) rfl (fun ls hl => ?_)
    refine lv_iload hx hb dX9_fogs_9 (lv_at hl 0 rfl) ?_
    refine lv_if_eq (tgt := 17) hx hb dX9_fogs_11 (by decide) (fun c_190 => absurd c_190 (by decide)) (fun _ => ?_)
    refine lv_iload hx hb dX9_fogs_14 (lv_at hl 0 rfl) ?_
    have z_0 := Int32.le_iff_toInt_le.mp (Int32.not_lt.mp c_4)
    have z_1 := Int32.le_iff_toInt_le.mp c_5
    have k_0 : (0 : Int32).toInt = 0 := (by decide)
    have k_4 : (4 : Int32).toInt = 4 := (by decide)
    exfalso
    have g_0 := hf0
    have g_1 := hf1
    have g_2 := hf2
    exact absurd (g_6.trans g_0) (by decide)
  · have hP : va_P V.1 vwCl [(y 3, aI V 4 fy3), (y 9, aI V 900 fy9), (y 19, .inr (4, o4_rrrrrr (y 2) (y 20) (y 21) (y 22) (y 23) (y 24))), (y 20, aI V 2000 fy20), (y 21, aI V 6 fy21), (y 22, aI V 64 fy22), (y 0, .inr (9, o9_rirrrrrrrrnviii (y 1) py0_1 (y 2) (y 10) (y 19) (y 25) (y 26) (y 30) (y 31) (y 32) o11 py0_12 py0_13 py0_14)), (y 2, .inr (1, o1_iiiiiirrrrrrriiiii py2_0 py2_1 py2_2 py2_3 py2_4 py2_5 (y 3) (y 4) (y 5) (y 6) (y 7) (y 8) (y 9) py2_13 py2_14 py2_15 py2_16 py2_17)), (y 30, aT V 4 (va_up (va_up (va_up (va_up (fun _ => none) 0 (some (y 33))) 1 (some (y 35))) 2 (some (y 37))) 3 (some (y 39)))), (y 33, .inr (7, o7_rii (y 34) py33_1 py33_2)), (y 34, aJ V 40 fy34), (y 35, .inr (7, o7_rii (y 36) py35_1 py35_2)), (y 36, aJ V 40 fy36), (y 37, .inr (7, o7_rii (y 38) py37_1 py37_2)), (y 38, aJ V 40 fy38), (y 39, .inr (7, o7_rii (y 40) py39_1 py39_2)), (y 40, aJ V 40 fy40)] H := hP
    have hD := cpD hP hD
    have b_191 : iv 0 2147483647 a1 := iv_e2 (Int32.not_lt.mp c_7) (iv_c (0 : Int32) (a := 0) (b := 0) (by decide)) (iv_top a1) (by first | decide | omega)
    have b_192 : iv 0 3 a1 := iv_l1 (Int32.not_le.mp c_8) b_191 (iv_c (4 : Int32) (a := 4) (b := 4) (by decide)) (by first | decide | omega)
    have b_193 : iv (-2147483648) (-1) a2 := iv_l1 c_9 (iv_top a2) (iv_c (0 : Int32) (a := 0) (b := 0) (by decide)) (by first | decide | omega)
    refine lv_istore (lv' := [(4, .int (-2)), (0, .ref (y 0)), (1, .int a1), (2, .int a2), (3, .int a3)]) hx hb dX9_fogs_7 hl (by decide) rfl (fun ls hl => ?_)
    refine lv_iload hx hb dX9_fogs_9 (lv_at hl 0 rfl) ?_
    refine lv_if_eq (tgt := 17) hx hb dX9_fogs_11 (by decide) (fun c_195 => absurd c_195 (by decide)) (fun _ => ?_)
    refine lv_iload hx hb dX9_fogs_14 (lv_at hl 0 rfl) ?_
    have z_0 := Int32.le_iff_toInt_le.mp (Int32.not_lt.mp c_7)
    have z_1 := Int32.lt_iff_toInt_lt.mp (Int32.not_le.mp c_8)
    have z_2 := Int32.lt_iff_toInt_lt.mp c_9
    have k_0 : (0 : Int32).toInt = 0 := (by decide)
    have k_4 : (4 : Int32).toInt = 4 := (by decide)
    exfalso
    have g_0 := hf0
    have g_1 := hf1
    have g_2 := hf2
    exact absurd (g_10.trans g_0) (by decide)
  · have hP : va_P V.1 vwCl [(y 3, aI V 4 fy3), (y 9, aI V 900 fy9), (y 19, .inr (4, o4_rrrrrr (y 2) (y 20) (y 21) (y 22) (y 23) (y 24))), (y 20, aI V 2000 fy20), (y 21, aI V 6 fy21), (y 22, aI V 64 fy22), (y 0, .inr (9, o9_rirrrrrrrrnviii (y 1) py0_1 (y 2) (y 10) (y 19) (y 25) (y 26) (y 30) (y 31) (y 32) o11 py0_12 py0_13 py0_14)), (y 2, .inr (1, o1_iiiiiirrrrrrriiiii py2_0 py2_1 py2_2 py2_3 py2_4 py2_5 (y 3) (y 4) (y 5) (y 6) (y 7) (y 8) (y 9) py2_13 py2_14 py2_15 py2_16 py2_17)), (y 30, aT V 4 (va_up (va_up (va_up (va_up (fun _ => none) 0 (some (y 33))) 1 (some (y 35))) 2 (some (y 37))) 3 (some (y 39)))), (y 33, .inr (7, o7_rii (y 34) py33_1 py33_2)), (y 34, aJ V 40 fy34), (y 35, .inr (7, o7_rii (y 36) py35_1 py35_2)), (y 36, aJ V 40 fy36), (y 37, .inr (7, o7_rii (y 38) py37_1 py37_2)), (y 38, aJ V 40 fy38), (y 39, .inr (7, o7_rii (y 40) py39_1 py39_2)), (y 40, aJ V 40 fy40)] H := hP
    have hD := cpD hP hD
    have b_196 : iv 0 2147483647 a1 := iv_e2 (Int32.not_lt.mp c_11) (iv_c (0 : Int32) (a := 0) (b := 0) (by decide)) (iv_top a1) (by first | decide | omega)
    have b_197 : iv 0 3 a1 := iv_l1 (Int32.not_le.mp c_12) b_196 (iv_c (4 : Int32) (a := 4) (b := 4) (by decide)) (by first | decide | omega)
    have b_198 : iv 0 2147483647 a2 := iv_e2 (Int32.not_lt.mp c_13) (iv_c (0 : Int32) (a := 0) (b := 0) (by decide)) (iv_top a2) (by first | decide | omega)
    refine lv_istore (lv' := [(4, .int (-2)), (0, .ref (y 0)), (1, .int a1), (2, .int a2), (3, .int a3)]) hx hb dX9_fogs_7 hl (by decide) rfl (fun ls hl => ?_)
    refine lv_iload hx hb dX9_fogs_9 (lv_at hl 0 rfl) ?_
    refine lv_if_eq (tgt := 17) hx hb dX9_fogs_11 (by decide) (fun c_200 => absurd c_200 (by decide)) (fun _ => ?_)
    refine lv_iload hx hb dX9_fogs_14 (lv_at hl 0 rfl) ?_
    have z_0 := Int32.le_iff_toInt_le.mp (Int32.not_lt.mp c_11)
    have z_1 := Int32.lt_iff_toInt_lt.mp (Int32.not_le.mp c_12)
    have z_2 := Int32.le_iff_toInt_le.mp (Int32.not_lt.mp c_13)
    have z_3 := Int32.le_iff_toInt_le.mp c_14
    have k_0 : (0 : Int32).toInt = 0 := (by decide)
    have k_4 : (4 : Int32).toInt = 4 := (by decide)
    exfalso
    have g_0 := hf0
    have g_1 := hf1
    have g_2 := hf2
    exact absurd (g_15.trans g_0) (by decide)
  · have hP : va_P V.1 vwCl [(y 3, aI V 4 fy3), (y 9, aI V 900 fy9), (y 19, .inr (4, o4_rrrrrr (y 2) (y 20) (y 21) (y 22) (y 23) (y 24))), (y 20, aI V 2000 fy20), (y 21, aI V 6 fy21), (y 22, aI V 64 fy22), (y 0, .inr (9, o9_rirrrrrrrrnviii (y 1) py0_1 (y 2) (y 10) (y 19) (y 25) (y 26) (y 30) (y 31) (y 32) o11 py0_12 py0_13 py0_14)), (y 2, .inr (1, o1_iiiiiirrrrrrriiiii py2_0 py2_1 py2_2 py2_3 py2_4 py2_5 (y 3) (y 4) (y 5) (y 6) (y 7) (y 8) (y 9) py2_13 py2_14 py2_15 py2_16 py2_17)), (y 30, aT V 4 (va_up (va_up (va_up (va_up (fun _ => none) 0 (some (y 33))) 1 (some (y 35))) 2 (some (y 37))) 3 (some (y 39)))), (y 33, .inr (7, o7_rii (y 34) py33_1 py33_2)), (y 34, aJ V 40 fy34), (y 35, .inr (7, o7_rii (y 36) py35_1 py35_2)), (y 36, aJ V 40 fy36), (y 37, .inr (7, o7_rii (y 38) py37_1 py37_2)), (y 38, aJ V 40 fy38), (y 39, .inr (7, o7_rii (y 40) py39_1 py39_2)), (y 40, aJ V 40 fy40)] H := hP
    have hD := cpD hP hD
    have b_201 : iv 0 2147483647 a2 := iv_e2 (Int32.not_lt.mp c_18) (iv_c (0 : Int32) (a := 0) (b := 0) (by decide)) (iv_top a2) (by first | decide | omega)
    have b_202 : iv 0 3 a2 := iv_l1 (Int32.not_le.mp c_19) b_201 bpy2_1 (by first | decide | omega)
    have b_203 : iv 1 4 py2_1 := iv_l2 (Int32.not_le.mp c_19) b_201 bpy2_1 (by first | decide | omega)
    have b_204 : iv 0 0 a1 := iv_q c_20 (iv_c (0 : Int32) (a := 0) (b := 0) (by decide))
    have b_205 : iv 0 40 py33_1 := iv_e2 c_21 (iv_c (0 : Int32) (a := 0) (b := 0) (by decide)) bpy33_1 (by first | decide | omega)
    have b_206 : iv 0 0 py33_1 := iv_l1 c_22 b_205 (iv_c (1 : Int32) (a := 1) (b := 1) (by decide)) (by first | decide | omega)
    refine lv_istore (lv' := [(4, .int (-4)), (0, .ref (y 0)), (1, .int a1), (2, .int a2), (3, .int a3)]) hx hb dX9_fogs_7 hl (by decide) rfl (fun ls hl => ?_)
    refine lv_iload hx hb dX9_fogs_9 (lv_at hl 0 rfl) ?_
    refine lv_if_eq (tgt := 17) hx hb dX9_fogs_11 (by decide) (fun c_208 => absurd c_208 (by decide)) (fun _ => ?_)
    refine lv_iload hx hb dX9_fogs_14 (lv_at hl 0 rfl) ?_
    have z_0 := Int32.le_iff_toInt_le.mp (Int32.not_lt.mp c_16)
    have z_1 := Int32.lt_iff_toInt_lt.mp (Int32.not_le.mp c_17)
    have z_2 := Int32.le_iff_toInt_le.mp (Int32.not_lt.mp c_18)
    have z_3 := Int32.lt_iff_toInt_lt.mp (Int32.not_le.mp c_19)
    have z_4 := congrArg Int32.toInt c_20
    have z_5 := Int32.le_iff_toInt_le.mp c_21
    have z_6 := Int32.lt_iff_toInt_lt.mp c_22
    have k_0 : (0 : Int32).toInt = 0 := (by decide)
    have k_1 : (1 : Int32).toInt = 1 := (by decide)
    have k_4 : (4 : Int32).toInt = 4 := (by decide)
    exfalso
    have g_0 := hf0
    have g_1 := hf1
    have g_2 := hf2
    exact absurd (g_23.trans g_0) (by decide)
  · have hP : va_P V.1 vwCl [(y 3, aI V 4 fy3), (y 9, aI V 900 fy9), (y 19, .inr (4, o4_rrrrrr (y 2) (y 20) (y 21) (y 22) (y 23) (y 24))), (y 20, aI V 2000 fy20), (y 21, aI V 6 fy21), (y 22, aI V 64 fy22), (y 0, .inr (9, o9_rirrrrrrrrnviii (y 1) py0_1 (y 2) (y 10) (y 19) (y 25) (y 26) (y 30) (y 31) (y 32) o11 py0_12 py0_13 py0_14)), (y 2, .inr (1, o1_iiiiiirrrrrrriiiii py2_0 py2_1 py2_2 py2_3 py2_4 py2_5 (y 3) (y 4) (y 5) (y 6) (y 7) (y 8) (y 9) py2_13 py2_14 py2_15 py2_16 py2_17)), (y 30, aT V 4 (va_up (va_up (va_up (va_up (fun _ => none) 0 (some (y 33))) 1 (some (y 35))) 2 (some (y 37))) 3 (some (y 39)))), (y 33, .inr (7, o7_rii (y 34) py33_1 py33_2)), (y 34, aJ V 40 fy34), (y 35, .inr (7, o7_rii (y 36) py35_1 py35_2)), (y 36, aJ V 40 fy36), (y 37, .inr (7, o7_rii (y 38) py37_1 py37_2)), (y 38, aJ V 40 fy38), (y 39, .inr (7, o7_rii (y 40) py39_1 py39_2)), (y 40, aJ V 40 fy40)] H := hP
    have hD := cpD hP hD
    have b_209 : iv 0 2147483647 a2 := iv_e2 (Int32.not_lt.mp c_26) (iv_c (0 : Int32) (a := 0) (b := 0) (by decide)) (iv_top a2) (by first | decide | omega)
    have b_210 : iv 0 3 a2 := iv_l1 (Int32.not_le.mp c_27) b_209 bpy2_1 (by first | decide | omega)
    have b_211 : iv 1 4 py2_1 := iv_l2 (Int32.not_le.mp c_27) b_209 bpy2_1 (by first | decide | omega)
    have b_212 : iv 0 0 a1 := iv_q c_28 (iv_c (0 : Int32) (a := 0) (b := 0) (by decide))
    have b_213 : iv 0 40 py33_1 := iv_e2 c_29 (iv_c (0 : Int32) (a := 0) (b := 0) (by decide)) bpy33_1 (by first | decide | omega)
    have b_214 : iv 1 40 py33_1 := iv_e2 (Int32.not_lt.mp c_30) (iv_c (1 : Int32) (a := 1) (b := 1) (by decide)) b_213 (by first | decide | omega)
    have b_215 : iv 1 8 py33_1 := iv_e1 c_31 b_214 (iv_c (8 : Int32) (a := 8) (b := 8) (by decide)) (by first | decide | omega)
    refine lv_istore (lv' := [(4, .int 0), (0, .ref (y 0)), (1, .int a1), (2, .int a2), (3, .int a3)]) hx hb dX9_fogs_7 hl (by decide) rfl (fun ls hl => ?_)
    refine lv_iload hx hb dX9_fogs_9 (lv_at hl 0 rfl) ?_
    refine lv_if_eq (tgt := 17) hx hb dX9_fogs_11 (by decide) (fun _ => ?_) (fun c_217 => absurd c_217 (by decide))
    refine lv_iload_n hx hb dX9_fogs_17 rfl (lv_at hl 4 rfl) ?_
    refine lv_if_ge (tgt := 24) hx hb dX9_fogs_18 (by decide) (fun c_218 => ?_) (fun c_218 => ?_)
    · have b_219 : iv 0 2147483647 a3 := iv_e2 c_218 (iv_c (0 : Int32) (a := 0) (b := 0) (by decide)) (iv_top a3) (by first | decide | omega)
      refine lv_iload_n hx hb dX9_fogs_24 rfl (lv_at hl 4 rfl) ?_
      refine lv_aload_n hx hb dX9_fogs_25 rfl (lv_at hl 1 rfl) ?_
      refine va_get (ci := 9) (v := .ref (y 30)) (C := RX9) (T := TX9) (N := 15) hx hb hg inX9 hown hK hP 6 rfl rfl 7 (by decide) (hg _ q_2_43) (fun _ h9 => h9) rfl dX9_fogs_26 ?_
      refine lv_iload_n hx hb dX9_fogs_29 rfl (lv_at hl 2 rfl) ?_
      have c_220 : a1 = 0 := by have q9 := b_212; unfold iv at q9; simp only [tI_eq, (by decide : (0 : Int32).toInt = 0)]; omega
      rcases c_220 with rfl
      · refine va_aldq hx hb hK hP 8 4 rfl rfl (vin (by decide +kernel)) dX9_fogs_30 ?_
        refine W.eq (g2 := F0 m 31 ls (.ref (y 33) :: .int a3 :: [])) rfl ?_
        refine va_get (ci := 7) (v := .int py33_1) (C := RX7) (T := TX7) (N := 3) hx hb hg inX7 hown hK hP 9 rfl rfl 1 (by decide) (hg _ q_2_2) (fun _ h9 => h9) rfl dX9_fogs_31 ?_
        refine lv_icmp_lt (tgt := 40) hx hb dX9_fogs_34 (by decide) (fun c_221 => ?_) (fun c_221 => ?_)
        · have b_222 : iv 0 7 a3 := iv_l1 c_221 b_219 b_215 (by first | decide | omega)
          refine lv_aload_n hx hb dX9_fogs_40 rfl (lv_at hl 1 rfl) ?_
          refine lv_aload_n hx hb dX9_fogs_41 rfl (lv_at hl 1 rfl) ?_
          refine va_get (ci := 9) (v := .ref (y 30)) (C := RX9) (T := TX9) (N := 15) hx hb hg inX9 hown hK hP 6 rfl rfl 7 (by decide) (hg _ q_2_43) (fun _ h9 => h9) rfl dX9_fogs_42 ?_
          refine lv_iload_n hx hb dX9_fogs_45 rfl (lv_at hl 2 rfl) ?_
          refine va_aldq hx hb hK hP 8 4 rfl rfl (vin (by decide +kernel)) dX9_fogs_46 ?_
          refine W.eq (g2 := F0 m 47 ls (.ref (y 33) :: .ref (y 0) :: [])) rfl ?_
          refine va_get (ci := 7) (v := .int py33_1) (C := RX7) (T := TX7) (N := 3) hx hb hg inX7 hown hK hP 9 rfl rfl 1 (by decide) (hg _ q_2_2) (fun _ h9 => h9) rfl dX9_fogs_47 ?_
          refine jnR (wr := [(y 30, aT V 4 (va_up (va_up (va_up (va_up (fun _ => none) 0 (some (y 33))) 1 (some (y 35))) 2 (some (y 37))) 3 (some (y 39)))), (y 33, .inr (7, o7_rii (y 34) py33_1 py33_2)), (y 34, aJ V 40 fy34), (y 35, .inr (7, o7_rii (y 36) py35_1 py35_2)), (y 36, aJ V 40 fy36), (y 37, .inr (7, o7_rii (y 38) py37_1 py37_2)), (y 38, aJ V 40 fy38), (y 39, .inr (7, o7_rii (y 40) py39_1 py39_2)), (y 40, aJ V 40 fy40)]) (rnV (rest := []) ⟨hx, hb, hml, hown, hg⟩ (k_X9_waysFromNow_1 l V y D9 py33_1 fy3 fy9 fy20 fy21 fy22 py0_1 o11 py0_12 py0_13 py0_14 py2_0 py2_1 py2_2 py2_3 py2_4 py2_5 py2_13 py2_14 py2_15 py2_16 py2_17 tfy20 bpy0_1 bpy0_12 bpy0_13 (iv_w b_211 (by first | decide | omega)) bpy2_2 bpy2_3 bpy2_4 bpy2_5 bpy2_13 bpy2_14 bpy2_15 bpy2_16 bpy2_17 hL9 hK9) mt_X9_waysFromNow q_4_52 ⟨Nat.le_of_ble_eq_true rfl, Nat.le_of_ble_eq_true rfl⟩ hK hP hD hS hA hE [0, 1, 2, 3, 4, 5, 6, 7] rfl rfl 6 rfl rfl rfl rfl hl.1 rfl (Nat.le_of_ble_eq_true rfl) dX9_fogs_50 ⟨Nat.le_of_ble_eq_true rfl, Nat.le_of_ble_eq_true rfl⟩) hP hD hS hA [0, 1, 2, 3, 4, 5, 6, 7] [8, 9, 10, 11, 12, 13, 14, 15, 16] rfl rfl rfl (by decide) (fun r_223 w H locs hw hP hD hS => ?_)
          refine W.widen (k := 10) (n := 46481) (Nat.le_of_ble_eq_true rfl) (Nat.le_of_ble_eq_true rfl) ?_
          obtain ⟨n, L, Yw, wa_224, wb_225, f_226, f_227, f_228, v_229, v_230, v_231, v_232, v_233, v_234, f_235, f_236, f_237, f_238, f_239, f_240, f_241, f_242, f_243, hn, hL, tf_226, bv_229, bv_230, bv_231, bv_232, bv_233, bv_234, tf_235, tf_238, tf_239, tf_240, tf_241, eW, g_244, g_245, g_246, g_247, g_248, kn_249, rfl⟩ := hw
          have hP : va_P V.1 vwCl [(y 30, aT V 4 (va_up (va_up (va_up (va_up (fun _ => none) 0 (some (y 33))) 1 (some (y 35))) 2 (some (y 37))) 3 (some (y 39)))), (y 33, .inr (7, o7_rii (y 34) py33_1 py33_2)), (y 34, aJ V 40 fy34), (y 35, .inr (7, o7_rii (y 36) py35_1 py35_2)), (y 36, aJ V 40 fy36), (y 37, .inr (7, o7_rii (y 38) py37_1 py37_2)), (y 38, aJ V 40 fy38), (y 39, .inr (7, o7_rii (y 40) py39_1 py39_2)), (y 40, aJ V 40 fy40), (y 3, aI V 4 fy3), (y 9, aI V 900 fy9), (y 19, .inr (4, o4_rrrrrr (y 2) (y 20) (y 21) (y 22) (y 23) (y 24))), (y 20, aI V 2000 f_226), (y 21, aI V 6 f_227), (y 22, aI V 64 f_228), (y 0, .inr (9, o9_rirrrrrrrrrviii (y 1) py0_1 (y 2) (y 10) (y 19) (y 25) (y 26) (y 30) (y 31) (y 32) (Yw 0) o11 py0_12 py0_13 py0_14)), (y 2, .inr (1, o1_iiiiiirrrrrrriiiii py2_0 py2_1 py2_2 py2_3 py2_4 py2_5 (y 3) (y 4) (y 5) (y 6) (y 7) (y 8) (y 9) py2_13 py2_14 py2_15 py2_16 py2_17)), (Yw 0, .inr (8, o8_iirrriirrrrrrriii v_229 (nI n) (Yw 1) (Yw 2) wa_224 v_230 v_231 (y 19) (Yw 4) (Yw 5) (Yw 6) (Yw 7) (Yw 8) wb_225 v_232 v_233 v_234)), (Yw 1, aI V n f_235), (Yw 2, aI V n f_236), (wa_224, aI V n f_237), (Yw 4, aI V L f_238), (Yw 5, aI V n f_239), (Yw 6, aI V (n * 4) f_240), (Yw 7, aI V n f_241), (Yw 8, aI V 4 f_242), (wb_225, aI V n f_243)] H := hP
          have hD := cpD hP hD
          rw [← eW]
          refine lv_astore (lv' := [(5, .ref (Yw 0)), (4, .int 0), (0, .ref (y 0)), (1, .int 0), (2, .int a2), (3, .int a3)]) hx hb dX9_fogs_53 hl (by decide) rfl (fun ls hl => ?_)
          refine lv_aload hx hb dX9_fogs_55 (lv_at hl 0 rfl) ?_
          refine lv_aload_n hx hb dX9_fogs_57 rfl (lv_at hl 2 rfl) ?_
          refine va_get (ci := 9) (v := .ref (y 30)) (C := RX9) (T := TX9) (N := 15) hx hb hg inX9 hown hK hP 15 rfl rfl 7 (by decide) (hg _ q_2_43) (fun _ h9 => h9) rfl dX9_fogs_58 ?_
          refine lv_iload_n hx hb dX9_fogs_61 rfl (lv_at hl 3 rfl) ?_
          refine va_aldq hx hb hK hP 0 4 rfl rfl (vin (by decide +kernel)) dX9_fogs_62 ?_
          refine W.eq (g2 := F0 m 63 ls (.ref (y 33) :: .ref (Yw 0) :: [])) rfl ?_
          refine lv_iload_n hx hb dX9_fogs_63 rfl (lv_at hl 4 rfl) ?_
          refine jnV (wr := [(y 30, aT V 4 (va_up (va_up (va_up (va_up (fun _ => none) 0 (some (y 33))) 1 (some (y 35))) 2 (some (y 37))) 3 (some (y 39)))), (y 35, .inr (7, o7_rii (y 36) py35_1 py35_2)), (y 36, aJ V 40 fy36), (y 37, .inr (7, o7_rii (y 38) py37_1 py37_2)), (y 38, aJ V 40 fy38), (y 39, .inr (7, o7_rii (y 40) py39_1 py39_2)), (y 40, aJ V 40 fy40), (y 3, aI V 4 fy3), (y 9, aI V 900 fy9), (y 19, .inr (4, o4_rrrrrr (y 2) (y 20) (y 21) (y 22) (y 23) (y 24))), (y 20, aI V 2000 f_226), (y 21, aI V 6 f_227), (y 22, aI V 64 f_228), (y 0, .inr (9, o9_rirrrrrrrrrviii (y 1) py0_1 (y 2) (y 10) (y 19) (y 25) (y 26) (y 30) (y 31) (y 32) (Yw 0) o11 py0_12 py0_13 py0_14)), (y 2, .inr (1, o1_iiiiiirrrrrrriiiii py2_0 py2_1 py2_2 py2_3 py2_4 py2_5 (y 3) (y 4) (y 5) (y 6) (y 7) (y 8) (y 9) py2_13 py2_14 py2_15 py2_16 py2_17)), (Yw 4, aI V L f_238), (Yw 5, aI V n f_239), (Yw 7, aI V n f_241), (Yw 8, aI V 4 f_242), (wb_225, aI V n f_243)]) (rnV (rest := []) ⟨hx, hb, hml, hown, hg⟩ (k_X8_traceTold_0 l V n L Yw y a2 py33_1 py33_2 fy34 v_229 wa_224 v_230 v_231 wb_225 v_232 v_233 v_234 f_235 f_236 f_237 f_240 hn hL b_210 (iv_w b_215 (by first | decide | omega)) bv_229 bv_230 bv_231 bv_232 bv_233 bv_234 tf_235 tf_240) mt_X8_traceTold q_5_39 ⟨Nat.le_of_ble_eq_true rfl, Nat.le_of_ble_eq_true rfl⟩ hK hP hD hS hA hE [1, 2, 17, 18, 19, 20, 23] rfl rfl 17 rfl rfl rfl rfl hl.1 rfl (Nat.le_of_ble_eq_true rfl) dX9_fogs_64 ⟨Nat.le_of_ble_eq_true rfl, Nat.le_of_ble_eq_true rfl⟩) hP hD hS hA [1, 2, 17, 18, 19, 20, 23] [0, 3, 4, 5, 6, 7, 8, 9, 10, 11, 12, 13, 14, 15, 16, 21, 22, 24, 25, 26] rfl rfl rfl (by decide) (fun  w H locs hw hP hD hS => ?_)
          obtain ⟨f_250, rfl⟩ := hw
          have hP : va_P V.1 vwCl [(y 30, aT V 4 (va_up (va_up (va_up (va_up (fun _ => none) 0 (some (y 33))) 1 (some (y 35))) 2 (some (y 37))) 3 (some (y 39)))), (y 35, .inr (7, o7_rii (y 36) py35_1 py35_2)), (y 36, aJ V 40 fy36), (y 37, .inr (7, o7_rii (y 38) py37_1 py37_2)), (y 38, aJ V 40 fy38), (y 39, .inr (7, o7_rii (y 40) py39_1 py39_2)), (y 40, aJ V 40 fy40), (y 3, aI V 4 fy3), (y 9, aI V 900 fy9), (y 19, .inr (4, o4_rrrrrr (y 2) (y 20) (y 21) (y 22) (y 23) (y 24))), (y 20, aI V 2000 f_226), (y 21, aI V 6 f_227), (y 22, aI V 64 f_228), (y 0, .inr (9, o9_rirrrrrrrrrviii (y 1) py0_1 (y 2) (y 10) (y 19) (y 25) (y 26) (y 30) (y 31) (y 32) (Yw 0) o11 py0_12 py0_13 py0_14)), (y 2, .inr (1, o1_iiiiiirrrrrrriiiii py2_0 py2_1 py2_2 py2_3 py2_4 py2_5 (y 3) (y 4) (y 5) (y 6) (y 7) (y 8) (y 9) py2_13 py2_14 py2_15 py2_16 py2_17)), (Yw 4, aI V L f_238), (Yw 5, aI V n f_239), (Yw 7, aI V n f_241), (Yw 8, aI V 4 f_242), (wb_225, aI V n f_243), (y 33, .inr (7, o7_rii (y 34) py33_1 py33_2)), (y 34, aJ V 40 fy34), (Yw 0, .inr (8, o8_iirrriirrrrrrriii v_229 (nI n) (Yw 1) (Yw 2) wa_224 v_230 v_231 (y 19) (Yw 4) (Yw 5) (Yw 6) (Yw 7) (Yw 8) wb_225 v_232 v_233 v_234)), (Yw 1, aI V n f_235), (Yw 2, aI V n f_236), (wa_224, aI V n f_250), (Yw 6, aI V (n * 4) f_240)] H := hP
          have hD := cpD hP hD
          refine lv_aload hx hb dX9_fogs_67 (lv_at hl 0 rfl) ?_
          refine lv_iload_n hx hb dX9_fogs_69 rfl (lv_at hl 5 rfl) ?_
          refine jnI (wr := [(y 30, aT V 4 (va_up (va_up (va_up (va_up (fun _ => none) 0 (some (y 33))) 1 (some (y 35))) 2 (some (y 37))) 3 (some (y 39)))), (y 35, .inr (7, o7_rii (y 36) py35_1 py35_2)), (y 36, aJ V 40 fy36), (y 37, .inr (7, o7_rii (y 38) py37_1 py37_2)), (y 38, aJ V 40 fy38), (y 39, .inr (7, o7_rii (y 40) py39_1 py39_2)), (y 40, aJ V 40 fy40), (y 3, aI V 4 fy3), (y 9, aI V 900 fy9), (y 19, .inr (4, o4_rrrrrr (y 2) (y 20) (y 21) (y 22) (y 23) (y 24))), (y 20, aI V 2000 f_226), (y 21, aI V 6 f_227), (y 22, aI V 64 f_228), (y 0, .inr (9, o9_rirrrrrrrrrviii (y 1) py0_1 (y 2) (y 10) (y 19) (y 25) (y 26) (y 30) (y 31) (y 32) (Yw 0) o11 py0_12 py0_13 py0_14)), (y 2, .inr (1, o1_iiiiiirrrrrrriiiii py2_0 py2_1 py2_2 py2_3 py2_4 py2_5 (y 3) (y 4) (y 5) (y 6) (y 7) (y 8) (y 9) py2_13 py2_14 py2_15 py2_16 py2_17)), (Yw 4, aI V L f_238), (Yw 5, aI V n f_239), (Yw 7, aI V n f_241), (Yw 8, aI V 4 f_242), (wb_225, aI V n f_243), (y 33, .inr (7, o7_rii (y 34) py33_1 py33_2)), (y 34, aJ V 40 fy34), (Yw 1, aI V n f_235)]) (rnV (rest := []) ⟨hx, hb, hml, hown, hg⟩ (k_X8_allTraced_0 l V n Yw y a3 v_229 wa_224 v_230 v_231 wb_225 v_232 v_233 v_234 f_236 f_250 f_240 hn (iv_w b_222 (by first | decide | omega)) bv_229 bv_230 bv_231 bv_232 bv_233 bv_234 tf_240) mt_X8_allTraced q_5_59 ⟨Nat.le_of_ble_eq_true rfl, Nat.le_of_ble_eq_true rfl⟩ hK hP hD hS hA hE [22, 24, 25, 26] rfl rfl 22 rfl rfl rfl rfl hl.1 rfl (Nat.le_of_ble_eq_true rfl) dX9_fogs_70 ⟨Nat.le_of_ble_eq_true rfl, Nat.le_of_ble_eq_true rfl⟩) hP hD hS hA [22, 24, 25, 26] [0, 1, 2, 3, 4, 5, 6, 7, 8, 9, 10, 11, 12, 13, 14, 15, 16, 17, 18, 19, 20, 21, 23] rfl rfl rfl (by decide) (fun r_251 w H locs hw hP hD hS => ?_)
          subst hw
          have hP : va_P V.1 vwCl [(y 30, aT V 4 (va_up (va_up (va_up (va_up (fun _ => none) 0 (some (y 33))) 1 (some (y 35))) 2 (some (y 37))) 3 (some (y 39)))), (y 35, .inr (7, o7_rii (y 36) py35_1 py35_2)), (y 36, aJ V 40 fy36), (y 37, .inr (7, o7_rii (y 38) py37_1 py37_2)), (y 38, aJ V 40 fy38), (y 39, .inr (7, o7_rii (y 40) py39_1 py39_2)), (y 40, aJ V 40 fy40), (y 3, aI V 4 fy3), (y 9, aI V 900 fy9), (y 19, .inr (4, o4_rrrrrr (y 2) (y 20) (y 21) (y 22) (y 23) (y 24))), (y 20, aI V 2000 f_226), (y 21, aI V 6 f_227), (y 22, aI V 64 f_228), (y 0, .inr (9, o9_rirrrrrrrrrviii (y 1) py0_1 (y 2) (y 10) (y 19) (y 25) (y 26) (y 30) (y 31) (y 32) (Yw 0) o11 py0_12 py0_13 py0_14)), (y 2, .inr (1, o1_iiiiiirrrrrrriiiii py2_0 py2_1 py2_2 py2_3 py2_4 py2_5 (y 3) (y 4) (y 5) (y 6) (y 7) (y 8) (y 9) py2_13 py2_14 py2_15 py2_16 py2_17)), (Yw 4, aI V L f_238), (Yw 5, aI V n f_239), (Yw 7, aI V n f_241), (Yw 8, aI V 4 f_242), (wb_225, aI V n f_243), (y 33, .inr (7, o7_rii (y 34) py33_1 py33_2)), (y 34, aJ V 40 fy34), (Yw 1, aI V n f_235), (Yw 0, .inr (8, o8_iirrriirrrrrrriii v_229 (nI n) (Yw 1) (Yw 2) wa_224 v_230 v_231 (y 19) (Yw 4) (Yw 5) (Yw 6) (Yw 7) (Yw 8) wb_225 v_232 v_233 v_234)), (Yw 2, aI V n f_236), (wa_224, aI V n f_250), (Yw 6, aI V (n * 4) f_240)] H := hP
          have hD := cpD hP hD
          have hP := subP (ws' := [(y 0, .inr (9, o9_rirrrrrrrrrviii (y 1) py0_1 (y 2) (y 10) (y 19) (y 25) (y 26) (y 30) (y 31) (y 32) (Yw 0) o11 py0_12 py0_13 py0_14)), (y 2, .inr (1, o1_iiiiiirrrrrrriiiii py2_0 py2_1 py2_2 py2_3 py2_4 py2_5 (y 3) (y 4) (y 5) (y 6) (y 7) (y 8) (y 9) py2_13 py2_14 py2_15 py2_16 py2_17)), (y 3, aI V 4 fy3), (y 9, aI V 900 fy9), (y 19, .inr (4, o4_rrrrrr (y 2) (y 20) (y 21) (y 22) (y 23) (y 24))), (y 20, aI V 2000 f_226), (y 21, aI V 6 f_227), (y 22, aI V 64 f_228), (y 30, aT V 4 (va_up (va_up (va_up (va_up (fun _ => none) 0 (some (y 33))) 1 (some (y 35))) 2 (some (y 37))) 3 (some (y 39)))), (y 33, .inr (7, o7_rii (y 34) py33_1 py33_2)), (y 34, aJ V 40 fy34), (y 35, .inr (7, o7_rii (y 36) py35_1 py35_2)), (y 36, aJ V 40 fy36), (y 37, .inr (7, o7_rii (y 38) py37_1 py37_2)), (y 38, aJ V 40 fy38), (y 39, .inr (7, o7_rii (y 40) py39_1 py39_2)), (y 40, aJ V 40 fy40), (Yw 4, aI V L f_238), (Yw 5, aI V n f_239), (Yw 7, aI V n f_241), (Yw 8, aI V 4 f_242), (wb_225, aI V n f_243), (Yw 1, aI V n f_235), (Yw 0, .inr (8, o8_iirrriirrrrrrriii v_229 (nI n) (Yw 1) (Yw 2) wa_224 v_230 v_231 (y 19) (Yw 4) (Yw 5) (Yw 6) (Yw 7) (Yw 8) wb_225 v_232 v_233 v_234)), (Yw 2, aI V n f_236), (wa_224, aI V n f_250), (Yw 6, aI V (n * 4) f_240)]) hP [13, 14, 7, 8, 9, 10, 11, 12, 0, 20, 21, 1, 2, 3, 4, 5, 6, 15, 16, 17, 18, 19, 22, 23, 24, 25, 26] rfl
          have hD := subD hP hD [13, 14, 7, 8, 9, 10, 11, 12, 0, 20, 21, 1, 2, 3, 4, 5, 6, 15, 16, 17, 18, 19, 22, 23, 24, 25, 26] rfl rfl
          exact fiI hx hb hr hlk hK (subP (ws' := [(y 0, .inr (9, o9_rirrrrrrrrrviii (y 1) py0_1 (y 2) (y 10) (y 19) (y 25) (y 26) (y 30) (y 31) (y 32) (Yw 0) o11 py0_12 py0_13 py0_14)), (y 2, .inr (1, o1_iiiiiirrrrrrriiiii py2_0 py2_1 py2_2 py2_3 py2_4 py2_5 (y 3) (y 4) (y 5) (y 6) (y 7) (y 8) (y 9) py2_13 py2_14 py2_15 py2_16 py2_17)), (y 3, aI V 4 fy3), (y 9, aI V 900 fy9), (y 19, .inr (4, o4_rrrrrr (y 2) (y 20) (y 21) (y 22) (y 23) (y 24))), (y 20, aI V 2000 f_226), (y 21, aI V 6 f_227), (y 22, aI V 64 f_228), (y 30, aT V 4 (va_up (va_up (va_up (va_up (fun _ => none) 0 (some (y 33))) 1 (some (y 35))) 2 (some (y 37))) 3 (some (y 39)))), (y 33, .inr (7, o7_rii (y 34) py33_1 py33_2)), (y 34, aJ V 40 fy34), (y 35, .inr (7, o7_rii (y 36) py35_1 py35_2)), (y 36, aJ V 40 fy36), (y 37, .inr (7, o7_rii (y 38) py37_1 py37_2)), (y 38, aJ V 40 fy38), (y 39, .inr (7, o7_rii (y 40) py39_1 py39_2)), (y 40, aJ V 40 fy40), (Yw 0, .inr (8, o8_iirrriirrrrrrriii v_229 (nI n) (Yw 1) (Yw 2) wa_224 v_230 v_231 (y 19) (Yw 4) (Yw 5) (Yw 6) (Yw 7) (Yw 8) wb_225 v_232 v_233 v_234)), (Yw 1, aI V n f_235), (Yw 2, aI V n f_236), (wa_224, aI V n f_250), (Yw 4, aI V L f_238), (Yw 5, aI V n f_239), (Yw 6, aI V (n * 4) f_240), (Yw 7, aI V n f_241), (Yw 8, aI V 4 f_242), (wb_225, aI V n f_243)]) hP [0, 1, 2, 3, 4, 5, 6, 7, 8, 9, 10, 11, 12, 13, 14, 15, 16, 23, 22, 24, 25, 17, 18, 26, 19, 20, 21] rfl) (hD.sub [0, 1, 2, 3, 4, 5, 6, 7, 8, 9, 10, 11, 12, 13, 14, 15, 16, 23, 22, 24, 25, 17, 18, 26, 19, 20, 21] rfl rfl) hS dX9_fogs_73 (Nat.le_of_ble_eq_true rfl) (Nat.le_of_ble_eq_true rfl) (⟨n, L, Yw, wa_224, wb_225, f_226, f_227, f_228, v_229, v_230, v_231, v_232, v_233, v_234, f_235, f_236, f_250, f_238, f_239, f_240, f_241, f_242, f_243, hn, hL, tf_226, bv_229, bv_230, bv_231, bv_232, bv_233, bv_234, tf_235, tf_238, tf_239, tf_240, tf_241, g_244, g_245, g_246, g_248, kn_249, rfl⟩)
        · have b_252 : iv 1 2147483647 a3 := iv_e2 (Int32.not_lt.mp c_221) b_215 b_219 (by first | decide | omega)
          refine lv_bipush (v := (-7)) hx hb dX9_fogs_37 (by decide) ?_
          have z_0 := Int32.le_iff_toInt_le.mp (Int32.not_lt.mp c_24)
          have z_1 := Int32.lt_iff_toInt_lt.mp (Int32.not_le.mp c_25)
          have z_2 := Int32.le_iff_toInt_le.mp (Int32.not_lt.mp c_26)
          have z_3 := Int32.lt_iff_toInt_lt.mp (Int32.not_le.mp c_27)
          have z_4 := congrArg Int32.toInt c_28
          have z_5 := Int32.le_iff_toInt_le.mp c_29
          have z_6 := Int32.le_iff_toInt_le.mp (Int32.not_lt.mp c_30)
          have z_7 := Int32.le_iff_toInt_le.mp c_31
          have z_8 := Int32.le_iff_toInt_le.mp c_218
          have z_9 := Int32.le_iff_toInt_le.mp (Int32.not_lt.mp c_221)
          have k_0 : (0 : Int32).toInt = 0 := (by decide)
          have k_1 : (1 : Int32).toInt = 1 := (by decide)
          have k_4 : (4 : Int32).toInt = 4 := (by decide)
          have k_8 : (8 : Int32).toInt = 8 := (by decide)
          exfalso
          have g_0 := hf0
          have g_1 := hf1
          have g_2 := hf2
          rw [cntF_0] at g_2
          omega
    · have b_253 : iv (-2147483648) (-1) a3 := iv_l1 (Int32.not_le.mp c_218) (iv_top a3) (iv_c (0 : Int32) (a := 0) (b := 0) (by decide)) (by first | decide | omega)
      refine lv_bipush (v := (-3)) hx hb dX9_fogs_21 (by decide) ?_
      have z_0 := Int32.le_iff_toInt_le.mp (Int32.not_lt.mp c_24)
      have z_1 := Int32.lt_iff_toInt_lt.mp (Int32.not_le.mp c_25)
      have z_2 := Int32.le_iff_toInt_le.mp (Int32.not_lt.mp c_26)
      have z_3 := Int32.lt_iff_toInt_lt.mp (Int32.not_le.mp c_27)
      have z_4 := congrArg Int32.toInt c_28
      have z_5 := Int32.le_iff_toInt_le.mp c_29
      have z_6 := Int32.le_iff_toInt_le.mp (Int32.not_lt.mp c_30)
      have z_7 := Int32.le_iff_toInt_le.mp c_31
      have z_8 := Int32.lt_iff_toInt_lt.mp (Int32.not_le.mp c_218)
      have k_0 : (0 : Int32).toInt = 0 := (by decide)
      have k_1 : (1 : Int32).toInt = 1 := (by decide)
      have k_4 : (4 : Int32).toInt = 4 := (by decide)
      have k_8 : (8 : Int32).toInt = 8 := (by decide)
      exfalso
      have g_0 := hf0
      have g_1 := hf1
      have g_2 := hf2
      omega
  · have hP : va_P V.1 vwCl [(y 3, aI V 4 fy3), (y 9, aI V 900 fy9), (y 19, .inr (4, o4_rrrrrr (y 2) (y 20) (y 21) (y 22) (y 23) (y 24))), (y 20, aI V 2000 fy20), (y 21, aI V 6 fy21), (y 22, aI V 64 fy22), (y 0, .inr (9, o9_rirrrrrrrrnviii (y 1) py0_1 (y 2) (y 10) (y 19) (y 25) (y 26) (y 30) (y 31) (y 32) o11 py0_12 py0_13 py0_14)), (y 2, .inr (1, o1_iiiiiirrrrrrriiiii py2_0 py2_1 py2_2 py2_3 py2_4 py2_5 (y 3) (y 4) (y 5) (y 6) (y 7) (y 8) (y 9) py2_13 py2_14 py2_15 py2_16 py2_17)), (y 30, aT V 4 (va_up (va_up (va_up (va_up (fun _ => none) 0 (some (y 33))) 1 (some (y 35))) 2 (some (y 37))) 3 (some (y 39)))), (y 33, .inr (7, o7_rii (y 34) py33_1 py33_2)), (y 34, aJ V 40 fy34), (y 35, .inr (7, o7_rii (y 36) py35_1 py35_2)), (y 36, aJ V 40 fy36), (y 37, .inr (7, o7_rii (y 38) py37_1 py37_2)), (y 38, aJ V 40 fy38), (y 39, .inr (7, o7_rii (y 40) py39_1 py39_2)), (y 40, aJ V 40 fy40)] H := hP
    have hD := cpD hP hD
    have b_254 : iv 0 2147483647 a2 := iv_e2 (Int32.not_lt.mp c_35) (iv_c (0 : Int32) (a := 0) (b := 0) (by decide)) (iv_top a2) (by first | decide | omega)
    have b_255 : iv 0 3 a2 := iv_l1 (Int32.not_le.mp c_36) b_254 bpy2_1 (by first | decide | omega)
    have b_256 : iv 1 4 py2_1 := iv_l2 (Int32.not_le.mp c_36) b_254 bpy2_1 (by first | decide | omega)
    have b_257 : iv 0 0 a1 := iv_q c_37 (iv_c (0 : Int32) (a := 0) (b := 0) (by decide))
    have b_258 : iv 0 40 py33_1 := iv_e2 c_38 (iv_c (0 : Int32) (a := 0) (b := 0) (by decide)) bpy33_1 (by first | decide | omega)
    have b_259 : iv 1 40 py33_1 := iv_e2 (Int32.not_lt.mp c_39) (iv_c (1 : Int32) (a := 1) (b := 1) (by decide)) b_258 (by first | decide | omega)
    have b_260 : iv 1 8 py33_1 := iv_e1 c_40 b_259 (iv_c (8 : Int32) (a := 8) (b := 8) (by decide)) (by first | decide | omega)
    refine lv_istore (lv' := [(4, .int (-3)), (0, .ref (y 0)), (1, .int a1), (2, .int a2), (3, .int a3)]) hx hb dX9_fogs_7 hl (by decide) rfl (fun ls hl => ?_)
    refine lv_iload hx hb dX9_fogs_9 (lv_at hl 0 rfl) ?_
    refine lv_if_eq (tgt := 17) hx hb dX9_fogs_11 (by decide) (fun c_262 => absurd c_262 (by decide)) (fun _ => ?_)
    refine lv_iload hx hb dX9_fogs_14 (lv_at hl 0 rfl) ?_
    have z_0 := Int32.le_iff_toInt_le.mp (Int32.not_lt.mp c_33)
    have z_1 := Int32.lt_iff_toInt_lt.mp (Int32.not_le.mp c_34)
    have z_2 := Int32.le_iff_toInt_le.mp (Int32.not_lt.mp c_35)
    have z_3 := Int32.lt_iff_toInt_lt.mp (Int32.not_le.mp c_36)
    have z_4 := congrArg Int32.toInt c_37
    have z_5 := Int32.le_iff_toInt_le.mp c_38
    have z_6 := Int32.le_iff_toInt_le.mp (Int32.not_lt.mp c_39)
    have z_7 := Int32.le_iff_toInt_le.mp c_40
    have k_0 : (0 : Int32).toInt = 0 := (by decide)
    have k_1 : (1 : Int32).toInt = 1 := (by decide)
    have k_4 : (4 : Int32).toInt = 4 := (by decide)
    have k_8 : (8 : Int32).toInt = 8 := (by decide)
    exfalso
    have g_0 := hf0
    have g_1 := hf1
    have g_2 := hf2
    exact absurd (g_41.trans g_0) (by decide)
  · have hP : va_P V.1 vwCl [(y 3, aI V 4 fy3), (y 9, aI V 900 fy9), (y 19, .inr (4, o4_rrrrrr (y 2) (y 20) (y 21) (y 22) (y 23) (y 24))), (y 20, aI V 2000 fy20), (y 21, aI V 6 fy21), (y 22, aI V 64 fy22), (y 0, .inr (9, o9_rirrrrrrrrnviii (y 1) py0_1 (y 2) (y 10) (y 19) (y 25) (y 26) (y 30) (y 31) (y 32) o11 py0_12 py0_13 py0_14)), (y 2, .inr (1, o1_iiiiiirrrrrrriiiii py2_0 py2_1 py2_2 py2_3 py2_4 py2_5 (y 3) (y 4) (y 5) (y 6) (y 7) (y 8) (y 9) py2_13 py2_14 py2_15 py2_16 py2_17)), (y 30, aT V 4 (va_up (va_up (va_up (va_up (fun _ => none) 0 (some (y 33))) 1 (some (y 35))) 2 (some (y 37))) 3 (some (y 39)))), (y 33, .inr (7, o7_rii (y 34) py33_1 py33_2)), (y 34, aJ V 40 fy34), (y 35, .inr (7, o7_rii (y 36) py35_1 py35_2)), (y 36, aJ V 40 fy36), (y 37, .inr (7, o7_rii (y 38) py37_1 py37_2)), (y 38, aJ V 40 fy38), (y 39, .inr (7, o7_rii (y 40) py39_1 py39_2)), (y 40, aJ V 40 fy40)] H := hP
    have hD := cpD hP hD
    have b_263 : iv 0 2147483647 a2 := iv_e2 (Int32.not_lt.mp c_44) (iv_c (0 : Int32) (a := 0) (b := 0) (by decide)) (iv_top a2) (by first | decide | omega)
    have b_264 : iv 0 3 a2 := iv_l1 (Int32.not_le.mp c_45) b_263 bpy2_1 (by first | decide | omega)
    have b_265 : iv 1 4 py2_1 := iv_l2 (Int32.not_le.mp c_45) b_263 bpy2_1 (by first | decide | omega)
    have b_266 : iv 0 0 a1 := iv_q c_46 (iv_c (0 : Int32) (a := 0) (b := 0) (by decide))
    have b_267 : iv 0 40 py33_1 := iv_e2 c_47 (iv_c (0 : Int32) (a := 0) (b := 0) (by decide)) bpy33_1 (by first | decide | omega)
    have b_268 : iv 1 40 py33_1 := iv_e2 (Int32.not_lt.mp c_48) (iv_c (1 : Int32) (a := 1) (b := 1) (by decide)) b_267 (by first | decide | omega)
    have b_269 : iv 9 40 py33_1 := iv_l2 (Int32.not_le.mp c_49) (iv_c (8 : Int32) (a := 8) (b := 8) (by decide)) b_268 (by first | decide | omega)
    refine lv_istore (lv' := [(4, .int (-4)), (0, .ref (y 0)), (1, .int a1), (2, .int a2), (3, .int a3)]) hx hb dX9_fogs_7 hl (by decide) rfl (fun ls hl => ?_)
    refine lv_iload hx hb dX9_fogs_9 (lv_at hl 0 rfl) ?_
    refine lv_if_eq (tgt := 17) hx hb dX9_fogs_11 (by decide) (fun c_271 => absurd c_271 (by decide)) (fun _ => ?_)
    refine lv_iload hx hb dX9_fogs_14 (lv_at hl 0 rfl) ?_
    have z_0 := Int32.le_iff_toInt_le.mp (Int32.not_lt.mp c_42)
    have z_1 := Int32.lt_iff_toInt_lt.mp (Int32.not_le.mp c_43)
    have z_2 := Int32.le_iff_toInt_le.mp (Int32.not_lt.mp c_44)
    have z_3 := Int32.lt_iff_toInt_lt.mp (Int32.not_le.mp c_45)
    have z_4 := congrArg Int32.toInt c_46
    have z_5 := Int32.le_iff_toInt_le.mp c_47
    have z_6 := Int32.le_iff_toInt_le.mp (Int32.not_lt.mp c_48)
    have z_7 := Int32.lt_iff_toInt_lt.mp (Int32.not_le.mp c_49)
    have k_0 : (0 : Int32).toInt = 0 := (by decide)
    have k_1 : (1 : Int32).toInt = 1 := (by decide)
    have k_4 : (4 : Int32).toInt = 4 := (by decide)
    have k_8 : (8 : Int32).toInt = 8 := (by decide)
    exfalso
    have g_0 := hf0
    have g_1 := hf1
    have g_2 := hf2
    exact absurd (g_50.trans g_0) (by decide)
  · have hP : va_P V.1 vwCl [(y 3, aI V 4 fy3), (y 9, aI V 900 fy9), (y 19, .inr (4, o4_rrrrrr (y 2) (y 20) (y 21) (y 22) (y 23) (y 24))), (y 20, aI V 2000 fy20), (y 21, aI V 6 fy21), (y 22, aI V 64 fy22), (y 0, .inr (9, o9_rirrrrrrrrnviii (y 1) py0_1 (y 2) (y 10) (y 19) (y 25) (y 26) (y 30) (y 31) (y 32) o11 py0_12 py0_13 py0_14)), (y 2, .inr (1, o1_iiiiiirrrrrrriiiii py2_0 py2_1 py2_2 py2_3 py2_4 py2_5 (y 3) (y 4) (y 5) (y 6) (y 7) (y 8) (y 9) py2_13 py2_14 py2_15 py2_16 py2_17)), (y 30, aT V 4 (va_up (va_up (va_up (va_up (fun _ => none) 0 (some (y 33))) 1 (some (y 35))) 2 (some (y 37))) 3 (some (y 39)))), (y 33, .inr (7, o7_rii (y 34) py33_1 py33_2)), (y 34, aJ V 40 fy34), (y 35, .inr (7, o7_rii (y 36) py35_1 py35_2)), (y 36, aJ V 40 fy36), (y 37, .inr (7, o7_rii (y 38) py37_1 py37_2)), (y 38, aJ V 40 fy38), (y 39, .inr (7, o7_rii (y 40) py39_1 py39_2)), (y 40, aJ V 40 fy40)] H := hP
    have hD := cpD hP hD
    have b_272 : iv 0 2147483647 a2 := iv_e2 (Int32.not_lt.mp c_53) (iv_c (0 : Int32) (a := 0) (b := 0) (by decide)) (iv_top a2) (by first | decide | omega)
    have b_273 : iv 0 3 a2 := iv_l1 (Int32.not_le.mp c_54) b_272 bpy2_1 (by first | decide | omega)
    have b_274 : iv 1 4 py2_1 := iv_l2 (Int32.not_le.mp c_54) b_272 bpy2_1 (by first | decide | omega)
    have b_275 : iv 0 0 a1 := iv_q c_55 (iv_c (0 : Int32) (a := 0) (b := 0) (by decide))
    have b_276 : iv (-1) (-1) py33_1 := iv_l1 (Int32.not_le.mp c_56) bpy33_1 (iv_c (0 : Int32) (a := 0) (b := 0) (by decide)) (by first | decide | omega)
    refine lv_istore (lv' := [(4, .int (-6)), (0, .ref (y 0)), (1, .int a1), (2, .int a2), (3, .int a3)]) hx hb dX9_fogs_7 hl (by decide) rfl (fun ls hl => ?_)
    refine lv_iload hx hb dX9_fogs_9 (lv_at hl 0 rfl) ?_
    refine lv_if_eq (tgt := 17) hx hb dX9_fogs_11 (by decide) (fun c_278 => absurd c_278 (by decide)) (fun _ => ?_)
    refine lv_iload hx hb dX9_fogs_14 (lv_at hl 0 rfl) ?_
    have z_0 := Int32.le_iff_toInt_le.mp (Int32.not_lt.mp c_51)
    have z_1 := Int32.lt_iff_toInt_lt.mp (Int32.not_le.mp c_52)
    have z_2 := Int32.le_iff_toInt_le.mp (Int32.not_lt.mp c_53)
    have z_3 := Int32.lt_iff_toInt_lt.mp (Int32.not_le.mp c_54)
    have z_4 := congrArg Int32.toInt c_55
    have z_5 := Int32.lt_iff_toInt_lt.mp (Int32.not_le.mp c_56)
    have k_0 : (0 : Int32).toInt = 0 := (by decide)
    have k_4 : (4 : Int32).toInt = 4 := (by decide)
    exfalso
    have g_0 := hf0
    have g_1 := hf1
    have g_2 := hf2
    exact absurd (g_57.trans g_0) (by decide)
  · have hP : va_P V.1 vwCl [(y 3, aI V 4 fy3), (y 9, aI V 900 fy9), (y 19, .inr (4, o4_rrrrrr (y 2) (y 20) (y 21) (y 22) (y 23) (y 24))), (y 20, aI V 2000 fy20), (y 21, aI V 6 fy21), (y 22, aI V 64 fy22), (y 0, .inr (9, o9_rirrrrrrrrnviii (y 1) py0_1 (y 2) (y 10) (y 19) (y 25) (y 26) (y 30) (y 31) (y 32) o11 py0_12 py0_13 py0_14)), (y 2, .inr (1, o1_iiiiiirrrrrrriiiii py2_0 py2_1 py2_2 py2_3 py2_4 py2_5 (y 3) (y 4) (y 5) (y 6) (y 7) (y 8) (y 9) py2_13 py2_14 py2_15 py2_16 py2_17)), (y 30, aT V 4 (va_up (va_up (va_up (va_up (fun _ => none) 0 (some (y 33))) 1 (some (y 35))) 2 (some (y 37))) 3 (some (y 39)))), (y 33, .inr (7, o7_rii (y 34) py33_1 py33_2)), (y 34, aJ V 40 fy34), (y 35, .inr (7, o7_rii (y 36) py35_1 py35_2)), (y 36, aJ V 40 fy36), (y 37, .inr (7, o7_rii (y 38) py37_1 py37_2)), (y 38, aJ V 40 fy38), (y 39, .inr (7, o7_rii (y 40) py39_1 py39_2)), (y 40, aJ V 40 fy40)] H := hP
    have hD := cpD hP hD
    have b_279 : iv 0 2147483647 a2 := iv_e2 (Int32.not_lt.mp c_60) (iv_c (0 : Int32) (a := 0) (b := 0) (by decide)) (iv_top a2) (by first | decide | omega)
    have b_280 : iv 0 3 a2 := iv_l1 (Int32.not_le.mp c_61) b_279 bpy2_1 (by first | decide | omega)
    have b_281 : iv 1 4 py2_1 := iv_l2 (Int32.not_le.mp c_61) b_279 bpy2_1 (by first | decide | omega)
    have b_282 : iv 1 1 a1 := iv_q c_62 (iv_c (1 : Int32) (a := 1) (b := 1) (by decide))
    have b_283 : iv 0 40 py35_1 := iv_e2 c_63 (iv_c (0 : Int32) (a := 0) (b := 0) (by decide)) bpy35_1 (by first | decide | omega)
    have b_284 : iv 0 0 py35_1 := iv_l1 c_64 b_283 (iv_c (1 : Int32) (a := 1) (b := 1) (by decide)) (by first | decide | omega)
    refine lv_istore (lv' := [(4, .int (-4)), (0, .ref (y 0)), (1, .int a1), (2, .int a2), (3, .int a3)]) hx hb dX9_fogs_7 hl (by decide) rfl (fun ls hl => ?_)
    refine lv_iload hx hb dX9_fogs_9 (lv_at hl 0 rfl) ?_
    refine lv_if_eq (tgt := 17) hx hb dX9_fogs_11 (by decide) (fun c_286 => absurd c_286 (by decide)) (fun _ => ?_)
    refine lv_iload hx hb dX9_fogs_14 (lv_at hl 0 rfl) ?_
    have z_0 := Int32.le_iff_toInt_le.mp (Int32.not_lt.mp c_58)
    have z_1 := Int32.lt_iff_toInt_lt.mp (Int32.not_le.mp c_59)
    have z_2 := Int32.le_iff_toInt_le.mp (Int32.not_lt.mp c_60)
    have z_3 := Int32.lt_iff_toInt_lt.mp (Int32.not_le.mp c_61)
    have z_4 := congrArg Int32.toInt c_62
    have z_5 := Int32.le_iff_toInt_le.mp c_63
    have z_6 := Int32.lt_iff_toInt_lt.mp c_64
    have k_0 : (0 : Int32).toInt = 0 := (by decide)
    have k_1 : (1 : Int32).toInt = 1 := (by decide)
    have k_4 : (4 : Int32).toInt = 4 := (by decide)
    exfalso
    have g_0 := hf0
    have g_1 := hf1
    have g_2 := hf2
    exact absurd (g_65.trans g_0) (by decide)
  · have hP : va_P V.1 vwCl [(y 3, aI V 4 fy3), (y 9, aI V 900 fy9), (y 19, .inr (4, o4_rrrrrr (y 2) (y 20) (y 21) (y 22) (y 23) (y 24))), (y 20, aI V 2000 fy20), (y 21, aI V 6 fy21), (y 22, aI V 64 fy22), (y 0, .inr (9, o9_rirrrrrrrrnviii (y 1) py0_1 (y 2) (y 10) (y 19) (y 25) (y 26) (y 30) (y 31) (y 32) o11 py0_12 py0_13 py0_14)), (y 2, .inr (1, o1_iiiiiirrrrrrriiiii py2_0 py2_1 py2_2 py2_3 py2_4 py2_5 (y 3) (y 4) (y 5) (y 6) (y 7) (y 8) (y 9) py2_13 py2_14 py2_15 py2_16 py2_17)), (y 30, aT V 4 (va_up (va_up (va_up (va_up (fun _ => none) 0 (some (y 33))) 1 (some (y 35))) 2 (some (y 37))) 3 (some (y 39)))), (y 33, .inr (7, o7_rii (y 34) py33_1 py33_2)), (y 34, aJ V 40 fy34), (y 35, .inr (7, o7_rii (y 36) py35_1 py35_2)), (y 36, aJ V 40 fy36), (y 37, .inr (7, o7_rii (y 38) py37_1 py37_2)), (y 38, aJ V 40 fy38), (y 39, .inr (7, o7_rii (y 40) py39_1 py39_2)), (y 40, aJ V 40 fy40)] H := hP
    have hD := cpD hP hD
    have b_287 : iv 0 2147483647 a2 := iv_e2 (Int32.not_lt.mp c_68) (iv_c (0 : Int32) (a := 0) (b := 0) (by decide)) (iv_top a2) (by first | decide | omega)
    have b_288 : iv 0 3 a2 := iv_l1 (Int32.not_le.mp c_69) b_287 bpy2_1 (by first | decide | omega)
    have b_289 : iv 1 4 py2_1 := iv_l2 (Int32.not_le.mp c_69) b_287 bpy2_1 (by first | decide | omega)
    have b_290 : iv 1 1 a1 := iv_q c_70 (iv_c (1 : Int32) (a := 1) (b := 1) (by decide))
    have b_291 : iv 0 40 py35_1 := iv_e2 c_71 (iv_c (0 : Int32) (a := 0) (b := 0) (by decide)) bpy35_1 (by first | decide | omega)
    have b_292 : iv 1 40 py35_1 := iv_e2 (Int32.not_lt.mp c_72) (iv_c (1 : Int32) (a := 1) (b := 1) (by decide)) b_291 (by first | decide | omega)
    have b_293 : iv 1 8 py35_1 := iv_e1 c_73 b_292 (iv_c (8 : Int32) (a := 8) (b := 8) (by decide)) (by first | decide | omega)
    refine lv_istore (lv' := [(4, .int 0), (0, .ref (y 0)), (1, .int a1), (2, .int a2), (3, .int a3)]) hx hb dX9_fogs_7 hl (by decide) rfl (fun ls hl => ?_)
    refine lv_iload hx hb dX9_fogs_9 (lv_at hl 0 rfl) ?_
    refine lv_if_eq (tgt := 17) hx hb dX9_fogs_11 (by decide) (fun _ => ?_) (fun c_295 => absurd c_295 (by decide))
    refine lv_iload_n hx hb dX9_fogs_17 rfl (lv_at hl 4 rfl) ?_
    refine lv_if_ge (tgt := 24) hx hb dX9_fogs_18 (by decide) (fun c_296 => ?_) (fun c_296 => ?_)
    · have b_297 : iv 0 2147483647 a3 := iv_e2 c_296 (iv_c (0 : Int32) (a := 0) (b := 0) (by decide)) (iv_top a3) (by first | decide | omega)
      refine lv_iload_n hx hb dX9_fogs_24 rfl (lv_at hl 4 rfl) ?_
      refine lv_aload_n hx hb dX9_fogs_25 rfl (lv_at hl 1 rfl) ?_
      refine va_get (ci := 9) (v := .ref (y 30)) (C := RX9) (T := TX9) (N := 15) hx hb hg inX9 hown hK hP 6 rfl rfl 7 (by decide) (hg _ q_2_43) (fun _ h9 => h9) rfl dX9_fogs_26 ?_
      refine lv_iload_n hx hb dX9_fogs_29 rfl (lv_at hl 2 rfl) ?_
      have c_298 : a1 = 1 := by have q9 := b_290; unfold iv at q9; simp only [tI_eq, (by decide : (1 : Int32).toInt = 1)]; omega
      rcases c_298 with rfl
      · refine va_aldq hx hb hK hP 8 4 rfl rfl (vin (by decide +kernel)) dX9_fogs_30 ?_
        refine W.eq (g2 := F0 m 31 ls (.ref (y 35) :: .int a3 :: [])) rfl ?_
        refine va_get (ci := 7) (v := .int py35_1) (C := RX7) (T := TX7) (N := 3) hx hb hg inX7 hown hK hP 11 rfl rfl 1 (by decide) (hg _ q_2_2) (fun _ h9 => h9) rfl dX9_fogs_31 ?_
        refine lv_icmp_lt (tgt := 40) hx hb dX9_fogs_34 (by decide) (fun c_299 => ?_) (fun c_299 => ?_)
        · have b_300 : iv 0 7 a3 := iv_l1 c_299 b_297 b_293 (by first | decide | omega)
          refine lv_aload_n hx hb dX9_fogs_40 rfl (lv_at hl 1 rfl) ?_
          refine lv_aload_n hx hb dX9_fogs_41 rfl (lv_at hl 1 rfl) ?_
          refine va_get (ci := 9) (v := .ref (y 30)) (C := RX9) (T := TX9) (N := 15) hx hb hg inX9 hown hK hP 6 rfl rfl 7 (by decide) (hg _ q_2_43) (fun _ h9 => h9) rfl dX9_fogs_42 ?_
          refine lv_iload_n hx hb dX9_fogs_45 rfl (lv_at hl 2 rfl) ?_
          refine va_aldq hx hb hK hP 8 4 rfl rfl (vin (by decide +kernel)) dX9_fogs_46 ?_
          refine W.eq (g2 := F0 m 47 ls (.ref (y 35) :: .ref (y 0) :: [])) rfl ?_
          refine va_get (ci := 7) (v := .int py35_1) (C := RX7) (T := TX7) (N := 3) hx hb hg inX7 hown hK hP 11 rfl rfl 1 (by decide) (hg _ q_2_2) (fun _ h9 => h9) rfl dX9_fogs_47 ?_
          refine jnR (wr := [(y 30, aT V 4 (va_up (va_up (va_up (va_up (fun _ => none) 0 (some (y 33))) 1 (some (y 35))) 2 (some (y 37))) 3 (some (y 39)))), (y 33, .inr (7, o7_rii (y 34) py33_1 py33_2)), (y 34, aJ V 40 fy34), (y 35, .inr (7, o7_rii (y 36) py35_1 py35_2)), (y 36, aJ V 40 fy36), (y 37, .inr (7, o7_rii (y 38) py37_1 py37_2)), (y 38, aJ V 40 fy38), (y 39, .inr (7, o7_rii (y 40) py39_1 py39_2)), (y 40, aJ V 40 fy40)]) (rnV (rest := []) ⟨hx, hb, hml, hown, hg⟩ (k_X9_waysFromNow_1 l V y D9 py35_1 fy3 fy9 fy20 fy21 fy22 py0_1 o11 py0_12 py0_13 py0_14 py2_0 py2_1 py2_2 py2_3 py2_4 py2_5 py2_13 py2_14 py2_15 py2_16 py2_17 tfy20 bpy0_1 bpy0_12 bpy0_13 (iv_w b_289 (by first | decide | omega)) bpy2_2 bpy2_3 bpy2_4 bpy2_5 bpy2_13 bpy2_14 bpy2_15 bpy2_16 bpy2_17 hL9 hK9) mt_X9_waysFromNow q_4_52 ⟨Nat.le_of_ble_eq_true rfl, Nat.le_of_ble_eq_true rfl⟩ hK hP hD hS hA hE [0, 1, 2, 3, 4, 5, 6, 7] rfl rfl 6 rfl rfl rfl rfl hl.1 rfl (Nat.le_of_ble_eq_true rfl) dX9_fogs_50 ⟨Nat.le_of_ble_eq_true rfl, Nat.le_of_ble_eq_true rfl⟩) hP hD hS hA [0, 1, 2, 3, 4, 5, 6, 7] [8, 9, 10, 11, 12, 13, 14, 15, 16] rfl rfl rfl (by decide) (fun r_301 w H locs hw hP hD hS => ?_)
          refine W.widen (k := 10) (n := 46481) (Nat.le_of_ble_eq_true rfl) (Nat.le_of_ble_eq_true rfl) ?_
          obtain ⟨n, L, Yw, wa_302, wb_303, f_304, f_305, f_306, v_307, v_308, v_309, v_310, v_311, v_312, f_313, f_314, f_315, f_316, f_317, f_318, f_319, f_320, f_321, hn, hL, tf_304, bv_307, bv_308, bv_309, bv_310, bv_311, bv_312, tf_313, tf_316, tf_317, tf_318, tf_319, eW, g_322, g_323, g_324, g_325, g_326, kn_327, rfl⟩ := hw
          have hP : va_P V.1 vwCl [(y 30, aT V 4 (va_up (va_up (va_up (va_up (fun _ => none) 0 (some (y 33))) 1 (some (y 35))) 2 (some (y 37))) 3 (some (y 39)))), (y 33, .inr (7, o7_rii (y 34) py33_1 py33_2)), (y 34, aJ V 40 fy34), (y 35, .inr (7, o7_rii (y 36) py35_1 py35_2)), (y 36, aJ V 40 fy36), (y 37, .inr (7, o7_rii (y 38) py37_1 py37_2)), (y 38, aJ V 40 fy38), (y 39, .inr (7, o7_rii (y 40) py39_1 py39_2)), (y 40, aJ V 40 fy40), (y 3, aI V 4 fy3), (y 9, aI V 900 fy9), (y 19, .inr (4, o4_rrrrrr (y 2) (y 20) (y 21) (y 22) (y 23) (y 24))), (y 20, aI V 2000 f_304), (y 21, aI V 6 f_305), (y 22, aI V 64 f_306), (y 0, .inr (9, o9_rirrrrrrrrrviii (y 1) py0_1 (y 2) (y 10) (y 19) (y 25) (y 26) (y 30) (y 31) (y 32) (Yw 0) o11 py0_12 py0_13 py0_14)), (y 2, .inr (1, o1_iiiiiirrrrrrriiiii py2_0 py2_1 py2_2 py2_3 py2_4 py2_5 (y 3) (y 4) (y 5) (y 6) (y 7) (y 8) (y 9) py2_13 py2_14 py2_15 py2_16 py2_17)), (Yw 0, .inr (8, o8_iirrriirrrrrrriii v_307 (nI n) (Yw 1) (Yw 2) wa_302 v_308 v_309 (y 19) (Yw 4) (Yw 5) (Yw 6) (Yw 7) (Yw 8) wb_303 v_310 v_311 v_312)), (Yw 1, aI V n f_313), (Yw 2, aI V n f_314), (wa_302, aI V n f_315), (Yw 4, aI V L f_316), (Yw 5, aI V n f_317), (Yw 6, aI V (n * 4) f_318), (Yw 7, aI V n f_319), (Yw 8, aI V 4 f_320), (wb_303, aI V n f_321)] H := hP
          have hD := cpD hP hD
          rw [← eW]
          refine lv_astore (lv' := [(5, .ref (Yw 0)), (4, .int 0), (0, .ref (y 0)), (1, .int 1), (2, .int a2), (3, .int a3)]) hx hb dX9_fogs_53 hl (by decide) rfl (fun ls hl => ?_)
          refine lv_aload hx hb dX9_fogs_55 (lv_at hl 0 rfl) ?_
          refine lv_aload_n hx hb dX9_fogs_57 rfl (lv_at hl 2 rfl) ?_
          refine va_get (ci := 9) (v := .ref (y 30)) (C := RX9) (T := TX9) (N := 15) hx hb hg inX9 hown hK hP 15 rfl rfl 7 (by decide) (hg _ q_2_43) (fun _ h9 => h9) rfl dX9_fogs_58 ?_
          refine lv_iload_n hx hb dX9_fogs_61 rfl (lv_at hl 3 rfl) ?_
          refine va_aldq hx hb hK hP 0 4 rfl rfl (vin (by decide +kernel)) dX9_fogs_62 ?_
          refine W.eq (g2 := F0 m 63 ls (.ref (y 35) :: .ref (Yw 0) :: [])) rfl ?_
          refine lv_iload_n hx hb dX9_fogs_63 rfl (lv_at hl 4 rfl) ?_
          refine jnV (wr := [(y 30, aT V 4 (va_up (va_up (va_up (va_up (fun _ => none) 0 (some (y 33))) 1 (some (y 35))) 2 (some (y 37))) 3 (some (y 39)))), (y 33, .inr (7, o7_rii (y 34) py33_1 py33_2)), (y 34, aJ V 40 fy34), (y 37, .inr (7, o7_rii (y 38) py37_1 py37_2)), (y 38, aJ V 40 fy38), (y 39, .inr (7, o7_rii (y 40) py39_1 py39_2)), (y 40, aJ V 40 fy40), (y 3, aI V 4 fy3), (y 9, aI V 900 fy9), (y 19, .inr (4, o4_rrrrrr (y 2) (y 20) (y 21) (y 22) (y 23) (y 24))), (y 20, aI V 2000 f_304), (y 21, aI V 6 f_305), (y 22, aI V 64 f_306), (y 0, .inr (9, o9_rirrrrrrrrrviii (y 1) py0_1 (y 2) (y 10) (y 19) (y 25) (y 26) (y 30) (y 31) (y 32) (Yw 0) o11 py0_12 py0_13 py0_14)), (y 2, .inr (1, o1_iiiiiirrrrrrriiiii py2_0 py2_1 py2_2 py2_3 py2_4 py2_5 (y 3) (y 4) (y 5) (y 6) (y 7) (y 8) (y 9) py2_13 py2_14 py2_15 py2_16 py2_17)), (Yw 4, aI V L f_316), (Yw 5, aI V n f_317), (Yw 7, aI V n f_319), (Yw 8, aI V 4 f_320), (wb_303, aI V n f_321)]) (rnV (rest := []) ⟨hx, hb, hml, hown, hg⟩ (k_X8_traceTold_1 l V n L Yw y a2 f_315 py35_1 py35_2 fy36 v_307 wa_302 v_308 v_309 wb_303 v_310 v_311 v_312 f_313 f_314 f_318 hn hL b_288 (iv_w b_293 (by first | decide | omega)) bv_307 bv_308 bv_309 bv_310 bv_311 bv_312 tf_313 tf_318) mt_X8_traceTold q_5_39 ⟨Nat.le_of_ble_eq_true rfl, Nat.le_of_ble_eq_true rfl⟩ hK hP hD hS hA hE [20, 3, 4, 17, 18, 19, 23] rfl rfl 17 rfl rfl rfl rfl hl.1 rfl (Nat.le_of_ble_eq_true rfl) dX9_fogs_64 ⟨Nat.le_of_ble_eq_true rfl, Nat.le_of_ble_eq_true rfl⟩) hP hD hS hA [20, 3, 4, 17, 18, 19, 23] [0, 1, 2, 5, 6, 7, 8, 9, 10, 11, 12, 13, 14, 15, 16, 21, 22, 24, 25, 26] rfl rfl rfl (by decide) (fun  w H locs hw hP hD hS => ?_)
          obtain ⟨f_328, rfl⟩ := hw
          have hP : va_P V.1 vwCl [(y 30, aT V 4 (va_up (va_up (va_up (va_up (fun _ => none) 0 (some (y 33))) 1 (some (y 35))) 2 (some (y 37))) 3 (some (y 39)))), (y 33, .inr (7, o7_rii (y 34) py33_1 py33_2)), (y 34, aJ V 40 fy34), (y 37, .inr (7, o7_rii (y 38) py37_1 py37_2)), (y 38, aJ V 40 fy38), (y 39, .inr (7, o7_rii (y 40) py39_1 py39_2)), (y 40, aJ V 40 fy40), (y 3, aI V 4 fy3), (y 9, aI V 900 fy9), (y 19, .inr (4, o4_rrrrrr (y 2) (y 20) (y 21) (y 22) (y 23) (y 24))), (y 20, aI V 2000 f_304), (y 21, aI V 6 f_305), (y 22, aI V 64 f_306), (y 0, .inr (9, o9_rirrrrrrrrrviii (y 1) py0_1 (y 2) (y 10) (y 19) (y 25) (y 26) (y 30) (y 31) (y 32) (Yw 0) o11 py0_12 py0_13 py0_14)), (y 2, .inr (1, o1_iiiiiirrrrrrriiiii py2_0 py2_1 py2_2 py2_3 py2_4 py2_5 (y 3) (y 4) (y 5) (y 6) (y 7) (y 8) (y 9) py2_13 py2_14 py2_15 py2_16 py2_17)), (Yw 4, aI V L f_316), (Yw 5, aI V n f_317), (Yw 7, aI V n f_319), (Yw 8, aI V 4 f_320), (wb_303, aI V n f_321), (wa_302, aI V n f_328), (y 35, .inr (7, o7_rii (y 36) py35_1 py35_2)), (y 36, aJ V 40 fy36), (Yw 0, .inr (8, o8_iirrriirrrrrrriii v_307 (nI n) (Yw 1) (Yw 2) wa_302 v_308 v_309 (y 19) (Yw 4) (Yw 5) (Yw 6) (Yw 7) (Yw 8) wb_303 v_310 v_311 v_312)), (Yw 1, aI V n f_313), (Yw 2, aI V n f_314), (Yw 6, aI V (n * 4) f_318)] H := hP
          have hD := cpD hP hD
          refine lv_aload hx hb dX9_fogs_67 (lv_at hl 0 rfl) ?_
          refine lv_iload_n hx hb dX9_fogs_69 rfl (lv_at hl 5 rfl) ?_
          refine jnI (wr := [(y 30, aT V 4 (va_up (va_up (va_up (va_up (fun _ => none) 0 (some (y 33))) 1 (some (y 35))) 2 (some (y 37))) 3 (some (y 39)))), (y 33, .inr (7, o7_rii (y 34) py33_1 py33_2)), (y 34, aJ V 40 fy34), (y 37, .inr (7, o7_rii (y 38) py37_1 py37_2)), (y 38, aJ V 40 fy38), (y 39, .inr (7, o7_rii (y 40) py39_1 py39_2)), (y 40, aJ V 40 fy40), (y 3, aI V 4 fy3), (y 9, aI V 900 fy9), (y 19, .inr (4, o4_rrrrrr (y 2) (y 20) (y 21) (y 22) (y 23) (y 24))), (y 20, aI V 2000 f_304), (y 21, aI V 6 f_305), (y 22, aI V 64 f_306), (y 0, .inr (9, o9_rirrrrrrrrrviii (y 1) py0_1 (y 2) (y 10) (y 19) (y 25) (y 26) (y 30) (y 31) (y 32) (Yw 0) o11 py0_12 py0_13 py0_14)), (y 2, .inr (1, o1_iiiiiirrrrrrriiiii py2_0 py2_1 py2_2 py2_3 py2_4 py2_5 (y 3) (y 4) (y 5) (y 6) (y 7) (y 8) (y 9) py2_13 py2_14 py2_15 py2_16 py2_17)), (Yw 4, aI V L f_316), (Yw 5, aI V n f_317), (Yw 7, aI V n f_319), (Yw 8, aI V 4 f_320), (wb_303, aI V n f_321), (y 35, .inr (7, o7_rii (y 36) py35_1 py35_2)), (y 36, aJ V 40 fy36), (Yw 1, aI V n f_313)]) (rnV (rest := []) ⟨hx, hb, hml, hown, hg⟩ (k_X8_allTraced_0 l V n Yw y a3 v_307 wa_302 v_308 v_309 wb_303 v_310 v_311 v_312 f_314 f_328 f_318 hn (iv_w b_300 (by first | decide | omega)) bv_307 bv_308 bv_309 bv_310 bv_311 bv_312 tf_318) mt_X8_allTraced q_5_59 ⟨Nat.le_of_ble_eq_true rfl, Nat.le_of_ble_eq_true rfl⟩ hK hP hD hS hA hE [23, 25, 20, 26] rfl rfl 23 rfl rfl rfl rfl hl.1 rfl (Nat.le_of_ble_eq_true rfl) dX9_fogs_70 ⟨Nat.le_of_ble_eq_true rfl, Nat.le_of_ble_eq_true rfl⟩) hP hD hS hA [23, 25, 20, 26] [0, 1, 2, 3, 4, 5, 6, 7, 8, 9, 10, 11, 12, 13, 14, 15, 16, 17, 18, 19, 21, 22, 24] rfl rfl rfl (by decide) (fun r_329 w H locs hw hP hD hS => ?_)
          subst hw
          have hP : va_P V.1 vwCl [(y 30, aT V 4 (va_up (va_up (va_up (va_up (fun _ => none) 0 (some (y 33))) 1 (some (y 35))) 2 (some (y 37))) 3 (some (y 39)))), (y 33, .inr (7, o7_rii (y 34) py33_1 py33_2)), (y 34, aJ V 40 fy34), (y 37, .inr (7, o7_rii (y 38) py37_1 py37_2)), (y 38, aJ V 40 fy38), (y 39, .inr (7, o7_rii (y 40) py39_1 py39_2)), (y 40, aJ V 40 fy40), (y 3, aI V 4 fy3), (y 9, aI V 900 fy9), (y 19, .inr (4, o4_rrrrrr (y 2) (y 20) (y 21) (y 22) (y 23) (y 24))), (y 20, aI V 2000 f_304), (y 21, aI V 6 f_305), (y 22, aI V 64 f_306), (y 0, .inr (9, o9_rirrrrrrrrrviii (y 1) py0_1 (y 2) (y 10) (y 19) (y 25) (y 26) (y 30) (y 31) (y 32) (Yw 0) o11 py0_12 py0_13 py0_14)), (y 2, .inr (1, o1_iiiiiirrrrrrriiiii py2_0 py2_1 py2_2 py2_3 py2_4 py2_5 (y 3) (y 4) (y 5) (y 6) (y 7) (y 8) (y 9) py2_13 py2_14 py2_15 py2_16 py2_17)), (Yw 4, aI V L f_316), (Yw 5, aI V n f_317), (Yw 7, aI V n f_319), (Yw 8, aI V 4 f_320), (wb_303, aI V n f_321), (y 35, .inr (7, o7_rii (y 36) py35_1 py35_2)), (y 36, aJ V 40 fy36), (Yw 1, aI V n f_313), (Yw 0, .inr (8, o8_iirrriirrrrrrriii v_307 (nI n) (Yw 1) (Yw 2) wa_302 v_308 v_309 (y 19) (Yw 4) (Yw 5) (Yw 6) (Yw 7) (Yw 8) wb_303 v_310 v_311 v_312)), (Yw 2, aI V n f_314), (wa_302, aI V n f_328), (Yw 6, aI V (n * 4) f_318)] H := hP
          have hD := cpD hP hD
          have hP := subP (ws' := [(y 0, .inr (9, o9_rirrrrrrrrrviii (y 1) py0_1 (y 2) (y 10) (y 19) (y 25) (y 26) (y 30) (y 31) (y 32) (Yw 0) o11 py0_12 py0_13 py0_14)), (y 2, .inr (1, o1_iiiiiirrrrrrriiiii py2_0 py2_1 py2_2 py2_3 py2_4 py2_5 (y 3) (y 4) (y 5) (y 6) (y 7) (y 8) (y 9) py2_13 py2_14 py2_15 py2_16 py2_17)), (y 3, aI V 4 fy3), (y 9, aI V 900 fy9), (y 19, .inr (4, o4_rrrrrr (y 2) (y 20) (y 21) (y 22) (y 23) (y 24))), (y 20, aI V 2000 f_304), (y 21, aI V 6 f_305), (y 22, aI V 64 f_306), (y 30, aT V 4 (va_up (va_up (va_up (va_up (fun _ => none) 0 (some (y 33))) 1 (some (y 35))) 2 (some (y 37))) 3 (some (y 39)))), (y 33, .inr (7, o7_rii (y 34) py33_1 py33_2)), (y 34, aJ V 40 fy34), (y 35, .inr (7, o7_rii (y 36) py35_1 py35_2)), (y 36, aJ V 40 fy36), (y 37, .inr (7, o7_rii (y 38) py37_1 py37_2)), (y 38, aJ V 40 fy38), (y 39, .inr (7, o7_rii (y 40) py39_1 py39_2)), (y 40, aJ V 40 fy40), (Yw 4, aI V L f_316), (Yw 5, aI V n f_317), (Yw 7, aI V n f_319), (Yw 8, aI V 4 f_320), (wb_303, aI V n f_321), (Yw 1, aI V n f_313), (Yw 0, .inr (8, o8_iirrriirrrrrrriii v_307 (nI n) (Yw 1) (Yw 2) wa_302 v_308 v_309 (y 19) (Yw 4) (Yw 5) (Yw 6) (Yw 7) (Yw 8) wb_303 v_310 v_311 v_312)), (Yw 2, aI V n f_314), (wa_302, aI V n f_328), (Yw 6, aI V (n * 4) f_318)]) hP [13, 14, 7, 8, 9, 10, 11, 12, 0, 1, 2, 20, 21, 3, 4, 5, 6, 15, 16, 17, 18, 19, 22, 23, 24, 25, 26] rfl
          have hD := subD hP hD [13, 14, 7, 8, 9, 10, 11, 12, 0, 1, 2, 20, 21, 3, 4, 5, 6, 15, 16, 17, 18, 19, 22, 23, 24, 25, 26] rfl rfl
          exact fiI hx hb hr hlk hK (subP (ws' := [(y 0, .inr (9, o9_rirrrrrrrrrviii (y 1) py0_1 (y 2) (y 10) (y 19) (y 25) (y 26) (y 30) (y 31) (y 32) (Yw 0) o11 py0_12 py0_13 py0_14)), (y 2, .inr (1, o1_iiiiiirrrrrrriiiii py2_0 py2_1 py2_2 py2_3 py2_4 py2_5 (y 3) (y 4) (y 5) (y 6) (y 7) (y 8) (y 9) py2_13 py2_14 py2_15 py2_16 py2_17)), (y 3, aI V 4 fy3), (y 9, aI V 900 fy9), (y 19, .inr (4, o4_rrrrrr (y 2) (y 20) (y 21) (y 22) (y 23) (y 24))), (y 20, aI V 2000 f_304), (y 21, aI V 6 f_305), (y 22, aI V 64 f_306), (y 30, aT V 4 (va_up (va_up (va_up (va_up (fun _ => none) 0 (some (y 33))) 1 (some (y 35))) 2 (some (y 37))) 3 (some (y 39)))), (y 33, .inr (7, o7_rii (y 34) py33_1 py33_2)), (y 34, aJ V 40 fy34), (y 35, .inr (7, o7_rii (y 36) py35_1 py35_2)), (y 36, aJ V 40 fy36), (y 37, .inr (7, o7_rii (y 38) py37_1 py37_2)), (y 38, aJ V 40 fy38), (y 39, .inr (7, o7_rii (y 40) py39_1 py39_2)), (y 40, aJ V 40 fy40), (Yw 0, .inr (8, o8_iirrriirrrrrrriii v_307 (nI n) (Yw 1) (Yw 2) wa_302 v_308 v_309 (y 19) (Yw 4) (Yw 5) (Yw 6) (Yw 7) (Yw 8) wb_303 v_310 v_311 v_312)), (Yw 1, aI V n f_313), (Yw 2, aI V n f_314), (wa_302, aI V n f_328), (Yw 4, aI V L f_316), (Yw 5, aI V n f_317), (Yw 6, aI V (n * 4) f_318), (Yw 7, aI V n f_319), (Yw 8, aI V 4 f_320), (wb_303, aI V n f_321)]) hP [0, 1, 2, 3, 4, 5, 6, 7, 8, 9, 10, 11, 12, 13, 14, 15, 16, 23, 22, 24, 25, 17, 18, 26, 19, 20, 21] rfl) (hD.sub [0, 1, 2, 3, 4, 5, 6, 7, 8, 9, 10, 11, 12, 13, 14, 15, 16, 23, 22, 24, 25, 17, 18, 26, 19, 20, 21] rfl rfl) hS dX9_fogs_73 (Nat.le_of_ble_eq_true rfl) (Nat.le_of_ble_eq_true rfl) (⟨n, L, Yw, wa_302, wb_303, f_304, f_305, f_306, v_307, v_308, v_309, v_310, v_311, v_312, f_313, f_314, f_328, f_316, f_317, f_318, f_319, f_320, f_321, hn, hL, tf_304, bv_307, bv_308, bv_309, bv_310, bv_311, bv_312, tf_313, tf_316, tf_317, tf_318, tf_319, g_322, g_323, g_324, g_326, kn_327, rfl⟩)
        · have b_330 : iv 1 2147483647 a3 := iv_e2 (Int32.not_lt.mp c_299) b_293 b_297 (by first | decide | omega)
          refine lv_bipush (v := (-7)) hx hb dX9_fogs_37 (by decide) ?_
          have z_0 := Int32.le_iff_toInt_le.mp (Int32.not_lt.mp c_66)
          have z_1 := Int32.lt_iff_toInt_lt.mp (Int32.not_le.mp c_67)
          have z_2 := Int32.le_iff_toInt_le.mp (Int32.not_lt.mp c_68)
          have z_3 := Int32.lt_iff_toInt_lt.mp (Int32.not_le.mp c_69)
          have z_4 := congrArg Int32.toInt c_70
          have z_5 := Int32.le_iff_toInt_le.mp c_71
          have z_6 := Int32.le_iff_toInt_le.mp (Int32.not_lt.mp c_72)
          have z_7 := Int32.le_iff_toInt_le.mp c_73
          have z_8 := Int32.le_iff_toInt_le.mp c_296
          have z_9 := Int32.le_iff_toInt_le.mp (Int32.not_lt.mp c_299)
          have k_0 : (0 : Int32).toInt = 0 := (by decide)
          have k_1 : (1 : Int32).toInt = 1 := (by decide)
          have k_4 : (4 : Int32).toInt = 4 := (by decide)
          have k_8 : (8 : Int32).toInt = 8 := (by decide)
          exfalso
          have g_0 := hf0
          have g_1 := hf1
          have g_2 := hf2
          rw [cntF_1] at g_2
          omega
    · have b_331 : iv (-2147483648) (-1) a3 := iv_l1 (Int32.not_le.mp c_296) (iv_top a3) (iv_c (0 : Int32) (a := 0) (b := 0) (by decide)) (by first | decide | omega)
      refine lv_bipush (v := (-3)) hx hb dX9_fogs_21 (by decide) ?_
      have z_0 := Int32.le_iff_toInt_le.mp (Int32.not_lt.mp c_66)
      have z_1 := Int32.lt_iff_toInt_lt.mp (Int32.not_le.mp c_67)
      have z_2 := Int32.le_iff_toInt_le.mp (Int32.not_lt.mp c_68)
      have z_3 := Int32.lt_iff_toInt_lt.mp (Int32.not_le.mp c_69)
      have z_4 := congrArg Int32.toInt c_70
      have z_5 := Int32.le_iff_toInt_le.mp c_71
      have z_6 := Int32.le_iff_toInt_le.mp (Int32.not_lt.mp c_72)
      have z_7 := Int32.le_iff_toInt_le.mp c_73
      have z_8 := Int32.lt_iff_toInt_lt.mp (Int32.not_le.mp c_296)
      have k_0 : (0 : Int32).toInt = 0 := (by decide)
      have k_1 : (1 : Int32).toInt = 1 := (by decide)
      have k_4 : (4 : Int32).toInt = 4 := (by decide)
      have k_8 : (8 : Int32).toInt = 8 := (by decide)
      exfalso
      have g_0 := hf0
      have g_1 := hf1
      have g_2 := hf2
      omega
  · have hP : va_P V.1 vwCl [(y 3, aI V 4 fy3), (y 9, aI V 900 fy9), (y 19, .inr (4, o4_rrrrrr (y 2) (y 20) (y 21) (y 22) (y 23) (y 24))), (y 20, aI V 2000 fy20), (y 21, aI V 6 fy21), (y 22, aI V 64 fy22), (y 0, .inr (9, o9_rirrrrrrrrnviii (y 1) py0_1 (y 2) (y 10) (y 19) (y 25) (y 26) (y 30) (y 31) (y 32) o11 py0_12 py0_13 py0_14)), (y 2, .inr (1, o1_iiiiiirrrrrrriiiii py2_0 py2_1 py2_2 py2_3 py2_4 py2_5 (y 3) (y 4) (y 5) (y 6) (y 7) (y 8) (y 9) py2_13 py2_14 py2_15 py2_16 py2_17)), (y 30, aT V 4 (va_up (va_up (va_up (va_up (fun _ => none) 0 (some (y 33))) 1 (some (y 35))) 2 (some (y 37))) 3 (some (y 39)))), (y 33, .inr (7, o7_rii (y 34) py33_1 py33_2)), (y 34, aJ V 40 fy34), (y 35, .inr (7, o7_rii (y 36) py35_1 py35_2)), (y 36, aJ V 40 fy36), (y 37, .inr (7, o7_rii (y 38) py37_1 py37_2)), (y 38, aJ V 40 fy38), (y 39, .inr (7, o7_rii (y 40) py39_1 py39_2)), (y 40, aJ V 40 fy40)] H := hP
    have hD := cpD hP hD
    have b_332 : iv 0 2147483647 a2 := iv_e2 (Int32.not_lt.mp c_77) (iv_c (0 : Int32) (a := 0) (b := 0) (by decide)) (iv_top a2) (by first | decide | omega)
    have b_333 : iv 0 3 a2 := iv_l1 (Int32.not_le.mp c_78) b_332 bpy2_1 (by first | decide | omega)
    have b_334 : iv 1 4 py2_1 := iv_l2 (Int32.not_le.mp c_78) b_332 bpy2_1 (by first | decide | omega)
    have b_335 : iv 1 1 a1 := iv_q c_79 (iv_c (1 : Int32) (a := 1) (b := 1) (by decide))
    have b_336 : iv 0 40 py35_1 := iv_e2 c_80 (iv_c (0 : Int32) (a := 0) (b := 0) (by decide)) bpy35_1 (by first | decide | omega)
    have b_337 : iv 1 40 py35_1 := iv_e2 (Int32.not_lt.mp c_81) (iv_c (1 : Int32) (a := 1) (b := 1) (by decide)) b_336 (by first | decide | omega)
    have b_338 : iv 1 8 py35_1 := iv_e1 c_82 b_337 (iv_c (8 : Int32) (a := 8) (b := 8) (by decide)) (by first | decide | omega)
    refine lv_istore (lv' := [(4, .int (-3)), (0, .ref (y 0)), (1, .int a1), (2, .int a2), (3, .int a3)]) hx hb dX9_fogs_7 hl (by decide) rfl (fun ls hl => ?_)
    refine lv_iload hx hb dX9_fogs_9 (lv_at hl 0 rfl) ?_
    refine lv_if_eq (tgt := 17) hx hb dX9_fogs_11 (by decide) (fun c_340 => absurd c_340 (by decide)) (fun _ => ?_)
    refine lv_iload hx hb dX9_fogs_14 (lv_at hl 0 rfl) ?_
    have z_0 := Int32.le_iff_toInt_le.mp (Int32.not_lt.mp c_75)
    have z_1 := Int32.lt_iff_toInt_lt.mp (Int32.not_le.mp c_76)
    have z_2 := Int32.le_iff_toInt_le.mp (Int32.not_lt.mp c_77)
    have z_3 := Int32.lt_iff_toInt_lt.mp (Int32.not_le.mp c_78)
    have z_4 := congrArg Int32.toInt c_79
    have z_5 := Int32.le_iff_toInt_le.mp c_80
    have z_6 := Int32.le_iff_toInt_le.mp (Int32.not_lt.mp c_81)
    have z_7 := Int32.le_iff_toInt_le.mp c_82
    have k_0 : (0 : Int32).toInt = 0 := (by decide)
    have k_1 : (1 : Int32).toInt = 1 := (by decide)
    have k_4 : (4 : Int32).toInt = 4 := (by decide)
    have k_8 : (8 : Int32).toInt = 8 := (by decide)
    exfalso
    have g_0 := hf0
    have g_1 := hf1
    have g_2 := hf2
    exact absurd (g_83.trans g_0) (by decide)
  · have hP : va_P V.1 vwCl [(y 3, aI V 4 fy3), (y 9, aI V 900 fy9), (y 19, .inr (4, o4_rrrrrr (y 2) (y 20) (y 21) (y 22) (y 23) (y 24))), (y 20, aI V 2000 fy20), (y 21, aI V 6 fy21), (y 22, aI V 64 fy22), (y 0, .inr (9, o9_rirrrrrrrrnviii (y 1) py0_1 (y 2) (y 10) (y 19) (y 25) (y 26) (y 30) (y 31) (y 32) o11 py0_12 py0_13 py0_14)), (y 2, .inr (1, o1_iiiiiirrrrrrriiiii py2_0 py2_1 py2_2 py2_3 py2_4 py2_5 (y 3) (y 4) (y 5) (y 6) (y 7) (y 8) (y 9) py2_13 py2_14 py2_15 py2_16 py2_17)), (y 30, aT V 4 (va_up (va_up (va_up (va_up (fun _ => none) 0 (some (y 33))) 1 (some (y 35))) 2 (some (y 37))) 3 (some (y 39)))), (y 33, .inr (7, o7_rii (y 34) py33_1 py33_2)), (y 34, aJ V 40 fy34), (y 35, .inr (7, o7_rii (y 36) py35_1 py35_2)), (y 36, aJ V 40 fy36), (y 37, .inr (7, o7_rii (y 38) py37_1 py37_2)), (y 38, aJ V 40 fy38), (y 39, .inr (7, o7_rii (y 40) py39_1 py39_2)), (y 40, aJ V 40 fy40)] H := hP
    have hD := cpD hP hD
    have b_341 : iv 0 2147483647 a2 := iv_e2 (Int32.not_lt.mp c_86) (iv_c (0 : Int32) (a := 0) (b := 0) (by decide)) (iv_top a2) (by first | decide | omega)
    have b_342 : iv 0 3 a2 := iv_l1 (Int32.not_le.mp c_87) b_341 bpy2_1 (by first | decide | omega)
    have b_343 : iv 1 4 py2_1 := iv_l2 (Int32.not_le.mp c_87) b_341 bpy2_1 (by first | decide | omega)
    have b_344 : iv 1 1 a1 := iv_q c_88 (iv_c (1 : Int32) (a := 1) (b := 1) (by decide))
    have b_345 : iv 0 40 py35_1 := iv_e2 c_89 (iv_c (0 : Int32) (a := 0) (b := 0) (by decide)) bpy35_1 (by first | decide | omega)
    have b_346 : iv 1 40 py35_1 := iv_e2 (Int32.not_lt.mp c_90) (iv_c (1 : Int32) (a := 1) (b := 1) (by decide)) b_345 (by first | decide | omega)
    have b_347 : iv 9 40 py35_1 := iv_l2 (Int32.not_le.mp c_91) (iv_c (8 : Int32) (a := 8) (b := 8) (by decide)) b_346 (by first | decide | omega)
    refine lv_istore (lv' := [(4, .int (-4)), (0, .ref (y 0)), (1, .int a1), (2, .int a2), (3, .int a3)]) hx hb dX9_fogs_7 hl (by decide) rfl (fun ls hl => ?_)
    refine lv_iload hx hb dX9_fogs_9 (lv_at hl 0 rfl) ?_
    refine lv_if_eq (tgt := 17) hx hb dX9_fogs_11 (by decide) (fun c_349 => absurd c_349 (by decide)) (fun _ => ?_)
    refine lv_iload hx hb dX9_fogs_14 (lv_at hl 0 rfl) ?_
    have z_0 := Int32.le_iff_toInt_le.mp (Int32.not_lt.mp c_84)
    have z_1 := Int32.lt_iff_toInt_lt.mp (Int32.not_le.mp c_85)
    have z_2 := Int32.le_iff_toInt_le.mp (Int32.not_lt.mp c_86)
    have z_3 := Int32.lt_iff_toInt_lt.mp (Int32.not_le.mp c_87)
    have z_4 := congrArg Int32.toInt c_88
    have z_5 := Int32.le_iff_toInt_le.mp c_89
    have z_6 := Int32.le_iff_toInt_le.mp (Int32.not_lt.mp c_90)
    have z_7 := Int32.lt_iff_toInt_lt.mp (Int32.not_le.mp c_91)
    have k_0 : (0 : Int32).toInt = 0 := (by decide)
    have k_1 : (1 : Int32).toInt = 1 := (by decide)
    have k_4 : (4 : Int32).toInt = 4 := (by decide)
    have k_8 : (8 : Int32).toInt = 8 := (by decide)
    exfalso
    have g_0 := hf0
    have g_1 := hf1
    have g_2 := hf2
    exact absurd (g_92.trans g_0) (by decide)
  · have hP : va_P V.1 vwCl [(y 3, aI V 4 fy3), (y 9, aI V 900 fy9), (y 19, .inr (4, o4_rrrrrr (y 2) (y 20) (y 21) (y 22) (y 23) (y 24))), (y 20, aI V 2000 fy20), (y 21, aI V 6 fy21), (y 22, aI V 64 fy22), (y 0, .inr (9, o9_rirrrrrrrrnviii (y 1) py0_1 (y 2) (y 10) (y 19) (y 25) (y 26) (y 30) (y 31) (y 32) o11 py0_12 py0_13 py0_14)), (y 2, .inr (1, o1_iiiiiirrrrrrriiiii py2_0 py2_1 py2_2 py2_3 py2_4 py2_5 (y 3) (y 4) (y 5) (y 6) (y 7) (y 8) (y 9) py2_13 py2_14 py2_15 py2_16 py2_17)), (y 30, aT V 4 (va_up (va_up (va_up (va_up (fun _ => none) 0 (some (y 33))) 1 (some (y 35))) 2 (some (y 37))) 3 (some (y 39)))), (y 33, .inr (7, o7_rii (y 34) py33_1 py33_2)), (y 34, aJ V 40 fy34), (y 35, .inr (7, o7_rii (y 36) py35_1 py35_2)), (y 36, aJ V 40 fy36), (y 37, .inr (7, o7_rii (y 38) py37_1 py37_2)), (y 38, aJ V 40 fy38), (y 39, .inr (7, o7_rii (y 40) py39_1 py39_2)), (y 40, aJ V 40 fy40)] H := hP
    have hD := cpD hP hD
    have b_350 : iv 0 2147483647 a2 := iv_e2 (Int32.not_lt.mp c_95) (iv_c (0 : Int32) (a := 0) (b := 0) (by decide)) (iv_top a2) (by first | decide | omega)
    have b_351 : iv 0 3 a2 := iv_l1 (Int32.not_le.mp c_96) b_350 bpy2_1 (by first | decide | omega)
    have b_352 : iv 1 4 py2_1 := iv_l2 (Int32.not_le.mp c_96) b_350 bpy2_1 (by first | decide | omega)
    have b_353 : iv 1 1 a1 := iv_q c_97 (iv_c (1 : Int32) (a := 1) (b := 1) (by decide))
    have b_354 : iv (-1) (-1) py35_1 := iv_l1 (Int32.not_le.mp c_98) bpy35_1 (iv_c (0 : Int32) (a := 0) (b := 0) (by decide)) (by first | decide | omega)
    refine lv_istore (lv' := [(4, .int (-6)), (0, .ref (y 0)), (1, .int a1), (2, .int a2), (3, .int a3)]) hx hb dX9_fogs_7 hl (by decide) rfl (fun ls hl => ?_)
    refine lv_iload hx hb dX9_fogs_9 (lv_at hl 0 rfl) ?_
    refine lv_if_eq (tgt := 17) hx hb dX9_fogs_11 (by decide) (fun c_356 => absurd c_356 (by decide)) (fun _ => ?_)
    refine lv_iload hx hb dX9_fogs_14 (lv_at hl 0 rfl) ?_
    have z_0 := Int32.le_iff_toInt_le.mp (Int32.not_lt.mp c_93)
    have z_1 := Int32.lt_iff_toInt_lt.mp (Int32.not_le.mp c_94)
    have z_2 := Int32.le_iff_toInt_le.mp (Int32.not_lt.mp c_95)
    have z_3 := Int32.lt_iff_toInt_lt.mp (Int32.not_le.mp c_96)
    have z_4 := congrArg Int32.toInt c_97
    have z_5 := Int32.lt_iff_toInt_lt.mp (Int32.not_le.mp c_98)
    have k_0 : (0 : Int32).toInt = 0 := (by decide)
    have k_1 : (1 : Int32).toInt = 1 := (by decide)
    have k_4 : (4 : Int32).toInt = 4 := (by decide)
    exfalso
    have g_0 := hf0
    have g_1 := hf1
    have g_2 := hf2
    exact absurd (g_99.trans g_0) (by decide)
  · have hP : va_P V.1 vwCl [(y 3, aI V 4 fy3), (y 9, aI V 900 fy9), (y 19, .inr (4, o4_rrrrrr (y 2) (y 20) (y 21) (y 22) (y 23) (y 24))), (y 20, aI V 2000 fy20), (y 21, aI V 6 fy21), (y 22, aI V 64 fy22), (y 0, .inr (9, o9_rirrrrrrrrnviii (y 1) py0_1 (y 2) (y 10) (y 19) (y 25) (y 26) (y 30) (y 31) (y 32) o11 py0_12 py0_13 py0_14)), (y 2, .inr (1, o1_iiiiiirrrrrrriiiii py2_0 py2_1 py2_2 py2_3 py2_4 py2_5 (y 3) (y 4) (y 5) (y 6) (y 7) (y 8) (y 9) py2_13 py2_14 py2_15 py2_16 py2_17)), (y 30, aT V 4 (va_up (va_up (va_up (va_up (fun _ => none) 0 (some (y 33))) 1 (some (y 35))) 2 (some (y 37))) 3 (some (y 39)))), (y 33, .inr (7, o7_rii (y 34) py33_1 py33_2)), (y 34, aJ V 40 fy34), (y 35, .inr (7, o7_rii (y 36) py35_1 py35_2)), (y 36, aJ V 40 fy36), (y 37, .inr (7, o7_rii (y 38) py37_1 py37_2)), (y 38, aJ V 40 fy38), (y 39, .inr (7, o7_rii (y 40) py39_1 py39_2)), (y 40, aJ V 40 fy40)] H := hP
    have hD := cpD hP hD
    have b_357 : iv 0 2147483647 a2 := iv_e2 (Int32.not_lt.mp c_102) (iv_c (0 : Int32) (a := 0) (b := 0) (by decide)) (iv_top a2) (by first | decide | omega)
    have b_358 : iv 0 3 a2 := iv_l1 (Int32.not_le.mp c_103) b_357 bpy2_1 (by first | decide | omega)
    have b_359 : iv 1 4 py2_1 := iv_l2 (Int32.not_le.mp c_103) b_357 bpy2_1 (by first | decide | omega)
    have b_360 : iv 2 2 a1 := iv_q c_104 (iv_c (2 : Int32) (a := 2) (b := 2) (by decide))
    have b_361 : iv 0 40 py37_1 := iv_e2 c_105 (iv_c (0 : Int32) (a := 0) (b := 0) (by decide)) bpy37_1 (by first | decide | omega)
    have b_362 : iv 0 0 py37_1 := iv_l1 c_106 b_361 (iv_c (1 : Int32) (a := 1) (b := 1) (by decide)) (by first | decide | omega)
    refine lv_istore (lv' := [(4, .int (-4)), (0, .ref (y 0)), (1, .int a1), (2, .int a2), (3, .int a3)]) hx hb dX9_fogs_7 hl (by decide) rfl (fun ls hl => ?_)
    refine lv_iload hx hb dX9_fogs_9 (lv_at hl 0 rfl) ?_
    refine lv_if_eq (tgt := 17) hx hb dX9_fogs_11 (by decide) (fun c_364 => absurd c_364 (by decide)) (fun _ => ?_)
    refine lv_iload hx hb dX9_fogs_14 (lv_at hl 0 rfl) ?_
    have z_0 := Int32.le_iff_toInt_le.mp (Int32.not_lt.mp c_100)
    have z_1 := Int32.lt_iff_toInt_lt.mp (Int32.not_le.mp c_101)
    have z_2 := Int32.le_iff_toInt_le.mp (Int32.not_lt.mp c_102)
    have z_3 := Int32.lt_iff_toInt_lt.mp (Int32.not_le.mp c_103)
    have z_4 := congrArg Int32.toInt c_104
    have z_5 := Int32.le_iff_toInt_le.mp c_105
    have z_6 := Int32.lt_iff_toInt_lt.mp c_106
    have k_0 : (0 : Int32).toInt = 0 := (by decide)
    have k_1 : (1 : Int32).toInt = 1 := (by decide)
    have k_2 : (2 : Int32).toInt = 2 := (by decide)
    have k_4 : (4 : Int32).toInt = 4 := (by decide)
    exfalso
    have g_0 := hf0
    have g_1 := hf1
    have g_2 := hf2
    exact absurd (g_107.trans g_0) (by decide)
  · have hP : va_P V.1 vwCl [(y 3, aI V 4 fy3), (y 9, aI V 900 fy9), (y 19, .inr (4, o4_rrrrrr (y 2) (y 20) (y 21) (y 22) (y 23) (y 24))), (y 20, aI V 2000 fy20), (y 21, aI V 6 fy21), (y 22, aI V 64 fy22), (y 0, .inr (9, o9_rirrrrrrrrnviii (y 1) py0_1 (y 2) (y 10) (y 19) (y 25) (y 26) (y 30) (y 31) (y 32) o11 py0_12 py0_13 py0_14)), (y 2, .inr (1, o1_iiiiiirrrrrrriiiii py2_0 py2_1 py2_2 py2_3 py2_4 py2_5 (y 3) (y 4) (y 5) (y 6) (y 7) (y 8) (y 9) py2_13 py2_14 py2_15 py2_16 py2_17)), (y 30, aT V 4 (va_up (va_up (va_up (va_up (fun _ => none) 0 (some (y 33))) 1 (some (y 35))) 2 (some (y 37))) 3 (some (y 39)))), (y 33, .inr (7, o7_rii (y 34) py33_1 py33_2)), (y 34, aJ V 40 fy34), (y 35, .inr (7, o7_rii (y 36) py35_1 py35_2)), (y 36, aJ V 40 fy36), (y 37, .inr (7, o7_rii (y 38) py37_1 py37_2)), (y 38, aJ V 40 fy38), (y 39, .inr (7, o7_rii (y 40) py39_1 py39_2)), (y 40, aJ V 40 fy40)] H := hP
    have hD := cpD hP hD
    have b_365 : iv 0 2147483647 a2 := iv_e2 (Int32.not_lt.mp c_110) (iv_c (0 : Int32) (a := 0) (b := 0) (by decide)) (iv_top a2) (by first | decide | omega)
    have b_366 : iv 0 3 a2 := iv_l1 (Int32.not_le.mp c_111) b_365 bpy2_1 (by first | decide | omega)
    have b_367 : iv 1 4 py2_1 := iv_l2 (Int32.not_le.mp c_111) b_365 bpy2_1 (by first | decide | omega)
    have b_368 : iv 2 2 a1 := iv_q c_112 (iv_c (2 : Int32) (a := 2) (b := 2) (by decide))
    have b_369 : iv 0 40 py37_1 := iv_e2 c_113 (iv_c (0 : Int32) (a := 0) (b := 0) (by decide)) bpy37_1 (by first | decide | omega)
    have b_370 : iv 1 40 py37_1 := iv_e2 (Int32.not_lt.mp c_114) (iv_c (1 : Int32) (a := 1) (b := 1) (by decide)) b_369 (by first | decide | omega)
    have b_371 : iv 1 8 py37_1 := iv_e1 c_115 b_370 (iv_c (8 : Int32) (a := 8) (b := 8) (by decide)) (by first | decide | omega)
    refine lv_istore (lv' := [(4, .int 0), (0, .ref (y 0)), (1, .int a1), (2, .int a2), (3, .int a3)]) hx hb dX9_fogs_7 hl (by decide) rfl (fun ls hl => ?_)
    refine lv_iload hx hb dX9_fogs_9 (lv_at hl 0 rfl) ?_
    refine lv_if_eq (tgt := 17) hx hb dX9_fogs_11 (by decide) (fun _ => ?_) (fun c_373 => absurd c_373 (by decide))
    refine lv_iload_n hx hb dX9_fogs_17 rfl (lv_at hl 4 rfl) ?_
    refine lv_if_ge (tgt := 24) hx hb dX9_fogs_18 (by decide) (fun c_374 => ?_) (fun c_374 => ?_)
    · have b_375 : iv 0 2147483647 a3 := iv_e2 c_374 (iv_c (0 : Int32) (a := 0) (b := 0) (by decide)) (iv_top a3) (by first | decide | omega)
      refine lv_iload_n hx hb dX9_fogs_24 rfl (lv_at hl 4 rfl) ?_
      refine lv_aload_n hx hb dX9_fogs_25 rfl (lv_at hl 1 rfl) ?_
      refine va_get (ci := 9) (v := .ref (y 30)) (C := RX9) (T := TX9) (N := 15) hx hb hg inX9 hown hK hP 6 rfl rfl 7 (by decide) (hg _ q_2_43) (fun _ h9 => h9) rfl dX9_fogs_26 ?_
      refine lv_iload_n hx hb dX9_fogs_29 rfl (lv_at hl 2 rfl) ?_
      have c_376 : a1 = 2 := by have q9 := b_368; unfold iv at q9; simp only [tI_eq, (by decide : (2 : Int32).toInt = 2)]; omega
      rcases c_376 with rfl
      · refine va_aldq hx hb hK hP 8 4 rfl rfl (vin (by decide +kernel)) dX9_fogs_30 ?_
        refine W.eq (g2 := F0 m 31 ls (.ref (y 37) :: .int a3 :: [])) rfl ?_
        refine va_get (ci := 7) (v := .int py37_1) (C := RX7) (T := TX7) (N := 3) hx hb hg inX7 hown hK hP 13 rfl rfl 1 (by decide) (hg _ q_2_2) (fun _ h9 => h9) rfl dX9_fogs_31 ?_
        refine lv_icmp_lt (tgt := 40) hx hb dX9_fogs_34 (by decide) (fun c_377 => ?_) (fun c_377 => ?_)
        · have b_378 : iv 0 7 a3 := iv_l1 c_377 b_375 b_371 (by first | decide | omega)
          refine lv_aload_n hx hb dX9_fogs_40 rfl (lv_at hl 1 rfl) ?_
          refine lv_aload_n hx hb dX9_fogs_41 rfl (lv_at hl 1 rfl) ?_
          refine va_get (ci := 9) (v := .ref (y 30)) (C := RX9) (T := TX9) (N := 15) hx hb hg inX9 hown hK hP 6 rfl rfl 7 (by decide) (hg _ q_2_43) (fun _ h9 => h9) rfl dX9_fogs_42 ?_
          refine lv_iload_n hx hb dX9_fogs_45 rfl (lv_at hl 2 rfl) ?_
          refine va_aldq hx hb hK hP 8 4 rfl rfl (vin (by decide +kernel)) dX9_fogs_46 ?_
          refine W.eq (g2 := F0 m 47 ls (.ref (y 37) :: .ref (y 0) :: [])) rfl ?_
          refine va_get (ci := 7) (v := .int py37_1) (C := RX7) (T := TX7) (N := 3) hx hb hg inX7 hown hK hP 13 rfl rfl 1 (by decide) (hg _ q_2_2) (fun _ h9 => h9) rfl dX9_fogs_47 ?_
          refine jnR (wr := [(y 30, aT V 4 (va_up (va_up (va_up (va_up (fun _ => none) 0 (some (y 33))) 1 (some (y 35))) 2 (some (y 37))) 3 (some (y 39)))), (y 33, .inr (7, o7_rii (y 34) py33_1 py33_2)), (y 34, aJ V 40 fy34), (y 35, .inr (7, o7_rii (y 36) py35_1 py35_2)), (y 36, aJ V 40 fy36), (y 37, .inr (7, o7_rii (y 38) py37_1 py37_2)), (y 38, aJ V 40 fy38), (y 39, .inr (7, o7_rii (y 40) py39_1 py39_2)), (y 40, aJ V 40 fy40)]) (rnV (rest := []) ⟨hx, hb, hml, hown, hg⟩ (k_X9_waysFromNow_1 l V y D9 py37_1 fy3 fy9 fy20 fy21 fy22 py0_1 o11 py0_12 py0_13 py0_14 py2_0 py2_1 py2_2 py2_3 py2_4 py2_5 py2_13 py2_14 py2_15 py2_16 py2_17 tfy20 bpy0_1 bpy0_12 bpy0_13 (iv_w b_367 (by first | decide | omega)) bpy2_2 bpy2_3 bpy2_4 bpy2_5 bpy2_13 bpy2_14 bpy2_15 bpy2_16 bpy2_17 hL9 hK9) mt_X9_waysFromNow q_4_52 ⟨Nat.le_of_ble_eq_true rfl, Nat.le_of_ble_eq_true rfl⟩ hK hP hD hS hA hE [0, 1, 2, 3, 4, 5, 6, 7] rfl rfl 6 rfl rfl rfl rfl hl.1 rfl (Nat.le_of_ble_eq_true rfl) dX9_fogs_50 ⟨Nat.le_of_ble_eq_true rfl, Nat.le_of_ble_eq_true rfl⟩) hP hD hS hA [0, 1, 2, 3, 4, 5, 6, 7] [8, 9, 10, 11, 12, 13, 14, 15, 16] rfl rfl rfl (by decide) (fun r_379 w H locs hw hP hD hS => ?_)
          refine W.widen (k := 10) (n := 46481) (Nat.le_of_ble_eq_true rfl) (Nat.le_of_ble_eq_true rfl) ?_
          obtain ⟨n, L, Yw, wa_380, wb_381, f_382, f_383, f_384, v_385, v_386, v_387, v_388, v_389, v_390, f_391, f_392, f_393, f_394, f_395, f_396, f_397, f_398, f_399, hn, hL, tf_382, bv_385, bv_386, bv_387, bv_388, bv_389, bv_390, tf_391, tf_394, tf_395, tf_396, tf_397, eW, g_400, g_401, g_402, g_403, g_404, kn_405, rfl⟩ := hw
          have hP : va_P V.1 vwCl [(y 30, aT V 4 (va_up (va_up (va_up (va_up (fun _ => none) 0 (some (y 33))) 1 (some (y 35))) 2 (some (y 37))) 3 (some (y 39)))), (y 33, .inr (7, o7_rii (y 34) py33_1 py33_2)), (y 34, aJ V 40 fy34), (y 35, .inr (7, o7_rii (y 36) py35_1 py35_2)), (y 36, aJ V 40 fy36), (y 37, .inr (7, o7_rii (y 38) py37_1 py37_2)), (y 38, aJ V 40 fy38), (y 39, .inr (7, o7_rii (y 40) py39_1 py39_2)), (y 40, aJ V 40 fy40), (y 3, aI V 4 fy3), (y 9, aI V 900 fy9), (y 19, .inr (4, o4_rrrrrr (y 2) (y 20) (y 21) (y 22) (y 23) (y 24))), (y 20, aI V 2000 f_382), (y 21, aI V 6 f_383), (y 22, aI V 64 f_384), (y 0, .inr (9, o9_rirrrrrrrrrviii (y 1) py0_1 (y 2) (y 10) (y 19) (y 25) (y 26) (y 30) (y 31) (y 32) (Yw 0) o11 py0_12 py0_13 py0_14)), (y 2, .inr (1, o1_iiiiiirrrrrrriiiii py2_0 py2_1 py2_2 py2_3 py2_4 py2_5 (y 3) (y 4) (y 5) (y 6) (y 7) (y 8) (y 9) py2_13 py2_14 py2_15 py2_16 py2_17)), (Yw 0, .inr (8, o8_iirrriirrrrrrriii v_385 (nI n) (Yw 1) (Yw 2) wa_380 v_386 v_387 (y 19) (Yw 4) (Yw 5) (Yw 6) (Yw 7) (Yw 8) wb_381 v_388 v_389 v_390)), (Yw 1, aI V n f_391), (Yw 2, aI V n f_392), (wa_380, aI V n f_393), (Yw 4, aI V L f_394), (Yw 5, aI V n f_395), (Yw 6, aI V (n * 4) f_396), (Yw 7, aI V n f_397), (Yw 8, aI V 4 f_398), (wb_381, aI V n f_399)] H := hP
          have hD := cpD hP hD
          rw [← eW]
          refine lv_astore (lv' := [(5, .ref (Yw 0)), (4, .int 0), (0, .ref (y 0)), (1, .int 2), (2, .int a2), (3, .int a3)]) hx hb dX9_fogs_53 hl (by decide) rfl (fun ls hl => ?_)
          refine lv_aload hx hb dX9_fogs_55 (lv_at hl 0 rfl) ?_
          refine lv_aload_n hx hb dX9_fogs_57 rfl (lv_at hl 2 rfl) ?_
          refine va_get (ci := 9) (v := .ref (y 30)) (C := RX9) (T := TX9) (N := 15) hx hb hg inX9 hown hK hP 15 rfl rfl 7 (by decide) (hg _ q_2_43) (fun _ h9 => h9) rfl dX9_fogs_58 ?_
          refine lv_iload_n hx hb dX9_fogs_61 rfl (lv_at hl 3 rfl) ?_
          refine va_aldq hx hb hK hP 0 4 rfl rfl (vin (by decide +kernel)) dX9_fogs_62 ?_
          refine W.eq (g2 := F0 m 63 ls (.ref (y 37) :: .ref (Yw 0) :: [])) rfl ?_
          refine lv_iload_n hx hb dX9_fogs_63 rfl (lv_at hl 4 rfl) ?_
          refine jnV (wr := [(y 30, aT V 4 (va_up (va_up (va_up (va_up (fun _ => none) 0 (some (y 33))) 1 (some (y 35))) 2 (some (y 37))) 3 (some (y 39)))), (y 33, .inr (7, o7_rii (y 34) py33_1 py33_2)), (y 34, aJ V 40 fy34), (y 35, .inr (7, o7_rii (y 36) py35_1 py35_2)), (y 36, aJ V 40 fy36), (y 39, .inr (7, o7_rii (y 40) py39_1 py39_2)), (y 40, aJ V 40 fy40), (y 3, aI V 4 fy3), (y 9, aI V 900 fy9), (y 19, .inr (4, o4_rrrrrr (y 2) (y 20) (y 21) (y 22) (y 23) (y 24))), (y 20, aI V 2000 f_382), (y 21, aI V 6 f_383), (y 22, aI V 64 f_384), (y 0, .inr (9, o9_rirrrrrrrrrviii (y 1) py0_1 (y 2) (y 10) (y 19) (y 25) (y 26) (y 30) (y 31) (y 32) (Yw 0) o11 py0_12 py0_13 py0_14)), (y 2, .inr (1, o1_iiiiiirrrrrrriiiii py2_0 py2_1 py2_2 py2_3 py2_4 py2_5 (y 3) (y 4) (y 5) (y 6) (y 7) (y 8) (y 9) py2_13 py2_14 py2_15 py2_16 py2_17)), (Yw 4, aI V L f_394), (Yw 5, aI V n f_395), (Yw 7, aI V n f_397), (Yw 8, aI V 4 f_398), (wb_381, aI V n f_399)]) (rnV (rest := []) ⟨hx, hb, hml, hown, hg⟩ (k_X8_traceTold_2 l V n L Yw y a2 f_393 py37_1 py37_2 fy38 v_385 wa_380 v_386 v_387 wb_381 v_388 v_389 v_390 f_391 f_392 f_396 hn hL b_366 (iv_w b_371 (by first | decide | omega)) bv_385 bv_386 bv_387 bv_388 bv_389 bv_390 tf_391 tf_396) mt_X8_traceTold q_5_39 ⟨Nat.le_of_ble_eq_true rfl, Nat.le_of_ble_eq_true rfl⟩ hK hP hD hS hA hE [20, 5, 6, 17, 18, 19, 23] rfl rfl 17 rfl rfl rfl rfl hl.1 rfl (Nat.le_of_ble_eq_true rfl) dX9_fogs_64 ⟨Nat.le_of_ble_eq_true rfl, Nat.le_of_ble_eq_true rfl⟩) hP hD hS hA [20, 5, 6, 17, 18, 19, 23] [0, 1, 2, 3, 4, 7, 8, 9, 10, 11, 12, 13, 14, 15, 16, 21, 22, 24, 25, 26] rfl rfl rfl (by decide) (fun  w H locs hw hP hD hS => ?_)
          obtain ⟨f_406, rfl⟩ := hw
          have hP : va_P V.1 vwCl [(y 30, aT V 4 (va_up (va_up (va_up (va_up (fun _ => none) 0 (some (y 33))) 1 (some (y 35))) 2 (some (y 37))) 3 (some (y 39)))), (y 33, .inr (7, o7_rii (y 34) py33_1 py33_2)), (y 34, aJ V 40 fy34), (y 35, .inr (7, o7_rii (y 36) py35_1 py35_2)), (y 36, aJ V 40 fy36), (y 39, .inr (7, o7_rii (y 40) py39_1 py39_2)), (y 40, aJ V 40 fy40), (y 3, aI V 4 fy3), (y 9, aI V 900 fy9), (y 19, .inr (4, o4_rrrrrr (y 2) (y 20) (y 21) (y 22) (y 23) (y 24))), (y 20, aI V 2000 f_382), (y 21, aI V 6 f_383), (y 22, aI V 64 f_384), (y 0, .inr (9, o9_rirrrrrrrrrviii (y 1) py0_1 (y 2) (y 10) (y 19) (y 25) (y 26) (y 30) (y 31) (y 32) (Yw 0) o11 py0_12 py0_13 py0_14)), (y 2, .inr (1, o1_iiiiiirrrrrrriiiii py2_0 py2_1 py2_2 py2_3 py2_4 py2_5 (y 3) (y 4) (y 5) (y 6) (y 7) (y 8) (y 9) py2_13 py2_14 py2_15 py2_16 py2_17)), (Yw 4, aI V L f_394), (Yw 5, aI V n f_395), (Yw 7, aI V n f_397), (Yw 8, aI V 4 f_398), (wb_381, aI V n f_399), (wa_380, aI V n f_406), (y 37, .inr (7, o7_rii (y 38) py37_1 py37_2)), (y 38, aJ V 40 fy38), (Yw 0, .inr (8, o8_iirrriirrrrrrriii v_385 (nI n) (Yw 1) (Yw 2) wa_380 v_386 v_387 (y 19) (Yw 4) (Yw 5) (Yw 6) (Yw 7) (Yw 8) wb_381 v_388 v_389 v_390)), (Yw 1, aI V n f_391), (Yw 2, aI V n f_392), (Yw 6, aI V (n * 4) f_396)] H := hP
          have hD := cpD hP hD
          refine lv_aload hx hb dX9_fogs_67 (lv_at hl 0 rfl) ?_
          refine lv_iload_n hx hb dX9_fogs_69 rfl (lv_at hl 5 rfl) ?_
          refine jnI (wr := [(y 30, aT V 4 (va_up (va_up (va_up (va_up (fun _ => none) 0 (some (y 33))) 1 (some (y 35))) 2 (some (y 37))) 3 (some (y 39)))), (y 33, .inr (7, o7_rii (y 34) py33_1 py33_2)), (y 34, aJ V 40 fy34), (y 35, .inr (7, o7_rii (y 36) py35_1 py35_2)), (y 36, aJ V 40 fy36), (y 39, .inr (7, o7_rii (y 40) py39_1 py39_2)), (y 40, aJ V 40 fy40), (y 3, aI V 4 fy3), (y 9, aI V 900 fy9), (y 19, .inr (4, o4_rrrrrr (y 2) (y 20) (y 21) (y 22) (y 23) (y 24))), (y 20, aI V 2000 f_382), (y 21, aI V 6 f_383), (y 22, aI V 64 f_384), (y 0, .inr (9, o9_rirrrrrrrrrviii (y 1) py0_1 (y 2) (y 10) (y 19) (y 25) (y 26) (y 30) (y 31) (y 32) (Yw 0) o11 py0_12 py0_13 py0_14)), (y 2, .inr (1, o1_iiiiiirrrrrrriiiii py2_0 py2_1 py2_2 py2_3 py2_4 py2_5 (y 3) (y 4) (y 5) (y 6) (y 7) (y 8) (y 9) py2_13 py2_14 py2_15 py2_16 py2_17)), (Yw 4, aI V L f_394), (Yw 5, aI V n f_395), (Yw 7, aI V n f_397), (Yw 8, aI V 4 f_398), (wb_381, aI V n f_399), (y 37, .inr (7, o7_rii (y 38) py37_1 py37_2)), (y 38, aJ V 40 fy38), (Yw 1, aI V n f_391)]) (rnV (rest := []) ⟨hx, hb, hml, hown, hg⟩ (k_X8_allTraced_0 l V n Yw y a3 v_385 wa_380 v_386 v_387 wb_381 v_388 v_389 v_390 f_392 f_406 f_396 hn (iv_w b_378 (by first | decide | omega)) bv_385 bv_386 bv_387 bv_388 bv_389 bv_390 tf_396) mt_X8_allTraced q_5_59 ⟨Nat.le_of_ble_eq_true rfl, Nat.le_of_ble_eq_true rfl⟩ hK hP hD hS hA hE [23, 25, 20, 26] rfl rfl 23 rfl rfl rfl rfl hl.1 rfl (Nat.le_of_ble_eq_true rfl) dX9_fogs_70 ⟨Nat.le_of_ble_eq_true rfl, Nat.le_of_ble_eq_true rfl⟩) hP hD hS hA [23, 25, 20, 26] [0, 1, 2, 3, 4, 5, 6, 7, 8, 9, 10, 11, 12, 13, 14, 15, 16, 17, 18, 19, 21, 22, 24] rfl rfl rfl (by decide) (fun r_407 w H locs hw hP hD hS => ?_)
          subst hw
          have hP : va_P V.1 vwCl [(y 30, aT V 4 (va_up (va_up (va_up (va_up (fun _ => none) 0 (some (y 33))) 1 (some (y 35))) 2 (some (y 37))) 3 (some (y 39)))), (y 33, .inr (7, o7_rii (y 34) py33_1 py33_2)), (y 34, aJ V 40 fy34), (y 35, .inr (7, o7_rii (y 36) py35_1 py35_2)), (y 36, aJ V 40 fy36), (y 39, .inr (7, o7_rii (y 40) py39_1 py39_2)), (y 40, aJ V 40 fy40), (y 3, aI V 4 fy3), (y 9, aI V 900 fy9), (y 19, .inr (4, o4_rrrrrr (y 2) (y 20) (y 21) (y 22) (y 23) (y 24))), (y 20, aI V 2000 f_382), (y 21, aI V 6 f_383), (y 22, aI V 64 f_384), (y 0, .inr (9, o9_rirrrrrrrrrviii (y 1) py0_1 (y 2) (y 10) (y 19) (y 25) (y 26) (y 30) (y 31) (y 32) (Yw 0) o11 py0_12 py0_13 py0_14)), (y 2, .inr (1, o1_iiiiiirrrrrrriiiii py2_0 py2_1 py2_2 py2_3 py2_4 py2_5 (y 3) (y 4) (y 5) (y 6) (y 7) (y 8) (y 9) py2_13 py2_14 py2_15 py2_16 py2_17)), (Yw 4, aI V L f_394), (Yw 5, aI V n f_395), (Yw 7, aI V n f_397), (Yw 8, aI V 4 f_398), (wb_381, aI V n f_399), (y 37, .inr (7, o7_rii (y 38) py37_1 py37_2)), (y 38, aJ V 40 fy38), (Yw 1, aI V n f_391), (Yw 0, .inr (8, o8_iirrriirrrrrrriii v_385 (nI n) (Yw 1) (Yw 2) wa_380 v_386 v_387 (y 19) (Yw 4) (Yw 5) (Yw 6) (Yw 7) (Yw 8) wb_381 v_388 v_389 v_390)), (Yw 2, aI V n f_392), (wa_380, aI V n f_406), (Yw 6, aI V (n * 4) f_396)] H := hP
          have hD := cpD hP hD
          have hP := subP (ws' := [(y 0, .inr (9, o9_rirrrrrrrrrviii (y 1) py0_1 (y 2) (y 10) (y 19) (y 25) (y 26) (y 30) (y 31) (y 32) (Yw 0) o11 py0_12 py0_13 py0_14)), (y 2, .inr (1, o1_iiiiiirrrrrrriiiii py2_0 py2_1 py2_2 py2_3 py2_4 py2_5 (y 3) (y 4) (y 5) (y 6) (y 7) (y 8) (y 9) py2_13 py2_14 py2_15 py2_16 py2_17)), (y 3, aI V 4 fy3), (y 9, aI V 900 fy9), (y 19, .inr (4, o4_rrrrrr (y 2) (y 20) (y 21) (y 22) (y 23) (y 24))), (y 20, aI V 2000 f_382), (y 21, aI V 6 f_383), (y 22, aI V 64 f_384), (y 30, aT V 4 (va_up (va_up (va_up (va_up (fun _ => none) 0 (some (y 33))) 1 (some (y 35))) 2 (some (y 37))) 3 (some (y 39)))), (y 33, .inr (7, o7_rii (y 34) py33_1 py33_2)), (y 34, aJ V 40 fy34), (y 35, .inr (7, o7_rii (y 36) py35_1 py35_2)), (y 36, aJ V 40 fy36), (y 37, .inr (7, o7_rii (y 38) py37_1 py37_2)), (y 38, aJ V 40 fy38), (y 39, .inr (7, o7_rii (y 40) py39_1 py39_2)), (y 40, aJ V 40 fy40), (Yw 4, aI V L f_394), (Yw 5, aI V n f_395), (Yw 7, aI V n f_397), (Yw 8, aI V 4 f_398), (wb_381, aI V n f_399), (Yw 1, aI V n f_391), (Yw 0, .inr (8, o8_iirrriirrrrrrriii v_385 (nI n) (Yw 1) (Yw 2) wa_380 v_386 v_387 (y 19) (Yw 4) (Yw 5) (Yw 6) (Yw 7) (Yw 8) wb_381 v_388 v_389 v_390)), (Yw 2, aI V n f_392), (wa_380, aI V n f_406), (Yw 6, aI V (n * 4) f_396)]) hP [13, 14, 7, 8, 9, 10, 11, 12, 0, 1, 2, 3, 4, 20, 21, 5, 6, 15, 16, 17, 18, 19, 22, 23, 24, 25, 26] rfl
          have hD := subD hP hD [13, 14, 7, 8, 9, 10, 11, 12, 0, 1, 2, 3, 4, 20, 21, 5, 6, 15, 16, 17, 18, 19, 22, 23, 24, 25, 26] rfl rfl
          exact fiI hx hb hr hlk hK (subP (ws' := [(y 0, .inr (9, o9_rirrrrrrrrrviii (y 1) py0_1 (y 2) (y 10) (y 19) (y 25) (y 26) (y 30) (y 31) (y 32) (Yw 0) o11 py0_12 py0_13 py0_14)), (y 2, .inr (1, o1_iiiiiirrrrrrriiiii py2_0 py2_1 py2_2 py2_3 py2_4 py2_5 (y 3) (y 4) (y 5) (y 6) (y 7) (y 8) (y 9) py2_13 py2_14 py2_15 py2_16 py2_17)), (y 3, aI V 4 fy3), (y 9, aI V 900 fy9), (y 19, .inr (4, o4_rrrrrr (y 2) (y 20) (y 21) (y 22) (y 23) (y 24))), (y 20, aI V 2000 f_382), (y 21, aI V 6 f_383), (y 22, aI V 64 f_384), (y 30, aT V 4 (va_up (va_up (va_up (va_up (fun _ => none) 0 (some (y 33))) 1 (some (y 35))) 2 (some (y 37))) 3 (some (y 39)))), (y 33, .inr (7, o7_rii (y 34) py33_1 py33_2)), (y 34, aJ V 40 fy34), (y 35, .inr (7, o7_rii (y 36) py35_1 py35_2)), (y 36, aJ V 40 fy36), (y 37, .inr (7, o7_rii (y 38) py37_1 py37_2)), (y 38, aJ V 40 fy38), (y 39, .inr (7, o7_rii (y 40) py39_1 py39_2)), (y 40, aJ V 40 fy40), (Yw 0, .inr (8, o8_iirrriirrrrrrriii v_385 (nI n) (Yw 1) (Yw 2) wa_380 v_386 v_387 (y 19) (Yw 4) (Yw 5) (Yw 6) (Yw 7) (Yw 8) wb_381 v_388 v_389 v_390)), (Yw 1, aI V n f_391), (Yw 2, aI V n f_392), (wa_380, aI V n f_406), (Yw 4, aI V L f_394), (Yw 5, aI V n f_395), (Yw 6, aI V (n * 4) f_396), (Yw 7, aI V n f_397), (Yw 8, aI V 4 f_398), (wb_381, aI V n f_399)]) hP [0, 1, 2, 3, 4, 5, 6, 7, 8, 9, 10, 11, 12, 13, 14, 15, 16, 23, 22, 24, 25, 17, 18, 26, 19, 20, 21] rfl) (hD.sub [0, 1, 2, 3, 4, 5, 6, 7, 8, 9, 10, 11, 12, 13, 14, 15, 16, 23, 22, 24, 25, 17, 18, 26, 19, 20, 21] rfl rfl) hS dX9_fogs_73 (Nat.le_of_ble_eq_true rfl) (Nat.le_of_ble_eq_true rfl) (⟨n, L, Yw, wa_380, wb_381, f_382, f_383, f_384, v_385, v_386, v_387, v_388, v_389, v_390, f_391, f_392, f_406, f_394, f_395, f_396, f_397, f_398, f_399, hn, hL, tf_382, bv_385, bv_386, bv_387, bv_388, bv_389, bv_390, tf_391, tf_394, tf_395, tf_396, tf_397, g_400, g_401, g_402, g_404, kn_405, rfl⟩)
        · have b_408 : iv 1 2147483647 a3 := iv_e2 (Int32.not_lt.mp c_377) b_371 b_375 (by first | decide | omega)
          refine lv_bipush (v := (-7)) hx hb dX9_fogs_37 (by decide) ?_
          have z_0 := Int32.le_iff_toInt_le.mp (Int32.not_lt.mp c_108)
          have z_1 := Int32.lt_iff_toInt_lt.mp (Int32.not_le.mp c_109)
          have z_2 := Int32.le_iff_toInt_le.mp (Int32.not_lt.mp c_110)
          have z_3 := Int32.lt_iff_toInt_lt.mp (Int32.not_le.mp c_111)
          have z_4 := congrArg Int32.toInt c_112
          have z_5 := Int32.le_iff_toInt_le.mp c_113
          have z_6 := Int32.le_iff_toInt_le.mp (Int32.not_lt.mp c_114)
          have z_7 := Int32.le_iff_toInt_le.mp c_115
          have z_8 := Int32.le_iff_toInt_le.mp c_374
          have z_9 := Int32.le_iff_toInt_le.mp (Int32.not_lt.mp c_377)
          have k_0 : (0 : Int32).toInt = 0 := (by decide)
          have k_1 : (1 : Int32).toInt = 1 := (by decide)
          have k_2 : (2 : Int32).toInt = 2 := (by decide)
          have k_4 : (4 : Int32).toInt = 4 := (by decide)
          have k_8 : (8 : Int32).toInt = 8 := (by decide)
          exfalso
          have g_0 := hf0
          have g_1 := hf1
          have g_2 := hf2
          rw [cntF_2] at g_2
          omega
    · have b_409 : iv (-2147483648) (-1) a3 := iv_l1 (Int32.not_le.mp c_374) (iv_top a3) (iv_c (0 : Int32) (a := 0) (b := 0) (by decide)) (by first | decide | omega)
      refine lv_bipush (v := (-3)) hx hb dX9_fogs_21 (by decide) ?_
      have z_0 := Int32.le_iff_toInt_le.mp (Int32.not_lt.mp c_108)
      have z_1 := Int32.lt_iff_toInt_lt.mp (Int32.not_le.mp c_109)
      have z_2 := Int32.le_iff_toInt_le.mp (Int32.not_lt.mp c_110)
      have z_3 := Int32.lt_iff_toInt_lt.mp (Int32.not_le.mp c_111)
      have z_4 := congrArg Int32.toInt c_112
      have z_5 := Int32.le_iff_toInt_le.mp c_113
      have z_6 := Int32.le_iff_toInt_le.mp (Int32.not_lt.mp c_114)
      have z_7 := Int32.le_iff_toInt_le.mp c_115
      have z_8 := Int32.lt_iff_toInt_lt.mp (Int32.not_le.mp c_374)
      have k_0 : (0 : Int32).toInt = 0 := (by decide)
      have k_1 : (1 : Int32).toInt = 1 := (by decide)
      have k_2 : (2 : Int32).toInt = 2 := (by decide)
      have k_4 : (4 : Int32).toInt = 4 := (by decide)
      have k_8 : (8 : Int32).toInt = 8 := (by decide)
      exfalso
      have g_0 := hf0
      have g_1 := hf1
      have g_2 := hf2
      omega
  · have hP : va_P V.1 vwCl [(y 3, aI V 4 fy3), (y 9, aI V 900 fy9), (y 19, .inr (4, o4_rrrrrr (y 2) (y 20) (y 21) (y 22) (y 23) (y 24))), (y 20, aI V 2000 fy20), (y 21, aI V 6 fy21), (y 22, aI V 64 fy22), (y 0, .inr (9, o9_rirrrrrrrrnviii (y 1) py0_1 (y 2) (y 10) (y 19) (y 25) (y 26) (y 30) (y 31) (y 32) o11 py0_12 py0_13 py0_14)), (y 2, .inr (1, o1_iiiiiirrrrrrriiiii py2_0 py2_1 py2_2 py2_3 py2_4 py2_5 (y 3) (y 4) (y 5) (y 6) (y 7) (y 8) (y 9) py2_13 py2_14 py2_15 py2_16 py2_17)), (y 30, aT V 4 (va_up (va_up (va_up (va_up (fun _ => none) 0 (some (y 33))) 1 (some (y 35))) 2 (some (y 37))) 3 (some (y 39)))), (y 33, .inr (7, o7_rii (y 34) py33_1 py33_2)), (y 34, aJ V 40 fy34), (y 35, .inr (7, o7_rii (y 36) py35_1 py35_2)), (y 36, aJ V 40 fy36), (y 37, .inr (7, o7_rii (y 38) py37_1 py37_2)), (y 38, aJ V 40 fy38), (y 39, .inr (7, o7_rii (y 40) py39_1 py39_2)), (y 40, aJ V 40 fy40)] H := hP
    have hD := cpD hP hD
    have b_410 : iv 0 2147483647 a2 := iv_e2 (Int32.not_lt.mp c_119) (iv_c (0 : Int32) (a := 0) (b := 0) (by decide)) (iv_top a2) (by first | decide | omega)
    have b_411 : iv 0 3 a2 := iv_l1 (Int32.not_le.mp c_120) b_410 bpy2_1 (by first | decide | omega)
    have b_412 : iv 1 4 py2_1 := iv_l2 (Int32.not_le.mp c_120) b_410 bpy2_1 (by first | decide | omega)
    have b_413 : iv 2 2 a1 := iv_q c_121 (iv_c (2 : Int32) (a := 2) (b := 2) (by decide))
    have b_414 : iv 0 40 py37_1 := iv_e2 c_122 (iv_c (0 : Int32) (a := 0) (b := 0) (by decide)) bpy37_1 (by first | decide | omega)
    have b_415 : iv 1 40 py37_1 := iv_e2 (Int32.not_lt.mp c_123) (iv_c (1 : Int32) (a := 1) (b := 1) (by decide)) b_414 (by first | decide | omega)
    have b_416 : iv 1 8 py37_1 := iv_e1 c_124 b_415 (iv_c (8 : Int32) (a := 8) (b := 8) (by decide)) (by first | decide | omega)
    refine lv_istore (lv' := [(4, .int (-3)), (0, .ref (y 0)), (1, .int a1), (2, .int a2), (3, .int a3)]) hx hb dX9_fogs_7 hl (by decide) rfl (fun ls hl => ?_)
    refine lv_iload hx hb dX9_fogs_9 (lv_at hl 0 rfl) ?_
    refine lv_if_eq (tgt := 17) hx hb dX9_fogs_11 (by decide) (fun c_418 => absurd c_418 (by decide)) (fun _ => ?_)
    refine lv_iload hx hb dX9_fogs_14 (lv_at hl 0 rfl) ?_
    have z_0 := Int32.le_iff_toInt_le.mp (Int32.not_lt.mp c_117)
    have z_1 := Int32.lt_iff_toInt_lt.mp (Int32.not_le.mp c_118)
    have z_2 := Int32.le_iff_toInt_le.mp (Int32.not_lt.mp c_119)
    have z_3 := Int32.lt_iff_toInt_lt.mp (Int32.not_le.mp c_120)
    have z_4 := congrArg Int32.toInt c_121
    have z_5 := Int32.le_iff_toInt_le.mp c_122
    have z_6 := Int32.le_iff_toInt_le.mp (Int32.not_lt.mp c_123)
    have z_7 := Int32.le_iff_toInt_le.mp c_124
    have k_0 : (0 : Int32).toInt = 0 := (by decide)
    have k_1 : (1 : Int32).toInt = 1 := (by decide)
    have k_2 : (2 : Int32).toInt = 2 := (by decide)
    have k_4 : (4 : Int32).toInt = 4 := (by decide)
    have k_8 : (8 : Int32).toInt = 8 := (by decide)
    exfalso
    have g_0 := hf0
    have g_1 := hf1
    have g_2 := hf2
    exact absurd (g_125.trans g_0) (by decide)
  · have hP : va_P V.1 vwCl [(y 3, aI V 4 fy3), (y 9, aI V 900 fy9), (y 19, .inr (4, o4_rrrrrr (y 2) (y 20) (y 21) (y 22) (y 23) (y 24))), (y 20, aI V 2000 fy20), (y 21, aI V 6 fy21), (y 22, aI V 64 fy22), (y 0, .inr (9, o9_rirrrrrrrrnviii (y 1) py0_1 (y 2) (y 10) (y 19) (y 25) (y 26) (y 30) (y 31) (y 32) o11 py0_12 py0_13 py0_14)), (y 2, .inr (1, o1_iiiiiirrrrrrriiiii py2_0 py2_1 py2_2 py2_3 py2_4 py2_5 (y 3) (y 4) (y 5) (y 6) (y 7) (y 8) (y 9) py2_13 py2_14 py2_15 py2_16 py2_17)), (y 30, aT V 4 (va_up (va_up (va_up (va_up (fun _ => none) 0 (some (y 33))) 1 (some (y 35))) 2 (some (y 37))) 3 (some (y 39)))), (y 33, .inr (7, o7_rii (y 34) py33_1 py33_2)), (y 34, aJ V 40 fy34), (y 35, .inr (7, o7_rii (y 36) py35_1 py35_2)), (y 36, aJ V 40 fy36), (y 37, .inr (7, o7_rii (y 38) py37_1 py37_2)), (y 38, aJ V 40 fy38), (y 39, .inr (7, o7_rii (y 40) py39_1 py39_2)), (y 40, aJ V 40 fy40)] H := hP
    have hD := cpD hP hD
    have b_419 : iv 0 2147483647 a2 := iv_e2 (Int32.not_lt.mp c_128) (iv_c (0 : Int32) (a := 0) (b := 0) (by decide)) (iv_top a2) (by first | decide | omega)
    have b_420 : iv 0 3 a2 := iv_l1 (Int32.not_le.mp c_129) b_419 bpy2_1 (by first | decide | omega)
    have b_421 : iv 1 4 py2_1 := iv_l2 (Int32.not_le.mp c_129) b_419 bpy2_1 (by first | decide | omega)
    have b_422 : iv 2 2 a1 := iv_q c_130 (iv_c (2 : Int32) (a := 2) (b := 2) (by decide))
    have b_423 : iv 0 40 py37_1 := iv_e2 c_131 (iv_c (0 : Int32) (a := 0) (b := 0) (by decide)) bpy37_1 (by first | decide | omega)
    have b_424 : iv 1 40 py37_1 := iv_e2 (Int32.not_lt.mp c_132) (iv_c (1 : Int32) (a := 1) (b := 1) (by decide)) b_423 (by first | decide | omega)
    have b_425 : iv 9 40 py37_1 := iv_l2 (Int32.not_le.mp c_133) (iv_c (8 : Int32) (a := 8) (b := 8) (by decide)) b_424 (by first | decide | omega)
    refine lv_istore (lv' := [(4, .int (-4)), (0, .ref (y 0)), (1, .int a1), (2, .int a2), (3, .int a3)]) hx hb dX9_fogs_7 hl (by decide) rfl (fun ls hl => ?_)
    refine lv_iload hx hb dX9_fogs_9 (lv_at hl 0 rfl) ?_
    refine lv_if_eq (tgt := 17) hx hb dX9_fogs_11 (by decide) (fun c_427 => absurd c_427 (by decide)) (fun _ => ?_)
    refine lv_iload hx hb dX9_fogs_14 (lv_at hl 0 rfl) ?_
    have z_0 := Int32.le_iff_toInt_le.mp (Int32.not_lt.mp c_126)
    have z_1 := Int32.lt_iff_toInt_lt.mp (Int32.not_le.mp c_127)
    have z_2 := Int32.le_iff_toInt_le.mp (Int32.not_lt.mp c_128)
    have z_3 := Int32.lt_iff_toInt_lt.mp (Int32.not_le.mp c_129)
    have z_4 := congrArg Int32.toInt c_130
    have z_5 := Int32.le_iff_toInt_le.mp c_131
    have z_6 := Int32.le_iff_toInt_le.mp (Int32.not_lt.mp c_132)
    have z_7 := Int32.lt_iff_toInt_lt.mp (Int32.not_le.mp c_133)
    have k_0 : (0 : Int32).toInt = 0 := (by decide)
    have k_1 : (1 : Int32).toInt = 1 := (by decide)
    have k_2 : (2 : Int32).toInt = 2 := (by decide)
    have k_4 : (4 : Int32).toInt = 4 := (by decide)
    have k_8 : (8 : Int32).toInt = 8 := (by decide)
    exfalso
    have g_0 := hf0
    have g_1 := hf1
    have g_2 := hf2
    exact absurd (g_134.trans g_0) (by decide)
  · have hP : va_P V.1 vwCl [(y 3, aI V 4 fy3), (y 9, aI V 900 fy9), (y 19, .inr (4, o4_rrrrrr (y 2) (y 20) (y 21) (y 22) (y 23) (y 24))), (y 20, aI V 2000 fy20), (y 21, aI V 6 fy21), (y 22, aI V 64 fy22), (y 0, .inr (9, o9_rirrrrrrrrnviii (y 1) py0_1 (y 2) (y 10) (y 19) (y 25) (y 26) (y 30) (y 31) (y 32) o11 py0_12 py0_13 py0_14)), (y 2, .inr (1, o1_iiiiiirrrrrrriiiii py2_0 py2_1 py2_2 py2_3 py2_4 py2_5 (y 3) (y 4) (y 5) (y 6) (y 7) (y 8) (y 9) py2_13 py2_14 py2_15 py2_16 py2_17)), (y 30, aT V 4 (va_up (va_up (va_up (va_up (fun _ => none) 0 (some (y 33))) 1 (some (y 35))) 2 (some (y 37))) 3 (some (y 39)))), (y 33, .inr (7, o7_rii (y 34) py33_1 py33_2)), (y 34, aJ V 40 fy34), (y 35, .inr (7, o7_rii (y 36) py35_1 py35_2)), (y 36, aJ V 40 fy36), (y 37, .inr (7, o7_rii (y 38) py37_1 py37_2)), (y 38, aJ V 40 fy38), (y 39, .inr (7, o7_rii (y 40) py39_1 py39_2)), (y 40, aJ V 40 fy40)] H := hP
    have hD := cpD hP hD
    have b_428 : iv 0 2147483647 a2 := iv_e2 (Int32.not_lt.mp c_137) (iv_c (0 : Int32) (a := 0) (b := 0) (by decide)) (iv_top a2) (by first | decide | omega)
    have b_429 : iv 0 3 a2 := iv_l1 (Int32.not_le.mp c_138) b_428 bpy2_1 (by first | decide | omega)
    have b_430 : iv 1 4 py2_1 := iv_l2 (Int32.not_le.mp c_138) b_428 bpy2_1 (by first | decide | omega)
    have b_431 : iv 2 2 a1 := iv_q c_139 (iv_c (2 : Int32) (a := 2) (b := 2) (by decide))
    have b_432 : iv (-1) (-1) py37_1 := iv_l1 (Int32.not_le.mp c_140) bpy37_1 (iv_c (0 : Int32) (a := 0) (b := 0) (by decide)) (by first | decide | omega)
    refine lv_istore (lv' := [(4, .int (-6)), (0, .ref (y 0)), (1, .int a1), (2, .int a2), (3, .int a3)]) hx hb dX9_fogs_7 hl (by decide) rfl (fun ls hl => ?_)
    refine lv_iload hx hb dX9_fogs_9 (lv_at hl 0 rfl) ?_
    refine lv_if_eq (tgt := 17) hx hb dX9_fogs_11 (by decide) (fun c_434 => absurd c_434 (by decide)) (fun _ => ?_)
    refine lv_iload hx hb dX9_fogs_14 (lv_at hl 0 rfl) ?_
    have z_0 := Int32.le_iff_toInt_le.mp (Int32.not_lt.mp c_135)
    have z_1 := Int32.lt_iff_toInt_lt.mp (Int32.not_le.mp c_136)
    have z_2 := Int32.le_iff_toInt_le.mp (Int32.not_lt.mp c_137)
    have z_3 := Int32.lt_iff_toInt_lt.mp (Int32.not_le.mp c_138)
    have z_4 := congrArg Int32.toInt c_139
    have z_5 := Int32.lt_iff_toInt_lt.mp (Int32.not_le.mp c_140)
    have k_0 : (0 : Int32).toInt = 0 := (by decide)
    have k_2 : (2 : Int32).toInt = 2 := (by decide)
    have k_4 : (4 : Int32).toInt = 4 := (by decide)
    exfalso
    have g_0 := hf0
    have g_1 := hf1
    have g_2 := hf2
    exact absurd (g_141.trans g_0) (by decide)
  · have hP : va_P V.1 vwCl [(y 3, aI V 4 fy3), (y 9, aI V 900 fy9), (y 19, .inr (4, o4_rrrrrr (y 2) (y 20) (y 21) (y 22) (y 23) (y 24))), (y 20, aI V 2000 fy20), (y 21, aI V 6 fy21), (y 22, aI V 64 fy22), (y 0, .inr (9, o9_rirrrrrrrrnviii (y 1) py0_1 (y 2) (y 10) (y 19) (y 25) (y 26) (y 30) (y 31) (y 32) o11 py0_12 py0_13 py0_14)), (y 2, .inr (1, o1_iiiiiirrrrrrriiiii py2_0 py2_1 py2_2 py2_3 py2_4 py2_5 (y 3) (y 4) (y 5) (y 6) (y 7) (y 8) (y 9) py2_13 py2_14 py2_15 py2_16 py2_17)), (y 30, aT V 4 (va_up (va_up (va_up (va_up (fun _ => none) 0 (some (y 33))) 1 (some (y 35))) 2 (some (y 37))) 3 (some (y 39)))), (y 33, .inr (7, o7_rii (y 34) py33_1 py33_2)), (y 34, aJ V 40 fy34), (y 35, .inr (7, o7_rii (y 36) py35_1 py35_2)), (y 36, aJ V 40 fy36), (y 37, .inr (7, o7_rii (y 38) py37_1 py37_2)), (y 38, aJ V 40 fy38), (y 39, .inr (7, o7_rii (y 40) py39_1 py39_2)), (y 40, aJ V 40 fy40)] H := hP
    have hD := cpD hP hD
    have b_435 : iv 0 2147483647 a2 := iv_e2 (Int32.not_lt.mp c_144) (iv_c (0 : Int32) (a := 0) (b := 0) (by decide)) (iv_top a2) (by first | decide | omega)
    have b_436 : iv 0 3 a2 := iv_l1 (Int32.not_le.mp c_145) b_435 bpy2_1 (by first | decide | omega)
    have b_437 : iv 1 4 py2_1 := iv_l2 (Int32.not_le.mp c_145) b_435 bpy2_1 (by first | decide | omega)
    have b_438 : iv 3 3 a1 := iv_q c_146 (iv_c (3 : Int32) (a := 3) (b := 3) (by decide))
    have b_439 : iv 0 40 py39_1 := iv_e2 c_147 (iv_c (0 : Int32) (a := 0) (b := 0) (by decide)) bpy39_1 (by first | decide | omega)
    have b_440 : iv 0 0 py39_1 := iv_l1 c_148 b_439 (iv_c (1 : Int32) (a := 1) (b := 1) (by decide)) (by first | decide | omega)
    refine lv_istore (lv' := [(4, .int (-4)), (0, .ref (y 0)), (1, .int a1), (2, .int a2), (3, .int a3)]) hx hb dX9_fogs_7 hl (by decide) rfl (fun ls hl => ?_)
    refine lv_iload hx hb dX9_fogs_9 (lv_at hl 0 rfl) ?_
    refine lv_if_eq (tgt := 17) hx hb dX9_fogs_11 (by decide) (fun c_442 => absurd c_442 (by decide)) (fun _ => ?_)
    refine lv_iload hx hb dX9_fogs_14 (lv_at hl 0 rfl) ?_
    have z_0 := Int32.le_iff_toInt_le.mp (Int32.not_lt.mp c_142)
    have z_1 := Int32.lt_iff_toInt_lt.mp (Int32.not_le.mp c_143)
    have z_2 := Int32.le_iff_toInt_le.mp (Int32.not_lt.mp c_144)
    have z_3 := Int32.lt_iff_toInt_lt.mp (Int32.not_le.mp c_145)
    have z_4 := congrArg Int32.toInt c_146
    have z_5 := Int32.le_iff_toInt_le.mp c_147
    have z_6 := Int32.lt_iff_toInt_lt.mp c_148
    have k_0 : (0 : Int32).toInt = 0 := (by decide)
    have k_1 : (1 : Int32).toInt = 1 := (by decide)
    have k_3 : (3 : Int32).toInt = 3 := (by decide)
    have k_4 : (4 : Int32).toInt = 4 := (by decide)
    exfalso
    have g_0 := hf0
    have g_1 := hf1
    have g_2 := hf2
    exact absurd (g_149.trans g_0) (by decide)
  · have hP : va_P V.1 vwCl [(y 3, aI V 4 fy3), (y 9, aI V 900 fy9), (y 19, .inr (4, o4_rrrrrr (y 2) (y 20) (y 21) (y 22) (y 23) (y 24))), (y 20, aI V 2000 fy20), (y 21, aI V 6 fy21), (y 22, aI V 64 fy22), (y 0, .inr (9, o9_rirrrrrrrrnviii (y 1) py0_1 (y 2) (y 10) (y 19) (y 25) (y 26) (y 30) (y 31) (y 32) o11 py0_12 py0_13 py0_14)), (y 2, .inr (1, o1_iiiiiirrrrrrriiiii py2_0 py2_1 py2_2 py2_3 py2_4 py2_5 (y 3) (y 4) (y 5) (y 6) (y 7) (y 8) (y 9) py2_13 py2_14 py2_15 py2_16 py2_17)), (y 30, aT V 4 (va_up (va_up (va_up (va_up (fun _ => none) 0 (some (y 33))) 1 (some (y 35))) 2 (some (y 37))) 3 (some (y 39)))), (y 33, .inr (7, o7_rii (y 34) py33_1 py33_2)), (y 34, aJ V 40 fy34), (y 35, .inr (7, o7_rii (y 36) py35_1 py35_2)), (y 36, aJ V 40 fy36), (y 37, .inr (7, o7_rii (y 38) py37_1 py37_2)), (y 38, aJ V 40 fy38), (y 39, .inr (7, o7_rii (y 40) py39_1 py39_2)), (y 40, aJ V 40 fy40)] H := hP
    have hD := cpD hP hD
    have b_443 : iv 0 2147483647 a2 := iv_e2 (Int32.not_lt.mp c_152) (iv_c (0 : Int32) (a := 0) (b := 0) (by decide)) (iv_top a2) (by first | decide | omega)
    have b_444 : iv 0 3 a2 := iv_l1 (Int32.not_le.mp c_153) b_443 bpy2_1 (by first | decide | omega)
    have b_445 : iv 1 4 py2_1 := iv_l2 (Int32.not_le.mp c_153) b_443 bpy2_1 (by first | decide | omega)
    have b_446 : iv 3 3 a1 := iv_q c_154 (iv_c (3 : Int32) (a := 3) (b := 3) (by decide))
    have b_447 : iv 0 40 py39_1 := iv_e2 c_155 (iv_c (0 : Int32) (a := 0) (b := 0) (by decide)) bpy39_1 (by first | decide | omega)
    have b_448 : iv 1 40 py39_1 := iv_e2 (Int32.not_lt.mp c_156) (iv_c (1 : Int32) (a := 1) (b := 1) (by decide)) b_447 (by first | decide | omega)
    have b_449 : iv 1 8 py39_1 := iv_e1 c_157 b_448 (iv_c (8 : Int32) (a := 8) (b := 8) (by decide)) (by first | decide | omega)
    refine lv_istore (lv' := [(4, .int 0), (0, .ref (y 0)), (1, .int a1), (2, .int a2), (3, .int a3)]) hx hb dX9_fogs_7 hl (by decide) rfl (fun ls hl => ?_)
    refine lv_iload hx hb dX9_fogs_9 (lv_at hl 0 rfl) ?_
    refine lv_if_eq (tgt := 17) hx hb dX9_fogs_11 (by decide) (fun _ => ?_) (fun c_451 => absurd c_451 (by decide))
    refine lv_iload_n hx hb dX9_fogs_17 rfl (lv_at hl 4 rfl) ?_
    refine lv_if_ge (tgt := 24) hx hb dX9_fogs_18 (by decide) (fun c_452 => ?_) (fun c_452 => ?_)
    · have b_453 : iv 0 2147483647 a3 := iv_e2 c_452 (iv_c (0 : Int32) (a := 0) (b := 0) (by decide)) (iv_top a3) (by first | decide | omega)
      refine lv_iload_n hx hb dX9_fogs_24 rfl (lv_at hl 4 rfl) ?_
      refine lv_aload_n hx hb dX9_fogs_25 rfl (lv_at hl 1 rfl) ?_
      refine va_get (ci := 9) (v := .ref (y 30)) (C := RX9) (T := TX9) (N := 15) hx hb hg inX9 hown hK hP 6 rfl rfl 7 (by decide) (hg _ q_2_43) (fun _ h9 => h9) rfl dX9_fogs_26 ?_
      refine lv_iload_n hx hb dX9_fogs_29 rfl (lv_at hl 2 rfl) ?_
      have c_454 : a1 = 3 := by have q9 := b_446; unfold iv at q9; simp only [tI_eq, (by decide : (3 : Int32).toInt = 3)]; omega
      rcases c_454 with rfl
      · refine va_aldq hx hb hK hP 8 4 rfl rfl (vin (by decide +kernel)) dX9_fogs_30 ?_
        refine W.eq (g2 := F0 m 31 ls (.ref (y 39) :: .int a3 :: [])) rfl ?_
        refine va_get (ci := 7) (v := .int py39_1) (C := RX7) (T := TX7) (N := 3) hx hb hg inX7 hown hK hP 15 rfl rfl 1 (by decide) (hg _ q_2_2) (fun _ h9 => h9) rfl dX9_fogs_31 ?_
        refine lv_icmp_lt (tgt := 40) hx hb dX9_fogs_34 (by decide) (fun c_455 => ?_) (fun c_455 => ?_)
        · have b_456 : iv 0 7 a3 := iv_l1 c_455 b_453 b_449 (by first | decide | omega)
          refine lv_aload_n hx hb dX9_fogs_40 rfl (lv_at hl 1 rfl) ?_
          refine lv_aload_n hx hb dX9_fogs_41 rfl (lv_at hl 1 rfl) ?_
          refine va_get (ci := 9) (v := .ref (y 30)) (C := RX9) (T := TX9) (N := 15) hx hb hg inX9 hown hK hP 6 rfl rfl 7 (by decide) (hg _ q_2_43) (fun _ h9 => h9) rfl dX9_fogs_42 ?_
          refine lv_iload_n hx hb dX9_fogs_45 rfl (lv_at hl 2 rfl) ?_
          refine va_aldq hx hb hK hP 8 4 rfl rfl (vin (by decide +kernel)) dX9_fogs_46 ?_
          refine W.eq (g2 := F0 m 47 ls (.ref (y 39) :: .ref (y 0) :: [])) rfl ?_
          refine va_get (ci := 7) (v := .int py39_1) (C := RX7) (T := TX7) (N := 3) hx hb hg inX7 hown hK hP 15 rfl rfl 1 (by decide) (hg _ q_2_2) (fun _ h9 => h9) rfl dX9_fogs_47 ?_
          refine jnR (wr := [(y 30, aT V 4 (va_up (va_up (va_up (va_up (fun _ => none) 0 (some (y 33))) 1 (some (y 35))) 2 (some (y 37))) 3 (some (y 39)))), (y 33, .inr (7, o7_rii (y 34) py33_1 py33_2)), (y 34, aJ V 40 fy34), (y 35, .inr (7, o7_rii (y 36) py35_1 py35_2)), (y 36, aJ V 40 fy36), (y 37, .inr (7, o7_rii (y 38) py37_1 py37_2)), (y 38, aJ V 40 fy38), (y 39, .inr (7, o7_rii (y 40) py39_1 py39_2)), (y 40, aJ V 40 fy40)]) (rnV (rest := []) ⟨hx, hb, hml, hown, hg⟩ (k_X9_waysFromNow_1 l V y D9 py39_1 fy3 fy9 fy20 fy21 fy22 py0_1 o11 py0_12 py0_13 py0_14 py2_0 py2_1 py2_2 py2_3 py2_4 py2_5 py2_13 py2_14 py2_15 py2_16 py2_17 tfy20 bpy0_1 bpy0_12 bpy0_13 (iv_w b_445 (by first | decide | omega)) bpy2_2 bpy2_3 bpy2_4 bpy2_5 bpy2_13 bpy2_14 bpy2_15 bpy2_16 bpy2_17 hL9 hK9) mt_X9_waysFromNow q_4_52 ⟨Nat.le_of_ble_eq_true rfl, Nat.le_of_ble_eq_true rfl⟩ hK hP hD hS hA hE [0, 1, 2, 3, 4, 5, 6, 7] rfl rfl 6 rfl rfl rfl rfl hl.1 rfl (Nat.le_of_ble_eq_true rfl) dX9_fogs_50 ⟨Nat.le_of_ble_eq_true rfl, Nat.le_of_ble_eq_true rfl⟩) hP hD hS hA [0, 1, 2, 3, 4, 5, 6, 7] [8, 9, 10, 11, 12, 13, 14, 15, 16] rfl rfl rfl (by decide) (fun r_457 w H locs hw hP hD hS => ?_)
          refine W.widen (k := 10) (n := 46481) (Nat.le_of_ble_eq_true rfl) (Nat.le_of_ble_eq_true rfl) ?_
          obtain ⟨n, L, Yw, wa_458, wb_459, f_460, f_461, f_462, v_463, v_464, v_465, v_466, v_467, v_468, f_469, f_470, f_471, f_472, f_473, f_474, f_475, f_476, f_477, hn, hL, tf_460, bv_463, bv_464, bv_465, bv_466, bv_467, bv_468, tf_469, tf_472, tf_473, tf_474, tf_475, eW, g_478, g_479, g_480, g_481, g_482, kn_483, rfl⟩ := hw
          have hP : va_P V.1 vwCl [(y 30, aT V 4 (va_up (va_up (va_up (va_up (fun _ => none) 0 (some (y 33))) 1 (some (y 35))) 2 (some (y 37))) 3 (some (y 39)))), (y 33, .inr (7, o7_rii (y 34) py33_1 py33_2)), (y 34, aJ V 40 fy34), (y 35, .inr (7, o7_rii (y 36) py35_1 py35_2)), (y 36, aJ V 40 fy36), (y 37, .inr (7, o7_rii (y 38) py37_1 py37_2)), (y 38, aJ V 40 fy38), (y 39, .inr (7, o7_rii (y 40) py39_1 py39_2)), (y 40, aJ V 40 fy40), (y 3, aI V 4 fy3), (y 9, aI V 900 fy9), (y 19, .inr (4, o4_rrrrrr (y 2) (y 20) (y 21) (y 22) (y 23) (y 24))), (y 20, aI V 2000 f_460), (y 21, aI V 6 f_461), (y 22, aI V 64 f_462), (y 0, .inr (9, o9_rirrrrrrrrrviii (y 1) py0_1 (y 2) (y 10) (y 19) (y 25) (y 26) (y 30) (y 31) (y 32) (Yw 0) o11 py0_12 py0_13 py0_14)), (y 2, .inr (1, o1_iiiiiirrrrrrriiiii py2_0 py2_1 py2_2 py2_3 py2_4 py2_5 (y 3) (y 4) (y 5) (y 6) (y 7) (y 8) (y 9) py2_13 py2_14 py2_15 py2_16 py2_17)), (Yw 0, .inr (8, o8_iirrriirrrrrrriii v_463 (nI n) (Yw 1) (Yw 2) wa_458 v_464 v_465 (y 19) (Yw 4) (Yw 5) (Yw 6) (Yw 7) (Yw 8) wb_459 v_466 v_467 v_468)), (Yw 1, aI V n f_469), (Yw 2, aI V n f_470), (wa_458, aI V n f_471), (Yw 4, aI V L f_472), (Yw 5, aI V n f_473), (Yw 6, aI V (n * 4) f_474), (Yw 7, aI V n f_475), (Yw 8, aI V 4 f_476), (wb_459, aI V n f_477)] H := hP
          have hD := cpD hP hD
          rw [← eW]
          refine lv_astore (lv' := [(5, .ref (Yw 0)), (4, .int 0), (0, .ref (y 0)), (1, .int 3), (2, .int a2), (3, .int a3)]) hx hb dX9_fogs_53 hl (by decide) rfl (fun ls hl => ?_)
          refine lv_aload hx hb dX9_fogs_55 (lv_at hl 0 rfl) ?_
          refine lv_aload_n hx hb dX9_fogs_57 rfl (lv_at hl 2 rfl) ?_
          refine va_get (ci := 9) (v := .ref (y 30)) (C := RX9) (T := TX9) (N := 15) hx hb hg inX9 hown hK hP 15 rfl rfl 7 (by decide) (hg _ q_2_43) (fun _ h9 => h9) rfl dX9_fogs_58 ?_
          refine lv_iload_n hx hb dX9_fogs_61 rfl (lv_at hl 3 rfl) ?_
          refine va_aldq hx hb hK hP 0 4 rfl rfl (vin (by decide +kernel)) dX9_fogs_62 ?_
          refine W.eq (g2 := F0 m 63 ls (.ref (y 39) :: .ref (Yw 0) :: [])) rfl ?_
          refine lv_iload_n hx hb dX9_fogs_63 rfl (lv_at hl 4 rfl) ?_
          refine jnV (wr := [(y 30, aT V 4 (va_up (va_up (va_up (va_up (fun _ => none) 0 (some (y 33))) 1 (some (y 35))) 2 (some (y 37))) 3 (some (y 39)))), (y 33, .inr (7, o7_rii (y 34) py33_1 py33_2)), (y 34, aJ V 40 fy34), (y 35, .inr (7, o7_rii (y 36) py35_1 py35_2)), (y 36, aJ V 40 fy36), (y 37, .inr (7, o7_rii (y 38) py37_1 py37_2)), (y 38, aJ V 40 fy38), (y 3, aI V 4 fy3), (y 9, aI V 900 fy9), (y 19, .inr (4, o4_rrrrrr (y 2) (y 20) (y 21) (y 22) (y 23) (y 24))), (y 20, aI V 2000 f_460), (y 21, aI V 6 f_461), (y 22, aI V 64 f_462), (y 0, .inr (9, o9_rirrrrrrrrrviii (y 1) py0_1 (y 2) (y 10) (y 19) (y 25) (y 26) (y 30) (y 31) (y 32) (Yw 0) o11 py0_12 py0_13 py0_14)), (y 2, .inr (1, o1_iiiiiirrrrrrriiiii py2_0 py2_1 py2_2 py2_3 py2_4 py2_5 (y 3) (y 4) (y 5) (y 6) (y 7) (y 8) (y 9) py2_13 py2_14 py2_15 py2_16 py2_17)), (Yw 4, aI V L f_472), (Yw 5, aI V n f_473), (Yw 7, aI V n f_475), (Yw 8, aI V 4 f_476), (wb_459, aI V n f_477)]) (rnV (rest := []) ⟨hx, hb, hml, hown, hg⟩ (k_X8_traceTold_3 l V n L Yw y a2 f_471 py39_1 py39_2 fy40 v_463 wa_458 v_464 v_465 wb_459 v_466 v_467 v_468 f_469 f_470 f_474 hn hL b_444 (iv_w b_449 (by first | decide | omega)) bv_463 bv_464 bv_465 bv_466 bv_467 bv_468 tf_469 tf_474) mt_X8_traceTold q_5_39 ⟨Nat.le_of_ble_eq_true rfl, Nat.le_of_ble_eq_true rfl⟩ hK hP hD hS hA hE [20, 7, 8, 17, 18, 19, 23] rfl rfl 17 rfl rfl rfl rfl hl.1 rfl (Nat.le_of_ble_eq_true rfl) dX9_fogs_64 ⟨Nat.le_of_ble_eq_true rfl, Nat.le_of_ble_eq_true rfl⟩) hP hD hS hA [20, 7, 8, 17, 18, 19, 23] [0, 1, 2, 3, 4, 5, 6, 9, 10, 11, 12, 13, 14, 15, 16, 21, 22, 24, 25, 26] rfl rfl rfl (by decide) (fun  w H locs hw hP hD hS => ?_)
          obtain ⟨f_484, rfl⟩ := hw
          have hP : va_P V.1 vwCl [(y 30, aT V 4 (va_up (va_up (va_up (va_up (fun _ => none) 0 (some (y 33))) 1 (some (y 35))) 2 (some (y 37))) 3 (some (y 39)))), (y 33, .inr (7, o7_rii (y 34) py33_1 py33_2)), (y 34, aJ V 40 fy34), (y 35, .inr (7, o7_rii (y 36) py35_1 py35_2)), (y 36, aJ V 40 fy36), (y 37, .inr (7, o7_rii (y 38) py37_1 py37_2)), (y 38, aJ V 40 fy38), (y 3, aI V 4 fy3), (y 9, aI V 900 fy9), (y 19, .inr (4, o4_rrrrrr (y 2) (y 20) (y 21) (y 22) (y 23) (y 24))), (y 20, aI V 2000 f_460), (y 21, aI V 6 f_461), (y 22, aI V 64 f_462), (y 0, .inr (9, o9_rirrrrrrrrrviii (y 1) py0_1 (y 2) (y 10) (y 19) (y 25) (y 26) (y 30) (y 31) (y 32) (Yw 0) o11 py0_12 py0_13 py0_14)), (y 2, .inr (1, o1_iiiiiirrrrrrriiiii py2_0 py2_1 py2_2 py2_3 py2_4 py2_5 (y 3) (y 4) (y 5) (y 6) (y 7) (y 8) (y 9) py2_13 py2_14 py2_15 py2_16 py2_17)), (Yw 4, aI V L f_472), (Yw 5, aI V n f_473), (Yw 7, aI V n f_475), (Yw 8, aI V 4 f_476), (wb_459, aI V n f_477), (wa_458, aI V n f_484), (y 39, .inr (7, o7_rii (y 40) py39_1 py39_2)), (y 40, aJ V 40 fy40), (Yw 0, .inr (8, o8_iirrriirrrrrrriii v_463 (nI n) (Yw 1) (Yw 2) wa_458 v_464 v_465 (y 19) (Yw 4) (Yw 5) (Yw 6) (Yw 7) (Yw 8) wb_459 v_466 v_467 v_468)), (Yw 1, aI V n f_469), (Yw 2, aI V n f_470), (Yw 6, aI V (n * 4) f_474)] H := hP
          have hD := cpD hP hD
          refine lv_aload hx hb dX9_fogs_67 (lv_at hl 0 rfl) ?_
          refine lv_iload_n hx hb dX9_fogs_69 rfl (lv_at hl 5 rfl) ?_
          refine jnI (wr := [(y 30, aT V 4 (va_up (va_up (va_up (va_up (fun _ => none) 0 (some (y 33))) 1 (some (y 35))) 2 (some (y 37))) 3 (some (y 39)))), (y 33, .inr (7, o7_rii (y 34) py33_1 py33_2)), (y 34, aJ V 40 fy34), (y 35, .inr (7, o7_rii (y 36) py35_1 py35_2)), (y 36, aJ V 40 fy36), (y 37, .inr (7, o7_rii (y 38) py37_1 py37_2)), (y 38, aJ V 40 fy38), (y 3, aI V 4 fy3), (y 9, aI V 900 fy9), (y 19, .inr (4, o4_rrrrrr (y 2) (y 20) (y 21) (y 22) (y 23) (y 24))), (y 20, aI V 2000 f_460), (y 21, aI V 6 f_461), (y 22, aI V 64 f_462), (y 0, .inr (9, o9_rirrrrrrrrrviii (y 1) py0_1 (y 2) (y 10) (y 19) (y 25) (y 26) (y 30) (y 31) (y 32) (Yw 0) o11 py0_12 py0_13 py0_14)), (y 2, .inr (1, o1_iiiiiirrrrrrriiiii py2_0 py2_1 py2_2 py2_3 py2_4 py2_5 (y 3) (y 4) (y 5) (y 6) (y 7) (y 8) (y 9) py2_13 py2_14 py2_15 py2_16 py2_17)), (Yw 4, aI V L f_472), (Yw 5, aI V n f_473), (Yw 7, aI V n f_475), (Yw 8, aI V 4 f_476), (wb_459, aI V n f_477), (y 39, .inr (7, o7_rii (y 40) py39_1 py39_2)), (y 40, aJ V 40 fy40), (Yw 1, aI V n f_469)]) (rnV (rest := []) ⟨hx, hb, hml, hown, hg⟩ (k_X8_allTraced_0 l V n Yw y a3 v_463 wa_458 v_464 v_465 wb_459 v_466 v_467 v_468 f_470 f_484 f_474 hn (iv_w b_456 (by first | decide | omega)) bv_463 bv_464 bv_465 bv_466 bv_467 bv_468 tf_474) mt_X8_allTraced q_5_59 ⟨Nat.le_of_ble_eq_true rfl, Nat.le_of_ble_eq_true rfl⟩ hK hP hD hS hA hE [23, 25, 20, 26] rfl rfl 23 rfl rfl rfl rfl hl.1 rfl (Nat.le_of_ble_eq_true rfl) dX9_fogs_70 ⟨Nat.le_of_ble_eq_true rfl, Nat.le_of_ble_eq_true rfl⟩) hP hD hS hA [23, 25, 20, 26] [0, 1, 2, 3, 4, 5, 6, 7, 8, 9, 10, 11, 12, 13, 14, 15, 16, 17, 18, 19, 21, 22, 24] rfl rfl rfl (by decide) (fun r_485 w H locs hw hP hD hS => ?_)
          subst hw
          have hP : va_P V.1 vwCl [(y 30, aT V 4 (va_up (va_up (va_up (va_up (fun _ => none) 0 (some (y 33))) 1 (some (y 35))) 2 (some (y 37))) 3 (some (y 39)))), (y 33, .inr (7, o7_rii (y 34) py33_1 py33_2)), (y 34, aJ V 40 fy34), (y 35, .inr (7, o7_rii (y 36) py35_1 py35_2)), (y 36, aJ V 40 fy36), (y 37, .inr (7, o7_rii (y 38) py37_1 py37_2)), (y 38, aJ V 40 fy38), (y 3, aI V 4 fy3), (y 9, aI V 900 fy9), (y 19, .inr (4, o4_rrrrrr (y 2) (y 20) (y 21) (y 22) (y 23) (y 24))), (y 20, aI V 2000 f_460), (y 21, aI V 6 f_461), (y 22, aI V 64 f_462), (y 0, .inr (9, o9_rirrrrrrrrrviii (y 1) py0_1 (y 2) (y 10) (y 19) (y 25) (y 26) (y 30) (y 31) (y 32) (Yw 0) o11 py0_12 py0_13 py0_14)), (y 2, .inr (1, o1_iiiiiirrrrrrriiiii py2_0 py2_1 py2_2 py2_3 py2_4 py2_5 (y 3) (y 4) (y 5) (y 6) (y 7) (y 8) (y 9) py2_13 py2_14 py2_15 py2_16 py2_17)), (Yw 4, aI V L f_472), (Yw 5, aI V n f_473), (Yw 7, aI V n f_475), (Yw 8, aI V 4 f_476), (wb_459, aI V n f_477), (y 39, .inr (7, o7_rii (y 40) py39_1 py39_2)), (y 40, aJ V 40 fy40), (Yw 1, aI V n f_469), (Yw 0, .inr (8, o8_iirrriirrrrrrriii v_463 (nI n) (Yw 1) (Yw 2) wa_458 v_464 v_465 (y 19) (Yw 4) (Yw 5) (Yw 6) (Yw 7) (Yw 8) wb_459 v_466 v_467 v_468)), (Yw 2, aI V n f_470), (wa_458, aI V n f_484), (Yw 6, aI V (n * 4) f_474)] H := hP
          have hD := cpD hP hD
          have hP := subP (ws' := [(y 0, .inr (9, o9_rirrrrrrrrrviii (y 1) py0_1 (y 2) (y 10) (y 19) (y 25) (y 26) (y 30) (y 31) (y 32) (Yw 0) o11 py0_12 py0_13 py0_14)), (y 2, .inr (1, o1_iiiiiirrrrrrriiiii py2_0 py2_1 py2_2 py2_3 py2_4 py2_5 (y 3) (y 4) (y 5) (y 6) (y 7) (y 8) (y 9) py2_13 py2_14 py2_15 py2_16 py2_17)), (y 3, aI V 4 fy3), (y 9, aI V 900 fy9), (y 19, .inr (4, o4_rrrrrr (y 2) (y 20) (y 21) (y 22) (y 23) (y 24))), (y 20, aI V 2000 f_460), (y 21, aI V 6 f_461), (y 22, aI V 64 f_462), (y 30, aT V 4 (va_up (va_up (va_up (va_up (fun _ => none) 0 (some (y 33))) 1 (some (y 35))) 2 (some (y 37))) 3 (some (y 39)))), (y 33, .inr (7, o7_rii (y 34) py33_1 py33_2)), (y 34, aJ V 40 fy34), (y 35, .inr (7, o7_rii (y 36) py35_1 py35_2)), (y 36, aJ V 40 fy36), (y 37, .inr (7, o7_rii (y 38) py37_1 py37_2)), (y 38, aJ V 40 fy38), (y 39, .inr (7, o7_rii (y 40) py39_1 py39_2)), (y 40, aJ V 40 fy40), (Yw 4, aI V L f_472), (Yw 5, aI V n f_473), (Yw 7, aI V n f_475), (Yw 8, aI V 4 f_476), (wb_459, aI V n f_477), (Yw 1, aI V n f_469), (Yw 0, .inr (8, o8_iirrriirrrrrrriii v_463 (nI n) (Yw 1) (Yw 2) wa_458 v_464 v_465 (y 19) (Yw 4) (Yw 5) (Yw 6) (Yw 7) (Yw 8) wb_459 v_466 v_467 v_468)), (Yw 2, aI V n f_470), (wa_458, aI V n f_484), (Yw 6, aI V (n * 4) f_474)]) hP [13, 14, 7, 8, 9, 10, 11, 12, 0, 1, 2, 3, 4, 5, 6, 20, 21, 15, 16, 17, 18, 19, 22, 23, 24, 25, 26] rfl
          have hD := subD hP hD [13, 14, 7, 8, 9, 10, 11, 12, 0, 1, 2, 3, 4, 5, 6, 20, 21, 15, 16, 17, 18, 19, 22, 23, 24, 25, 26] rfl rfl
          exact fiI hx hb hr hlk hK (subP (ws' := [(y 0, .inr (9, o9_rirrrrrrrrrviii (y 1) py0_1 (y 2) (y 10) (y 19) (y 25) (y 26) (y 30) (y 31) (y 32) (Yw 0) o11 py0_12 py0_13 py0_14)), (y 2, .inr (1, o1_iiiiiirrrrrrriiiii py2_0 py2_1 py2_2 py2_3 py2_4 py2_5 (y 3) (y 4) (y 5) (y 6) (y 7) (y 8) (y 9) py2_13 py2_14 py2_15 py2_16 py2_17)), (y 3, aI V 4 fy3), (y 9, aI V 900 fy9), (y 19, .inr (4, o4_rrrrrr (y 2) (y 20) (y 21) (y 22) (y 23) (y 24))), (y 20, aI V 2000 f_460), (y 21, aI V 6 f_461), (y 22, aI V 64 f_462), (y 30, aT V 4 (va_up (va_up (va_up (va_up (fun _ => none) 0 (some (y 33))) 1 (some (y 35))) 2 (some (y 37))) 3 (some (y 39)))), (y 33, .inr (7, o7_rii (y 34) py33_1 py33_2)), (y 34, aJ V 40 fy34), (y 35, .inr (7, o7_rii (y 36) py35_1 py35_2)), (y 36, aJ V 40 fy36), (y 37, .inr (7, o7_rii (y 38) py37_1 py37_2)), (y 38, aJ V 40 fy38), (y 39, .inr (7, o7_rii (y 40) py39_1 py39_2)), (y 40, aJ V 40 fy40), (Yw 0, .inr (8, o8_iirrriirrrrrrriii v_463 (nI n) (Yw 1) (Yw 2) wa_458 v_464 v_465 (y 19) (Yw 4) (Yw 5) (Yw 6) (Yw 7) (Yw 8) wb_459 v_466 v_467 v_468)), (Yw 1, aI V n f_469), (Yw 2, aI V n f_470), (wa_458, aI V n f_484), (Yw 4, aI V L f_472), (Yw 5, aI V n f_473), (Yw 6, aI V (n * 4) f_474), (Yw 7, aI V n f_475), (Yw 8, aI V 4 f_476), (wb_459, aI V n f_477)]) hP [0, 1, 2, 3, 4, 5, 6, 7, 8, 9, 10, 11, 12, 13, 14, 15, 16, 23, 22, 24, 25, 17, 18, 26, 19, 20, 21] rfl) (hD.sub [0, 1, 2, 3, 4, 5, 6, 7, 8, 9, 10, 11, 12, 13, 14, 15, 16, 23, 22, 24, 25, 17, 18, 26, 19, 20, 21] rfl rfl) hS dX9_fogs_73 (Nat.le_of_ble_eq_true rfl) (Nat.le_of_ble_eq_true rfl) (⟨n, L, Yw, wa_458, wb_459, f_460, f_461, f_462, v_463, v_464, v_465, v_466, v_467, v_468, f_469, f_470, f_484, f_472, f_473, f_474, f_475, f_476, f_477, hn, hL, tf_460, bv_463, bv_464, bv_465, bv_466, bv_467, bv_468, tf_469, tf_472, tf_473, tf_474, tf_475, g_478, g_479, g_480, g_482, kn_483, rfl⟩)
        · have b_486 : iv 1 2147483647 a3 := iv_e2 (Int32.not_lt.mp c_455) b_449 b_453 (by first | decide | omega)
          refine lv_bipush (v := (-7)) hx hb dX9_fogs_37 (by decide) ?_
          have z_0 := Int32.le_iff_toInt_le.mp (Int32.not_lt.mp c_150)
          have z_1 := Int32.lt_iff_toInt_lt.mp (Int32.not_le.mp c_151)
          have z_2 := Int32.le_iff_toInt_le.mp (Int32.not_lt.mp c_152)
          have z_3 := Int32.lt_iff_toInt_lt.mp (Int32.not_le.mp c_153)
          have z_4 := congrArg Int32.toInt c_154
          have z_5 := Int32.le_iff_toInt_le.mp c_155
          have z_6 := Int32.le_iff_toInt_le.mp (Int32.not_lt.mp c_156)
          have z_7 := Int32.le_iff_toInt_le.mp c_157
          have z_8 := Int32.le_iff_toInt_le.mp c_452
          have z_9 := Int32.le_iff_toInt_le.mp (Int32.not_lt.mp c_455)
          have k_0 : (0 : Int32).toInt = 0 := (by decide)
          have k_1 : (1 : Int32).toInt = 1 := (by decide)
          have k_3 : (3 : Int32).toInt = 3 := (by decide)
          have k_4 : (4 : Int32).toInt = 4 := (by decide)
          have k_8 : (8 : Int32).toInt = 8 := (by decide)
          exfalso
          have g_0 := hf0
          have g_1 := hf1
          have g_2 := hf2
          rw [cntF_3] at g_2
          omega
    · have b_487 : iv (-2147483648) (-1) a3 := iv_l1 (Int32.not_le.mp c_452) (iv_top a3) (iv_c (0 : Int32) (a := 0) (b := 0) (by decide)) (by first | decide | omega)
      refine lv_bipush (v := (-3)) hx hb dX9_fogs_21 (by decide) ?_
      have z_0 := Int32.le_iff_toInt_le.mp (Int32.not_lt.mp c_150)
      have z_1 := Int32.lt_iff_toInt_lt.mp (Int32.not_le.mp c_151)
      have z_2 := Int32.le_iff_toInt_le.mp (Int32.not_lt.mp c_152)
      have z_3 := Int32.lt_iff_toInt_lt.mp (Int32.not_le.mp c_153)
      have z_4 := congrArg Int32.toInt c_154
      have z_5 := Int32.le_iff_toInt_le.mp c_155
      have z_6 := Int32.le_iff_toInt_le.mp (Int32.not_lt.mp c_156)
      have z_7 := Int32.le_iff_toInt_le.mp c_157
      have z_8 := Int32.lt_iff_toInt_lt.mp (Int32.not_le.mp c_452)
      have k_0 : (0 : Int32).toInt = 0 := (by decide)
      have k_1 : (1 : Int32).toInt = 1 := (by decide)
      have k_3 : (3 : Int32).toInt = 3 := (by decide)
      have k_4 : (4 : Int32).toInt = 4 := (by decide)
      have k_8 : (8 : Int32).toInt = 8 := (by decide)
      exfalso
      have g_0 := hf0
      have g_1 := hf1
      have g_2 := hf2
      omega
  · have hP : va_P V.1 vwCl [(y 3, aI V 4 fy3), (y 9, aI V 900 fy9), (y 19, .inr (4, o4_rrrrrr (y 2) (y 20) (y 21) (y 22) (y 23) (y 24))), (y 20, aI V 2000 fy20), (y 21, aI V 6 fy21), (y 22, aI V 64 fy22), (y 0, .inr (9, o9_rirrrrrrrrnviii (y 1) py0_1 (y 2) (y 10) (y 19) (y 25) (y 26) (y 30) (y 31) (y 32) o11 py0_12 py0_13 py0_14)), (y 2, .inr (1, o1_iiiiiirrrrrrriiiii py2_0 py2_1 py2_2 py2_3 py2_4 py2_5 (y 3) (y 4) (y 5) (y 6) (y 7) (y 8) (y 9) py2_13 py2_14 py2_15 py2_16 py2_17)), (y 30, aT V 4 (va_up (va_up (va_up (va_up (fun _ => none) 0 (some (y 33))) 1 (some (y 35))) 2 (some (y 37))) 3 (some (y 39)))), (y 33, .inr (7, o7_rii (y 34) py33_1 py33_2)), (y 34, aJ V 40 fy34), (y 35, .inr (7, o7_rii (y 36) py35_1 py35_2)), (y 36, aJ V 40 fy36), (y 37, .inr (7, o7_rii (y 38) py37_1 py37_2)), (y 38, aJ V 40 fy38), (y 39, .inr (7, o7_rii (y 40) py39_1 py39_2)), (y 40, aJ V 40 fy40)] H := hP
    have hD := cpD hP hD
    have b_488 : iv 0 2147483647 a2 := iv_e2 (Int32.not_lt.mp c_161) (iv_c (0 : Int32) (a := 0) (b := 0) (by decide)) (iv_top a2) (by first | decide | omega)
    have b_489 : iv 0 3 a2 := iv_l1 (Int32.not_le.mp c_162) b_488 bpy2_1 (by first | decide | omega)
    have b_490 : iv 1 4 py2_1 := iv_l2 (Int32.not_le.mp c_162) b_488 bpy2_1 (by first | decide | omega)
    have b_491 : iv 3 3 a1 := iv_q c_163 (iv_c (3 : Int32) (a := 3) (b := 3) (by decide))
    have b_492 : iv 0 40 py39_1 := iv_e2 c_164 (iv_c (0 : Int32) (a := 0) (b := 0) (by decide)) bpy39_1 (by first | decide | omega)
    have b_493 : iv 1 40 py39_1 := iv_e2 (Int32.not_lt.mp c_165) (iv_c (1 : Int32) (a := 1) (b := 1) (by decide)) b_492 (by first | decide | omega)
    have b_494 : iv 1 8 py39_1 := iv_e1 c_166 b_493 (iv_c (8 : Int32) (a := 8) (b := 8) (by decide)) (by first | decide | omega)
    refine lv_istore (lv' := [(4, .int (-3)), (0, .ref (y 0)), (1, .int a1), (2, .int a2), (3, .int a3)]) hx hb dX9_fogs_7 hl (by decide) rfl (fun ls hl => ?_)
    refine lv_iload hx hb dX9_fogs_9 (lv_at hl 0 rfl) ?_
    refine lv_if_eq (tgt := 17) hx hb dX9_fogs_11 (by decide) (fun c_496 => absurd c_496 (by decide)) (fun _ => ?_)
    refine lv_iload hx hb dX9_fogs_14 (lv_at hl 0 rfl) ?_
    have z_0 := Int32.le_iff_toInt_le.mp (Int32.not_lt.mp c_159)
    have z_1 := Int32.lt_iff_toInt_lt.mp (Int32.not_le.mp c_160)
    have z_2 := Int32.le_iff_toInt_le.mp (Int32.not_lt.mp c_161)
    have z_3 := Int32.lt_iff_toInt_lt.mp (Int32.not_le.mp c_162)
    have z_4 := congrArg Int32.toInt c_163
    have z_5 := Int32.le_iff_toInt_le.mp c_164
    have z_6 := Int32.le_iff_toInt_le.mp (Int32.not_lt.mp c_165)
    have z_7 := Int32.le_iff_toInt_le.mp c_166
    have k_0 : (0 : Int32).toInt = 0 := (by decide)
    have k_1 : (1 : Int32).toInt = 1 := (by decide)
    have k_3 : (3 : Int32).toInt = 3 := (by decide)
    have k_4 : (4 : Int32).toInt = 4 := (by decide)
    have k_8 : (8 : Int32).toInt = 8 := (by decide)
    exfalso
    have g_0 := hf0
    have g_1 := hf1
    have g_2 := hf2
    exact absurd (g_167.trans g_0) (by decide)
  · have hP : va_P V.1 vwCl [(y 3, aI V 4 fy3), (y 9, aI V 900 fy9), (y 19, .inr (4, o4_rrrrrr (y 2) (y 20) (y 21) (y 22) (y 23) (y 24))), (y 20, aI V 2000 fy20), (y 21, aI V 6 fy21), (y 22, aI V 64 fy22), (y 0, .inr (9, o9_rirrrrrrrrnviii (y 1) py0_1 (y 2) (y 10) (y 19) (y 25) (y 26) (y 30) (y 31) (y 32) o11 py0_12 py0_13 py0_14)), (y 2, .inr (1, o1_iiiiiirrrrrrriiiii py2_0 py2_1 py2_2 py2_3 py2_4 py2_5 (y 3) (y 4) (y 5) (y 6) (y 7) (y 8) (y 9) py2_13 py2_14 py2_15 py2_16 py2_17)), (y 30, aT V 4 (va_up (va_up (va_up (va_up (fun _ => none) 0 (some (y 33))) 1 (some (y 35))) 2 (some (y 37))) 3 (some (y 39)))), (y 33, .inr (7, o7_rii (y 34) py33_1 py33_2)), (y 34, aJ V 40 fy34), (y 35, .inr (7, o7_rii (y 36) py35_1 py35_2)), (y 36, aJ V 40 fy36), (y 37, .inr (7, o7_rii (y 38) py37_1 py37_2)), (y 38, aJ V 40 fy38), (y 39, .inr (7, o7_rii (y 40) py39_1 py39_2)), (y 40, aJ V 40 fy40)] H := hP
    have hD := cpD hP hD
    have b_497 : iv 0 2147483647 a2 := iv_e2 (Int32.not_lt.mp c_170) (iv_c (0 : Int32) (a := 0) (b := 0) (by decide)) (iv_top a2) (by first | decide | omega)
    have b_498 : iv 0 3 a2 := iv_l1 (Int32.not_le.mp c_171) b_497 bpy2_1 (by first | decide | omega)
    have b_499 : iv 1 4 py2_1 := iv_l2 (Int32.not_le.mp c_171) b_497 bpy2_1 (by first | decide | omega)
    have b_500 : iv 3 3 a1 := iv_q c_172 (iv_c (3 : Int32) (a := 3) (b := 3) (by decide))
    have b_501 : iv 0 40 py39_1 := iv_e2 c_173 (iv_c (0 : Int32) (a := 0) (b := 0) (by decide)) bpy39_1 (by first | decide | omega)
    have b_502 : iv 1 40 py39_1 := iv_e2 (Int32.not_lt.mp c_174) (iv_c (1 : Int32) (a := 1) (b := 1) (by decide)) b_501 (by first | decide | omega)
    have b_503 : iv 9 40 py39_1 := iv_l2 (Int32.not_le.mp c_175) (iv_c (8 : Int32) (a := 8) (b := 8) (by decide)) b_502 (by first | decide | omega)
    refine lv_istore (lv' := [(4, .int (-4)), (0, .ref (y 0)), (1, .int a1), (2, .int a2), (3, .int a3)]) hx hb dX9_fogs_7 hl (by decide) rfl (fun ls hl => ?_)
    refine lv_iload hx hb dX9_fogs_9 (lv_at hl 0 rfl) ?_
    refine lv_if_eq (tgt := 17) hx hb dX9_fogs_11 (by decide) (fun c_505 => absurd c_505 (by decide)) (fun _ => ?_)
    refine lv_iload hx hb dX9_fogs_14 (lv_at hl 0 rfl) ?_
    have z_0 := Int32.le_iff_toInt_le.mp (Int32.not_lt.mp c_168)
    have z_1 := Int32.lt_iff_toInt_lt.mp (Int32.not_le.mp c_169)
    have z_2 := Int32.le_iff_toInt_le.mp (Int32.not_lt.mp c_170)
    have z_3 := Int32.lt_iff_toInt_lt.mp (Int32.not_le.mp c_171)
    have z_4 := congrArg Int32.toInt c_172
    have z_5 := Int32.le_iff_toInt_le.mp c_173
    have z_6 := Int32.le_iff_toInt_le.mp (Int32.not_lt.mp c_174)
    have z_7 := Int32.lt_iff_toInt_lt.mp (Int32.not_le.mp c_175)
    have k_0 : (0 : Int32).toInt = 0 := (by decide)
    have k_1 : (1 : Int32).toInt = 1 := (by decide)
    have k_3 : (3 : Int32).toInt = 3 := (by decide)
    have k_4 : (4 : Int32).toInt = 4 := (by decide)
    have k_8 : (8 : Int32).toInt = 8 := (by decide)
    exfalso
    have g_0 := hf0
    have g_1 := hf1
    have g_2 := hf2
    exact absurd (g_176.trans g_0) (by decide)
  · have hP : va_P V.1 vwCl [(y 3, aI V 4 fy3), (y 9, aI V 900 fy9), (y 19, .inr (4, o4_rrrrrr (y 2) (y 20) (y 21) (y 22) (y 23) (y 24))), (y 20, aI V 2000 fy20), (y 21, aI V 6 fy21), (y 22, aI V 64 fy22), (y 0, .inr (9, o9_rirrrrrrrrnviii (y 1) py0_1 (y 2) (y 10) (y 19) (y 25) (y 26) (y 30) (y 31) (y 32) o11 py0_12 py0_13 py0_14)), (y 2, .inr (1, o1_iiiiiirrrrrrriiiii py2_0 py2_1 py2_2 py2_3 py2_4 py2_5 (y 3) (y 4) (y 5) (y 6) (y 7) (y 8) (y 9) py2_13 py2_14 py2_15 py2_16 py2_17)), (y 30, aT V 4 (va_up (va_up (va_up (va_up (fun _ => none) 0 (some (y 33))) 1 (some (y 35))) 2 (some (y 37))) 3 (some (y 39)))), (y 33, .inr (7, o7_rii (y 34) py33_1 py33_2)), (y 34, aJ V 40 fy34), (y 35, .inr (7, o7_rii (y 36) py35_1 py35_2)), (y 36, aJ V 40 fy36), (y 37, .inr (7, o7_rii (y 38) py37_1 py37_2)), (y 38, aJ V 40 fy38), (y 39, .inr (7, o7_rii (y 40) py39_1 py39_2)), (y 40, aJ V 40 fy40)] H := hP
    have hD := cpD hP hD
    have b_506 : iv 0 2147483647 a2 := iv_e2 (Int32.not_lt.mp c_179) (iv_c (0 : Int32) (a := 0) (b := 0) (by decide)) (iv_top a2) (by first | decide | omega)
    have b_507 : iv 0 3 a2 := iv_l1 (Int32.not_le.mp c_180) b_506 bpy2_1 (by first | decide | omega)
    have b_508 : iv 1 4 py2_1 := iv_l2 (Int32.not_le.mp c_180) b_506 bpy2_1 (by first | decide | omega)
    have b_509 : iv 3 3 a1 := iv_q c_181 (iv_c (3 : Int32) (a := 3) (b := 3) (by decide))
    have b_510 : iv (-1) (-1) py39_1 := iv_l1 (Int32.not_le.mp c_182) bpy39_1 (iv_c (0 : Int32) (a := 0) (b := 0) (by decide)) (by first | decide | omega)
    refine lv_istore (lv' := [(4, .int (-6)), (0, .ref (y 0)), (1, .int a1), (2, .int a2), (3, .int a3)]) hx hb dX9_fogs_7 hl (by decide) rfl (fun ls hl => ?_)
    refine lv_iload hx hb dX9_fogs_9 (lv_at hl 0 rfl) ?_
    refine lv_if_eq (tgt := 17) hx hb dX9_fogs_11 (by decide) (fun c_512 => absurd c_512 (by decide)) (fun _ => ?_)
    refine lv_iload hx hb dX9_fogs_14 (lv_at hl 0 rfl) ?_
    have z_0 := Int32.le_iff_toInt_le.mp (Int32.not_lt.mp c_177)
    have z_1 := Int32.lt_iff_toInt_lt.mp (Int32.not_le.mp c_178)
    have z_2 := Int32.le_iff_toInt_le.mp (Int32.not_lt.mp c_179)
    have z_3 := Int32.lt_iff_toInt_lt.mp (Int32.not_le.mp c_180)
    have z_4 := congrArg Int32.toInt c_181
    have z_5 := Int32.lt_iff_toInt_lt.mp (Int32.not_le.mp c_182)
    have k_0 : (0 : Int32).toInt = 0 := (by decide)
    have k_3 : (3 : Int32).toInt = 3 := (by decide)
    have k_4 : (4 : Int32).toInt = 4 := (by decide)
    exfalso
    have g_0 := hf0
    have g_1 := hf1
    have g_2 := hf2
    exact absurd (g_183.trans g_0) (by decide)
set_option maxHeartbeats 4000000 in
set_option maxRecDepth 100000 in
theorem k_X9_fogs_3 (l : Launch) (V : GV) (n : Nat) (L : Nat) (Yw : Nat → Nat) (y : Nat → Nat) (D9 : Nat → Int32) (a1 : Int32) (a2 : Int32) (a3 : Int32) (py0_1 : Int32) (o11 : Value) (py0_12 : Int32) (py0_13 : Int32) (py0_14 : Int32) (py2_0 : Int32) (py2_1 : Int32) (py2_2 : Int32) (py2_3 : Int32) (py2_4 : Int32) (py2_5 : Int32) (py2_13 : Int32) (py2_14 : Int32) (py2_15 : Int32) (py2_16 : Int32) (py2_17 : Int32) (fy3 : Nat → Int32) (fy9 : Nat → Int32) (fy20 : Nat → Int32) (fy21 : Nat → Int32) (fy22 : Nat → Int32) (py33_1 : Int32) (py33_2 : Int32) (fy34 : Nat → Int64) (py35_1 : Int32) (py35_2 : Int32) (fy36 : Nat → Int64) (py37_1 : Int32) (py37_2 : Int32) (fy38 : Nat → Int64) (py39_1 : Int32) (py39_2 : Int32) (fy40 : Nat → Int64) (pYw0_0 : Int32) (wa : Nat) (pYw0_5 : Int32) (pYw0_6 : Int32) (wb : Nat) (pYw0_14 : Int32) (pYw0_15 : Int32) (pYw0_16 : Int32) (fYw1 : Nat → Int32) (fYw2 : Nat → Int32) (fwa : Nat → Int32) (fYw4 : Nat → Int32) (fYw5 : Nat → Int32) (fYw6 : Nat → Int32) (fYw7 : Nat → Int32) (fYw8 : Nat → Int32) (fwb : Nat → Int32) (hn : 1 ≤ n ∧ n ≤ 3646) (hL : 1 ≤ L ∧ L ≤ 10000) (hq0 : pYw0_0 < py2_1) (bpy0_1 : iv 0 900 py0_1) (bpy0_12 : iv 0 9999 py0_12) (bpy0_13 : iv 0 9 py0_13) (bpy2_1 : iv 0 4 py2_1) (bpy2_2 : iv 0 4 py2_2) (bpy2_3 : iv 0 8 py2_3) (bpy2_4 : iv 0 9999 py2_4) (bpy2_5 : iv 0 9 py2_5) (bpy2_13 : iv 0 900 py2_13) (bpy2_14 : iv 0 900 py2_14) (bpy2_15 : iv 0 900 py2_15) (bpy2_16 : iv 0 900 py2_16) (bpy2_17 : iv 0 900 py2_17) (tfy20 : ∀ j, iv 0 10 (fy20 j)) (bpy33_1 : iv (-1) 40 py33_1) (bpy35_1 : iv (-1) 40 py35_1) (bpy37_1 : iv (-1) 40 py37_1) (bpy39_1 : iv (-1) 40 py39_1) (bpYw0_0 : iv 0 4 pYw0_0) (bpYw0_5 : iv 0 ((n : Int)) pYw0_5) (bpYw0_6 : iv 0 4 pYw0_6) (bpYw0_14 : iv 0 4 pYw0_14) (bpYw0_15 : iv 0 9 pYw0_15) (bpYw0_16 : iv 0 ((n : Int)) pYw0_16) (tfYw1 : ∀ j, iv 0 ((L : Int) - 1) (fYw1 j)) (tfYw4 : ∀ j, iv 0 ((n : Int)) (fYw4 j)) (tfYw5 : ∀ j, iv 0 (4 * (n : Int) - 1) (fYw5 j)) (tfYw6 : ∀ j, iv 0 ((n : Int) - 1) (fYw6 j)) (tfYw7 : ∀ j, iv 0 ((n : Int) - 1) (fYw7 j)) (hf0 : WA pYw0_5 fYw4 fYw1) (hf1 : WB pYw0_16 pYw0_6 pYw0_5 fYw6) (hf2 : WC pYw0_5 fYw2) (hf3 : rfF a1 a2 (-1 : Int32) py2_1 py33_1 py35_1 py37_1 py39_1 fy34 fy36 fy38 fy40 = 0) (hf4 : 0 ≤ (a3 : Int32).toInt) (hf5 : (a3 : Int32).toInt < (cntF a1 py33_1 py35_1 py37_1 py39_1 : Int32).toInt) (hL9 : LW D9 fy3 fy9 py2_14 py2_15 py2_16 py2_17) (hK9 : KN D9 fy20) : Ct l V yX9_fogs (.code yX9_fogs cX9_fogs 6 (some .int)) 8 [.ref (y 0), .int a1, .int a2, .int a3] [(y 0, .inr (9, o9_rirrrrrrrrrviii (y 1) py0_1 (y 2) (y 10) (y 19) (y 25) (y 26) (y 30) (y 31) (y 32) (Yw 0) o11 py0_12 py0_13 py0_14)), (y 2, .inr (1, o1_iiiiiirrrrrrriiiii py2_0 py2_1 py2_2 py2_3 py2_4 py2_5 (y 3) (y 4) (y 5) (y 6) (y 7) (y 8) (y 9) py2_13 py2_14 py2_15 py2_16 py2_17)), (y 3, aI V 4 fy3), (y 9, aI V 900 fy9), (y 19, .inr (4, o4_rrrrrr (y 2) (y 20) (y 21) (y 22) (y 23) (y 24))), (y 20, aI V 2000 fy20), (y 21, aI V 6 fy21), (y 22, aI V 64 fy22), (y 30, aT V 4 (va_up (va_up (va_up (va_up (fun _ => none) 0 (some (y 33))) 1 (some (y 35))) 2 (some (y 37))) 3 (some (y 39)))), (y 33, .inr (7, o7_rii (y 34) py33_1 py33_2)), (y 34, aJ V 40 fy34), (y 35, .inr (7, o7_rii (y 36) py35_1 py35_2)), (y 36, aJ V 40 fy36), (y 37, .inr (7, o7_rii (y 38) py37_1 py37_2)), (y 38, aJ V 40 fy38), (y 39, .inr (7, o7_rii (y 40) py39_1 py39_2)), (y 40, aJ V 40 fy40), (Yw 0, .inr (8, o8_iirrriirrrrrrriii pYw0_0 (nI n) (Yw 1) (Yw 2) wa pYw0_5 pYw0_6 (y 19) (Yw 4) (Yw 5) (Yw 6) (Yw 7) (Yw 8) wb pYw0_14 pYw0_15 pYw0_16)), (Yw 1, aI V n fYw1), (Yw 2, aI V n fYw2), (wa, aI V n fwa), (Yw 4, aI V L fYw4), (Yw 5, aI V n fYw5), (Yw 6, aI V (n * 4) fYw6), (Yw 7, aI V n fYw7), (Yw 8, aI V 4 fYw8), (wb, aI V n fwb)] 10 46481 (QI V (fun (r : Int32) (w : va_W) => ∃ (n : Nat) (L : Nat) (Yw : Nat → Nat) (wa : Nat) (wb : Nat) (g0 : Nat → Int32) (g1 : Nat → Int32) (g2 : Nat → Int32) (ww0 : Int32) (ww5 : Int32) (ww6 : Int32) (ww14 : Int32) (ww15 : Int32) (ww16 : Int32) (wew1 : Nat → Int32) (wew2 : Nat → Int32) (wew3 : Nat → Int32) (wew4 : Nat → Int32) (wew5 : Nat → Int32) (wew6 : Nat → Int32) (wew7 : Nat → Int32) (wew8 : Nat → Int32) (wew9 : Nat → Int32), (1 ≤ n ∧ n ≤ 3646) ∧ (1 ≤ L ∧ L ≤ 10000) ∧ (∀ j, iv 0 10 (g0 j)) ∧ iv 0 4 ww0 ∧ iv 0 ((n : Int)) ww5 ∧ iv 0 4 ww6 ∧ iv 0 4 ww14 ∧ iv 0 9 ww15 ∧ iv 0 ((n : Int)) ww16 ∧ (∀ j, iv 0 ((L : Int) - 1) (wew1 j)) ∧ (∀ j, iv 0 ((n : Int)) (wew4 j)) ∧ (∀ j, iv 0 (4 * (n : Int) - 1) (wew5 j)) ∧ (∀ j, iv 0 ((n : Int) - 1) (wew6 j)) ∧ (∀ j, iv 0 ((n : Int) - 1) (wew7 j)) ∧ (WA ww5 wew4 wew1) ∧ (WB ww16 ww6 ww5 wew6) ∧ (WC ww5 wew2) ∧ (ww0 = py2_1) ∧ KN D9 g0 ∧ w = [(y 0, .inr (9, o9_rirrrrrrrrrviii (y 1) py0_1 (y 2) (y 10) (y 19) (y 25) (y 26) (y 30) (y 31) (y 32) (Yw 0) o11 py0_12 py0_13 py0_14)), (y 2, .inr (1, o1_iiiiiirrrrrrriiiii py2_0 py2_1 py2_2 py2_3 py2_4 py2_5 (y 3) (y 4) (y 5) (y 6) (y 7) (y 8) (y 9) py2_13 py2_14 py2_15 py2_16 py2_17)), (y 3, aI V 4 fy3), (y 9, aI V 900 fy9), (y 19, .inr (4, o4_rrrrrr (y 2) (y 20) (y 21) (y 22) (y 23) (y 24))), (y 20, aI V 2000 g0), (y 21, aI V 6 g1), (y 22, aI V 64 g2), (y 30, aT V 4 (va_up (va_up (va_up (va_up (fun _ => none) 0 (some (y 33))) 1 (some (y 35))) 2 (some (y 37))) 3 (some (y 39)))), (y 33, .inr (7, o7_rii (y 34) py33_1 py33_2)), (y 34, aJ V 40 fy34), (y 35, .inr (7, o7_rii (y 36) py35_1 py35_2)), (y 36, aJ V 40 fy36), (y 37, .inr (7, o7_rii (y 38) py37_1 py37_2)), (y 38, aJ V 40 fy38), (y 39, .inr (7, o7_rii (y 40) py39_1 py39_2)), (y 40, aJ V 40 fy40), (Yw 0, .inr (8, o8_iirrriirrrrrrriii ww0 (nI n) (Yw 1) (Yw 2) wa ww5 ww6 (y 19) (Yw 4) (Yw 5) (Yw 6) (Yw 7) (Yw 8) wb ww14 ww15 ww16)), (Yw 1, aI V n wew1), (Yw 2, aI V n wew2), (wa, aI V n wew3), (Yw 4, aI V L wew4), (Yw 5, aI V n wew5), (Yw 6, aI V (n * 4) wew6), (Yw 7, aI V n wew7), (Yw 8, aI V 4 wew8), (wb, aI V n wew9)])) := by
  refine Ct.of (by decide) (Nat.le_of_ble_eq_true rfl) (fun p e s m below meth c A ls hx hb hr hml hown hlk hnm hg hP hK hD hE hA hS hl => ?_)
  have hl : lv_has ls 6 [(0, .ref (y 0)), (1, .int a1), (2, .int a2), (3, .int a3)] := hl
  refine lv_aload_n hx hb dX9_fogs_0 rfl (lv_at hl 0 rfl) ?_
  refine lv_iload_n hx hb dX9_fogs_1 rfl (lv_at hl 1 rfl) ?_
  refine lv_iload_n hx hb dX9_fogs_2 rfl (lv_at hl 2 rfl) ?_
  refine lv_iconst (v := (-1)) hx hb dX9_fogs_3 (by decide) ?_
  refine jnI (wr := [(y 3, aI V 4 fy3), (y 9, aI V 900 fy9), (y 19, .inr (4, o4_rrrrrr (y 2) (y 20) (y 21) (y 22) (y 23) (y 24))), (y 20, aI V 2000 fy20), (y 21, aI V 6 fy21), (y 22, aI V 64 fy22), (Yw 0, .inr (8, o8_iirrriirrrrrrriii pYw0_0 (nI n) (Yw 1) (Yw 2) wa pYw0_5 pYw0_6 (y 19) (Yw 4) (Yw 5) (Yw 6) (Yw 7) (Yw 8) wb pYw0_14 pYw0_15 pYw0_16)), (Yw 1, aI V n fYw1), (Yw 2, aI V n fYw2), (wa, aI V n fwa), (Yw 4, aI V L fYw4), (Yw 5, aI V n fYw5), (Yw 6, aI V (n * 4) fYw6), (Yw 7, aI V n fYw7), (Yw 8, aI V 4 fYw8), (wb, aI V n fwb)]) (rnV (rest := []) ⟨hx, hb, hml, hown, hg⟩ (k_X9_refusalOfTold_0 l V y a1 a2 (-1) py0_1 (.ref (Yw 0)) o11 py0_12 py0_13 py0_14 py2_0 py2_1 py2_2 py2_3 py2_4 py2_5 py2_13 py2_14 py2_15 py2_16 py2_17 py33_1 py33_2 fy34 py35_1 py35_2 fy36 py37_1 py37_2 fy38 py39_1 py39_2 fy40 bpy0_1 bpy0_12 bpy0_13 bpy2_1 bpy2_2 bpy2_3 bpy2_4 bpy2_5 bpy2_13 bpy2_14 bpy2_15 bpy2_16 bpy2_17 bpy33_1 bpy35_1 bpy37_1 bpy39_1) mt_X9_refusalOfTold q_5_21 ⟨Nat.le_of_ble_eq_true rfl, Nat.le_of_ble_eq_true rfl⟩ hK hP hD hS hA hE [0, 1, 8, 9, 10, 11, 12, 13, 14, 15, 16] rfl rfl 0 rfl rfl rfl rfl hl.1 rfl (Nat.le_of_ble_eq_true rfl) dX9_fogs_4 ⟨Nat.le_of_ble_eq_true rfl, Nat.le_of_ble_eq_true rfl⟩) hP hD hS hA [0, 1, 8, 9, 10, 11, 12, 13, 14, 15, 16] [2, 3, 4, 5, 6, 7, 17, 18, 19, 20, 21, 22, 23, 24, 25, 26] rfl rfl rfl (by decide) (fun r_1 w H locs hw hP hD hS => ?_)
  rcases hw with ⟨c_2, rfl, g_3, rfl⟩ | ⟨c_4, c_5, rfl, g_6, rfl⟩ | ⟨c_7, c_8, c_9, rfl, g_10, rfl⟩ | ⟨c_11, c_12, c_13, c_14, rfl, g_15, rfl⟩ | ⟨c_16, c_17, c_18, c_19, c_20, c_21, c_22, rfl, g_23, rfl⟩ | ⟨c_24, c_25, c_26, c_27, c_28, c_29, c_30, c_31, rfl, g_32, rfl⟩ | ⟨c_33, c_34, c_35, c_36, c_37, c_38, c_39, c_40, rfl, g_41, rfl⟩ | ⟨c_42, c_43, c_44, c_45, c_46, c_47, c_48, c_49, rfl, g_50, rfl⟩ | ⟨c_51, c_52, c_53, c_54, c_55, c_56, rfl, g_57, rfl⟩ | ⟨c_58, c_59, c_60, c_61, c_62, c_63, c_64, rfl, g_65, rfl⟩ | ⟨c_66, c_67, c_68, c_69, c_70, c_71, c_72, c_73, rfl, g_74, rfl⟩ | ⟨c_75, c_76, c_77, c_78, c_79, c_80, c_81, c_82, rfl, g_83, rfl⟩ | ⟨c_84, c_85, c_86, c_87, c_88, c_89, c_90, c_91, rfl, g_92, rfl⟩ | ⟨c_93, c_94, c_95, c_96, c_97, c_98, rfl, g_99, rfl⟩ | ⟨c_100, c_101, c_102, c_103, c_104, c_105, c_106, rfl, g_107, rfl⟩ | ⟨c_108, c_109, c_110, c_111, c_112, c_113, c_114, c_115, rfl, g_116, rfl⟩ | ⟨c_117, c_118, c_119, c_120, c_121, c_122, c_123, c_124, rfl, g_125, rfl⟩ | ⟨c_126, c_127, c_128, c_129, c_130, c_131, c_132, c_133, rfl, g_134, rfl⟩ | ⟨c_135, c_136, c_137, c_138, c_139, c_140, rfl, g_141, rfl⟩ | ⟨c_142, c_143, c_144, c_145, c_146, c_147, c_148, rfl, g_149, rfl⟩ | ⟨c_150, c_151, c_152, c_153, c_154, c_155, c_156, c_157, rfl, g_158, rfl⟩ | ⟨c_159, c_160, c_161, c_162, c_163, c_164, c_165, c_166, rfl, g_167, rfl⟩ | ⟨c_168, c_169, c_170, c_171, c_172, c_173, c_174, c_175, rfl, g_176, rfl⟩ | ⟨c_177, c_178, c_179, c_180, c_181, c_182, rfl, g_183, rfl⟩
  · have hP : va_P V.1 vwCl [(y 3, aI V 4 fy3), (y 9, aI V 900 fy9), (y 19, .inr (4, o4_rrrrrr (y 2) (y 20) (y 21) (y 22) (y 23) (y 24))), (y 20, aI V 2000 fy20), (y 21, aI V 6 fy21), (y 22, aI V 64 fy22), (Yw 0, .inr (8, o8_iirrriirrrrrrriii pYw0_0 (nI n) (Yw 1) (Yw 2) wa pYw0_5 pYw0_6 (y 19) (Yw 4) (Yw 5) (Yw 6) (Yw 7) (Yw 8) wb pYw0_14 pYw0_15 pYw0_16)), (Yw 1, aI V n fYw1), (Yw 2, aI V n fYw2), (wa, aI V n fwa), (Yw 4, aI V L fYw4), (Yw 5, aI V n fYw5), (Yw 6, aI V (n * 4) fYw6), (Yw 7, aI V n fYw7), (Yw 8, aI V 4 fYw8), (wb, aI V n fwb), (y 0, .inr (9, o9_rirrrrrrrrrviii (y 1) py0_1 (y 2) (y 10) (y 19) (y 25) (y 26) (y 30) (y 31) (y 32) (Yw 0) o11 py0_12 py0_13 py0_14)), (y 2, .inr (1, o1_iiiiiirrrrrrriiiii py2_0 py2_1 py2_2 py2_3 py2_4 py2_5 (y 3) (y 4) (y 5) (y 6) (y 7) (y 8) (y 9) py2_13 py2_14 py2_15 py2_16 py2_17)), (y 30, aT V 4 (va_up (va_up (va_up (va_up (fun _ => none) 0 (some (y 33))) 1 (some (y 35))) 2 (some (y 37))) 3 (some (y 39)))), (y 33, .inr (7, o7_rii (y 34) py33_1 py33_2)), (y 34, aJ V 40 fy34), (y 35, .inr (7, o7_rii (y 36) py35_1 py35_2)), (y 36, aJ V 40 fy36), (y 37, .inr (7, o7_rii (y 38) py37_1 py37_2)), (y 38, aJ V 40 fy38), (y 39, .inr (7, o7_rii (y 40) py39_1 py39_2)), (y 40, aJ V 40 fy40)] H := hP
    have hD := cpD hP hD
    have b_184 : iv (-2147483648) (-1) a1 := iv_l1 c_2 (iv_top a1) (iv_c (0 : Int32) (a := 0) (b := 0) (by decide)) (by first | decide | omega)
    refine lv_istore (lv' := [(4, .int (-2)), (0, .ref (y 0)), (1, .int a1), (2, .int a2), (3, .int a3)]) hx hb dX9_fogs_7 hl (by decide) rfl (fun ls hl => ?_)
    refine lv_iload hx hb dX9_fogs_9 (lv_at hl 0 rfl) ?_
    refine lv_if_eq (tgt := 17) hx hb dX9_fogs_11 (by decide) (fun c_186 => absurd c_186 (by decide)) (fun _ => ?_)
    refine lv_iload hx hb dX9_fogs_14 (lv_at hl 0 rfl) ?_
    have z_0 := Int32.lt_iff_toInt_lt.mp hq0
    have z_1 := Int32.lt_iff_toInt_lt.mp c_2
    have k_0 : (0 : Int32).toInt = 0 := (by decide)
    exfalso
    have g_0 := hf3
    have g_1 := hf4
    have g_2 := hf5
    exact absurd (g_3.trans g_0) (by decide)
  · have hP : va_P V.1 vwCl [(y 3, aI V 4 fy3), (y 9, aI V 900 fy9), (y 19, .inr (4, o4_rrrrrr (y 2) (y 20) (y 21) (y 22) (y 23) (y 24))), (y 20, aI V 2000 fy20), (y 21, aI V 6 fy21), (y 22, aI V 64 fy22), (Yw 0, .inr (8, o8_iirrriirrrrrrriii pYw0_0 (nI n) (Yw 1) (Yw 2) wa pYw0_5 pYw0_6 (y 19) (Yw 4) (Yw 5) (Yw 6) (Yw 7) (Yw 8) wb pYw0_14 pYw0_15 pYw0_16)), (Yw 1, aI V n fYw1), (Yw 2, aI V n fYw2), (wa, aI V n fwa), (Yw 4, aI V L fYw4), (Yw 5, aI V n fYw5), (Yw 6, aI V (n * 4) fYw6), (Yw 7, aI V n fYw7), (Yw 8, aI V 4 fYw8), (wb, aI V n fwb), (y 0, .inr (9, o9_rirrrrrrrrrviii (y 1) py0_1 (y 2) (y 10) (y 19) (y 25) (y 26) (y 30) (y 31) (y 32) (Yw 0) o11 py0_12 py0_13 py0_14)), (y 2, .inr (1, o1_iiiiiirrrrrrriiiii py2_0 py2_1 py2_2 py2_3 py2_4 py2_5 (y 3) (y 4) (y 5) (y 6) (y 7) (y 8) (y 9) py2_13 py2_14 py2_15 py2_16 py2_17)), (y 30, aT V 4 (va_up (va_up (va_up (va_up (fun _ => none) 0 (some (y 33))) 1 (some (y 35))) 2 (some (y 37))) 3 (some (y 39)))), (y 33, .inr (7, o7_rii (y 34) py33_1 py33_2)), (y 34, aJ V 40 fy34), (y 35, .inr (7, o7_rii (y 36) py35_1 py35_2)), (y 36, aJ V 40 fy36), (y 37, .inr (7, o7_rii (y 38) py37_1 py37_2)), (y 38, aJ V 40 fy38), (y 39, .inr (7, o7_rii (y 40) py39_1 py39_2)), (y 40, aJ V 40 fy40)] H := hP
    have hD := cpD hP hD
    have b_187 : iv 0 2147483647 a1 := iv_e2 (Int32.not_lt.mp c_4) (iv_c (0 : Int32) (a := 0) (b := 0) (by decide)) (iv_top a1) (by first | decide | omega)
    have b_188 : iv 4 2147483647 a1 := iv_e2 c_5 (iv_c (4 : Int32) (a := 4) (b := 4) (by decide)) b_187 (by first | decide | omega)
    refine lv_istore (lv' := [(4, .int (-2)), (0, .ref (y 0)), (1, .int a1), (2, .int a2), (3, .int a3)]) hx hb dX9_fogs_7 hl (by decide) rfl (fun ls hl => ?_)
    refine lv_iload hx hb dX9_fogs_9 (lv_at hl 0 rfl) ?_
    refine lv_if_eq (tgt := 17) hx hb dX9_fogs_11 (by decide) (fun c_190 => absurd c_190 (by decide)) (fun _ => ?_)
    refine lv_iload hx hb dX9_fogs_14 (lv_at hl 0 rfl) ?_
    have z_0 := Int32.lt_iff_toInt_lt.mp hq0
    have z_1 := Int32.le_iff_toInt_le.mp (Int32.not_lt.mp c_4)
    have z_2 := Int32.le_iff_toInt_le.mp c_5
    have k_0 : (0 : Int32).toInt = 0 := (by decide)
    have k_4 : (4 : Int32).toInt = 4 := (by decide)
    exfalso
    have g_0 := hf3
    have g_1 := hf4
    have g_2 := hf5
    exact absurd (g_6.trans g_0) (by decide)
  · have hP : va_P V.1 vwCl [(y 3, aI V 4 fy3), (y 9, aI V 900 fy9), (y 19, .inr (4, o4_rrrrrr (y 2) (y 20) (y 21) (y 22) (y 23) (y 24))), (y 20, aI V 2000 fy20), (y 21, aI V 6 fy21), (y 22, aI V 64 fy22), (Yw 0, .inr (8, o8_iirrriirrrrrrriii pYw0_0 (nI n) (Yw 1) (Yw 2) wa pYw0_5 pYw0_6 (y 19) (Yw 4) (Yw 5) (Yw 6) (Yw 7) (Yw 8) wb pYw0_14 pYw0_15 pYw0_16)), (Yw 1, aI V n fYw1), (Yw 2, aI V n fYw2), (wa, aI V n fwa), (Yw 4, aI V L fYw4), (Yw 5, aI V n fYw5), (Yw 6, aI V (n * 4) fYw6), (Yw 7, aI V n fYw7), (Yw 8, aI V 4 fYw8), (wb, aI V n fwb), (y 0, .inr (9, o9_rirrrrrrrrrviii (y 1) py0_1 (y 2) (y 10) (y 19) (y 25) (y 26) (y 30) (y 31) (y 32) (Yw 0) o11 py0_12 py0_13 py0_14)), (y 2, .inr (1, o1_iiiiiirrrrrrriiiii py2_0 py2_1 py2_2 py2_3 py2_4 py2_5 (y 3) (y 4) (y 5) (y 6) (y 7) (y 8) (y 9) py2_13 py2_14 py2_15 py2_16 py2_17)), (y 30, aT V 4 (va_up (va_up (va_up (va_up (fun _ => none) 0 (some (y 33))) 1 (some (y 35))) 2 (some (y 37))) 3 (some (y 39)))), (y 33, .inr (7, o7_rii (y 34) py33_1 py33_2)), (y 34, aJ V 40 fy34), (y 35, .inr (7, o7_rii (y 36) py35_1 py35_2)), (y 36, aJ V 40 fy36), (y 37, .inr (7, o7_rii (y 38) py37_1 py37_2)), (y 38, aJ V 40 fy38), (y 39, .inr (7, o7_rii (y 40) py39_1 py39_2)), (y 40, aJ V 40 fy40)] H := hP
    have hD := cpD hP hD
    have b_191 : iv 0 2147483647 a1 := iv_e2 (Int32.not_lt.mp c_7) (iv_c (0 : Int32) (a := 0) (b := 0) (by decide)) (iv_top a1) (by first | decide | omega)
    have b_192 : iv 0 3 a1 := iv_l1 (Int32.not_le.mp c_8) b_191 (iv_c (4 : Int32) (a := 4) (b := 4) (by decide)) (by first | decide | omega)
    have b_193 : iv (-2147483648) (-1) a2 := iv_l1 c_9 (iv_top a2) (iv_c (0 : Int32) (a := 0) (b := 0) (by decide)) (by first | decide | omega)
    refine lv_istore (lv' := [(4, .int (-2)), (0, .ref (y 0)), (1, .int a1), (2, .int a2), (3, .int a3)]) hx hb dX9_fogs_7 hl (by decide) rfl (fun ls hl => ?_)
    refine lv_iload hx hb dX9_fogs_9 (lv_at hl 0 rfl) ?_
    refine lv_if_eq (tgt := 17) hx hb dX9_fogs_11 (by decide) (fun c_195 => absurd c_195 (by decide)) (fun _ => ?_)
    refine lv_iload hx hb dX9_fogs_14 (lv_at hl 0 rfl) ?_
    have z_0 := Int32.lt_iff_toInt_lt.mp hq0
    have z_1 := Int32.le_iff_toInt_le.mp (Int32.not_lt.mp c_7)
    have z_2 := Int32.lt_iff_toInt_lt.mp (Int32.not_le.mp c_8)
    have z_3 := Int32.lt_iff_toInt_lt.mp c_9
    have k_0 : (0 : Int32).toInt = 0 := (by decide)
    have k_4 : (4 : Int32).toInt = 4 := (by decide)
    exfalso
    have g_0 := hf3
    have g_1 := hf4
    have g_2 := hf5
    exact absurd (g_10.trans g_0) (by decide)
  · have hP : va_P V.1 vwCl [(y 3, aI V 4 fy3), (y 9, aI V 900 fy9), (y 19, .inr (4, o4_rrrrrr (y 2) (y 20) (y 21) (y 22) (y 23) (y 24))), (y 20, aI V 2000 fy20), (y 21, aI V 6 fy21), (y 22, aI V 64 fy22), (Yw 0, .inr (8, o8_iirrriirrrrrrriii pYw0_0 (nI n) (Yw 1) (Yw 2) wa pYw0_5 pYw0_6 (y 19) (Yw 4) (Yw 5) (Yw 6) (Yw 7) (Yw 8) wb pYw0_14 pYw0_15 pYw0_16)), (Yw 1, aI V n fYw1), (Yw 2, aI V n fYw2), (wa, aI V n fwa), (Yw 4, aI V L fYw4), (Yw 5, aI V n fYw5), (Yw 6, aI V (n * 4) fYw6), (Yw 7, aI V n fYw7), (Yw 8, aI V 4 fYw8), (wb, aI V n fwb), (y 0, .inr (9, o9_rirrrrrrrrrviii (y 1) py0_1 (y 2) (y 10) (y 19) (y 25) (y 26) (y 30) (y 31) (y 32) (Yw 0) o11 py0_12 py0_13 py0_14)), (y 2, .inr (1, o1_iiiiiirrrrrrriiiii py2_0 py2_1 py2_2 py2_3 py2_4 py2_5 (y 3) (y 4) (y 5) (y 6) (y 7) (y 8) (y 9) py2_13 py2_14 py2_15 py2_16 py2_17)), (y 30, aT V 4 (va_up (va_up (va_up (va_up (fun _ => none) 0 (some (y 33))) 1 (some (y 35))) 2 (some (y 37))) 3 (some (y 39)))), (y 33, .inr (7, o7_rii (y 34) py33_1 py33_2)), (y 34, aJ V 40 fy34), (y 35, .inr (7, o7_rii (y 36) py35_1 py35_2)), (y 36, aJ V 40 fy36), (y 37, .inr (7, o7_rii (y 38) py37_1 py37_2)), (y 38, aJ V 40 fy38), (y 39, .inr (7, o7_rii (y 40) py39_1 py39_2)), (y 40, aJ V 40 fy40)] H := hP
    have hD := cpD hP hD
    have b_196 : iv 0 2147483647 a1 := iv_e2 (Int32.not_lt.mp c_11) (iv_c (0 : Int32) (a := 0) (b := 0) (by decide)) (iv_top a1) (by first | decide | omega)
    have b_197 : iv 0 3 a1 := iv_l1 (Int32.not_le.mp c_12) b_196 (iv_c (4 : Int32) (a := 4) (b := 4) (by decide)) (by first | decide | omega)
    have b_198 : iv 0 2147483647 a2 := iv_e2 (Int32.not_lt.mp c_13) (iv_c (0 : Int32) (a := 0) (b := 0) (by decide)) (iv_top a2) (by first | decide | omega)
    refine lv_istore (lv' := [(4, .int (-2)), (0, .ref (y 0)), (1, .int a1), (2, .int a2), (3, .int a3)]) hx hb dX9_fogs_7 hl (by decide) rfl (fun ls hl => ?_)
    refine lv_iload hx hb dX9_fogs_9 (lv_at hl 0 rfl) ?_
    refine lv_if_eq (tgt := 17) hx hb dX9_fogs_11 (by decide) (fun c_200 => absurd c_200 (by decide)) (fun _ => ?_)
    refine lv_iload hx hb dX9_fogs_14 (lv_at hl 0 rfl) ?_
    have z_0 := Int32.lt_iff_toInt_lt.mp hq0
    have z_1 := Int32.le_iff_toInt_le.mp (Int32.not_lt.mp c_11)
    have z_2 := Int32.lt_iff_toInt_lt.mp (Int32.not_le.mp c_12)
    have z_3 := Int32.le_iff_toInt_le.mp (Int32.not_lt.mp c_13)
    have z_4 := Int32.le_iff_toInt_le.mp c_14
    have k_0 : (0 : Int32).toInt = 0 := (by decide)
    have k_4 : (4 : Int32).toInt = 4 := (by decide)
    exfalso
    have g_0 := hf3
    have g_1 := hf4
    have g_2 := hf5
    exact absurd (g_15.trans g_0) (by decide)
  · have hP : va_P V.1 vwCl [(y 3, aI V 4 fy3), (y 9, aI V 900 fy9), (y 19, .inr (4, o4_rrrrrr (y 2) (y 20) (y 21) (y 22) (y 23) (y 24))), (y 20, aI V 2000 fy20), (y 21, aI V 6 fy21), (y 22, aI V 64 fy22), (Yw 0, .inr (8, o8_iirrriirrrrrrriii pYw0_0 (nI n) (Yw 1) (Yw 2) wa pYw0_5 pYw0_6 (y 19) (Yw 4) (Yw 5) (Yw 6) (Yw 7) (Yw 8) wb pYw0_14 pYw0_15 pYw0_16)), (Yw 1, aI V n fYw1), (Yw 2, aI V n fYw2), (wa, aI V n fwa), (Yw 4, aI V L fYw4), (Yw 5, aI V n fYw5), (Yw 6, aI V (n * 4) fYw6), (Yw 7, aI V n fYw7), (Yw 8, aI V 4 fYw8), (wb, aI V n fwb), (y 0, .inr (9, o9_rirrrrrrrrrviii (y 1) py0_1 (y 2) (y 10) (y 19) (y 25) (y 26) (y 30) (y 31) (y 32) (Yw 0) o11 py0_12 py0_13 py0_14)), (y 2, .inr (1, o1_iiiiiirrrrrrriiiii py2_0 py2_1 py2_2 py2_3 py2_4 py2_5 (y 3) (y 4) (y 5) (y 6) (y 7) (y 8) (y 9) py2_13 py2_14 py2_15 py2_16 py2_17)), (y 30, aT V 4 (va_up (va_up (va_up (va_up (fun _ => none) 0 (some (y 33))) 1 (some (y 35))) 2 (some (y 37))) 3 (some (y 39)))), (y 33, .inr (7, o7_rii (y 34) py33_1 py33_2)), (y 34, aJ V 40 fy34), (y 35, .inr (7, o7_rii (y 36) py35_1 py35_2)), (y 36, aJ V 40 fy36), (y 37, .inr (7, o7_rii (y 38) py37_1 py37_2)), (y 38, aJ V 40 fy38), (y 39, .inr (7, o7_rii (y 40) py39_1 py39_2)), (y 40, aJ V 40 fy40)] H := hP
    have hD := cpD hP hD
    have b_201 : iv 0 2147483647 a2 := iv_e2 (Int32.not_lt.mp c_18) (iv_c (0 : Int32) (a := 0) (b := 0) (by decide)) (iv_top a2) (by first | decide | omega)
    have b_202 : iv 0 3 a2 := iv_l1 (Int32.not_le.mp c_19) b_201 bpy2_1 (by first | decide | omega)
    have b_203 : iv 1 4 py2_1 := iv_l2 (Int32.not_le.mp c_19) b_201 bpy2_1 (by first | decide | omega)
    have b_204 : iv 0 0 a1 := iv_q c_20 (iv_c (0 : Int32) (a := 0) (b := 0) (by decide))
    have b_205 : iv 0 40 py33_1 := iv_e2 c_21 (iv_c (0 : Int32) (a := 0) (b := 0) (by decide)) bpy33_1 (by first | decide | omega)
    have b_206 : iv 0 0 py33_1 := iv_l1 c_22 b_205 (iv_c (1 : Int32) (a := 1) (b := 1) (by decide)) (by first | decide | omega)
    refine lv_istore (lv' := [(4, .int (-4)), (0, .ref (y 0)), (1, .int a1), (2, .int a2), (3, .int a3)]) hx hb dX9_fogs_7 hl (by decide) rfl (fun ls hl => ?_)
    refine lv_iload hx hb dX9_fogs_9 (lv_at hl 0 rfl) ?_
    refine lv_if_eq (tgt := 17) hx hb dX9_fogs_11 (by decide) (fun c_208 => absurd c_208 (by decide)) (fun _ => ?_)
    refine lv_iload hx hb dX9_fogs_14 (lv_at hl 0 rfl) ?_
    have z_0 := Int32.lt_iff_toInt_lt.mp hq0
    have z_1 := Int32.le_iff_toInt_le.mp (Int32.not_lt.mp c_16)
    have z_2 := Int32.lt_iff_toInt_lt.mp (Int32.not_le.mp c_17)
    have z_3 := Int32.le_iff_toInt_le.mp (Int32.not_lt.mp c_18)
    have z_4 := Int32.lt_iff_toInt_lt.mp (Int32.not_le.mp c_19)
    have z_5 := congrArg Int32.toInt c_20
    have z_6 := Int32.le_iff_toInt_le.mp c_21
    have z_7 := Int32.lt_iff_toInt_lt.mp c_22
    have k_0 : (0 : Int32).toInt = 0 := (by decide)
    have k_1 : (1 : Int32).toInt = 1 := (by decide)
    have k_4 : (4 : Int32).toInt = 4 := (by decide)
    exfalso
    have g_0 := hf3
    have g_1 := hf4
    have g_2 := hf5
    exact absurd (g_23.trans g_0) (by decide)
  · have hP : va_P V.1 vwCl [(y 3, aI V 4 fy3), (y 9, aI V 900 fy9), (y 19, .inr (4, o4_rrrrrr (y 2) (y 20) (y 21) (y 22) (y 23) (y 24))), (y 20, aI V 2000 fy20), (y 21, aI V 6 fy21), (y 22, aI V 64 fy22), (Yw 0, .inr (8, o8_iirrriirrrrrrriii pYw0_0 (nI n) (Yw 1) (Yw 2) wa pYw0_5 pYw0_6 (y 19) (Yw 4) (Yw 5) (Yw 6) (Yw 7) (Yw 8) wb pYw0_14 pYw0_15 pYw0_16)), (Yw 1, aI V n fYw1), (Yw 2, aI V n fYw2), (wa, aI V n fwa), (Yw 4, aI V L fYw4), (Yw 5, aI V n fYw5), (Yw 6, aI V (n * 4) fYw6), (Yw 7, aI V n fYw7), (Yw 8, aI V 4 fYw8), (wb, aI V n fwb), (y 0, .inr (9, o9_rirrrrrrrrrviii (y 1) py0_1 (y 2) (y 10) (y 19) (y 25) (y 26) (y 30) (y 31) (y 32) (Yw 0) o11 py0_12 py0_13 py0_14)), (y 2, .inr (1, o1_iiiiiirrrrrrriiiii py2_0 py2_1 py2_2 py2_3 py2_4 py2_5 (y 3) (y 4) (y 5) (y 6) (y 7) (y 8) (y 9) py2_13 py2_14 py2_15 py2_16 py2_17)), (y 30, aT V 4 (va_up (va_up (va_up (va_up (fun _ => none) 0 (some (y 33))) 1 (some (y 35))) 2 (some (y 37))) 3 (some (y 39)))), (y 33, .inr (7, o7_rii (y 34) py33_1 py33_2)), (y 34, aJ V 40 fy34), (y 35, .inr (7, o7_rii (y 36) py35_1 py35_2)), (y 36, aJ V 40 fy36), (y 37, .inr (7, o7_rii (y 38) py37_1 py37_2)), (y 38, aJ V 40 fy38), (y 39, .inr (7, o7_rii (y 40) py39_1 py39_2)), (y 40, aJ V 40 fy40)] H := hP
    have hD := cpD hP hD
    have b_209 : iv 0 2147483647 a2 := iv_e2 (Int32.not_lt.mp c_26) (iv_c (0 : Int32) (a := 0) (b := 0) (by decide)) (iv_top a2) (by first | decide | omega)
    have b_210 : iv 0 3 a2 := iv_l1 (Int32.not_le.mp c_27) b_209 bpy2_1 (by first | decide | omega)
    have b_211 : iv 1 4 py2_1 := iv_l2 (Int32.not_le.mp c_27) b_209 bpy2_1 (by first | decide | omega)
    have b_212 : iv 0 0 a1 := iv_q c_28 (iv_c (0 : Int32) (a := 0) (b := 0) (by decide))
    have b_213 : iv 0 40 py33_1 := iv_e2 c_29 (iv_c (0 : Int32) (a := 0) (b := 0) (by decide)) bpy33_1 (by first | decide | omega)
    have b_214 : iv 1 40 py33_1 := iv_e2 (Int32.not_lt.mp c_30) (iv_c (1 : Int32) (a := 1) (b := 1) (by decide)) b_213 (by first | decide | omega)
    have b_215 : iv 1 8 py33_1 := iv_e1 c_31 b_214 (iv_c (8 : Int32) (a := 8) (b := 8) (by decide)) (by first | decide | omega)
    refine lv_istore (lv' := [(4, .int 0), (0, .ref (y 0)), (1, .int a1), (2, .int a2), (3, .int a3)]) hx hb dX9_fogs_7 hl (by decide) rfl (fun ls hl => ?_)
    refine lv_iload hx hb dX9_fogs_9 (lv_at hl 0 rfl) ?_
    refine lv_if_eq (tgt := 17) hx hb dX9_fogs_11 (by decide) (fun _ => ?_) (fun c_217 => absurd c_217 (by decide))
    refine lv_iload_n hx hb dX9_fogs_17 rfl (lv_at hl 4 rfl) ?_
    refine lv_if_ge (tgt := 24) hx hb dX9_fogs_18 (by decide) (fun c_218 => ?_) (fun c_218 => ?_)
    · have b_219 : iv 0 2147483647 a3 := iv_e2 c_218 (iv_c (0 : Int32) (a := 0) (b := 0) (by decide)) (iv_top a3) (by first | decide | omega)
      refine lv_iload_n hx hb dX9_fogs_24 rfl (lv_at hl 4 rfl) ?_
      refine lv_aload_n hx hb dX9_fogs_25 rfl (lv_at hl 1 rfl) ?_
      refine va_get (ci := 9) (v := .ref (y 30)) (C := RX9) (T := TX9) (N := 15) hx hb hg inX9 hown hK hP 16 rfl rfl 7 (by decide) (hg _ q_2_43) (fun _ h9 => h9) rfl dX9_fogs_26 ?_
      refine lv_iload_n hx hb dX9_fogs_29 rfl (lv_at hl 2 rfl) ?_
      have c_220 : a1 = 0 := by have q9 := b_212; unfold iv at q9; simp only [tI_eq, (by decide : (0 : Int32).toInt = 0)]; omega
      rcases c_220 with rfl
      · refine va_aldq hx hb hK hP 18 4 rfl rfl (vin (by decide +kernel)) dX9_fogs_30 ?_
        refine W.eq (g2 := F0 m 31 ls (.ref (y 33) :: .int a3 :: [])) rfl ?_
        refine va_get (ci := 7) (v := .int py33_1) (C := RX7) (T := TX7) (N := 3) hx hb hg inX7 hown hK hP 19 rfl rfl 1 (by decide) (hg _ q_2_2) (fun _ h9 => h9) rfl dX9_fogs_31 ?_
        refine lv_icmp_lt (tgt := 40) hx hb dX9_fogs_34 (by decide) (fun c_221 => ?_) (fun c_221 => ?_)
        · have b_222 : iv 0 7 a3 := iv_l1 c_221 b_219 b_215 (by first | decide | omega)
          refine lv_aload_n hx hb dX9_fogs_40 rfl (lv_at hl 1 rfl) ?_
          refine lv_aload_n hx hb dX9_fogs_41 rfl (lv_at hl 1 rfl) ?_
          refine va_get (ci := 9) (v := .ref (y 30)) (C := RX9) (T := TX9) (N := 15) hx hb hg inX9 hown hK hP 16 rfl rfl 7 (by decide) (hg _ q_2_43) (fun _ h9 => h9) rfl dX9_fogs_42 ?_
          refine lv_iload_n hx hb dX9_fogs_45 rfl (lv_at hl 2 rfl) ?_
          refine va_aldq hx hb hK hP 18 4 rfl rfl (vin (by decide +kernel)) dX9_fogs_46 ?_
          refine W.eq (g2 := F0 m 47 ls (.ref (y 33) :: .ref (y 0) :: [])) rfl ?_
          refine va_get (ci := 7) (v := .int py33_1) (C := RX7) (T := TX7) (N := 3) hx hb hg inX7 hown hK hP 19 rfl rfl 1 (by decide) (hg _ q_2_2) (fun _ h9 => h9) rfl dX9_fogs_47 ?_
          refine jnR (wr := [(y 30, aT V 4 (va_up (va_up (va_up (va_up (fun _ => none) 0 (some (y 33))) 1 (some (y 35))) 2 (some (y 37))) 3 (some (y 39)))), (y 33, .inr (7, o7_rii (y 34) py33_1 py33_2)), (y 34, aJ V 40 fy34), (y 35, .inr (7, o7_rii (y 36) py35_1 py35_2)), (y 36, aJ V 40 fy36), (y 37, .inr (7, o7_rii (y 38) py37_1 py37_2)), (y 38, aJ V 40 fy38), (y 39, .inr (7, o7_rii (y 40) py39_1 py39_2)), (y 40, aJ V 40 fy40)]) (rnV (rest := []) ⟨hx, hb, hml, hown, hg⟩ (k_X9_waysFromNow_2 l V n L Yw y D9 py33_1 fy3 fy9 fy20 fy21 fy22 pYw0_0 wa pYw0_5 pYw0_6 wb pYw0_14 pYw0_15 pYw0_16 fYw1 fYw2 fwa fYw4 fYw5 fYw6 fYw7 fYw8 fwb py0_1 o11 py0_12 py0_13 py0_14 py2_0 py2_1 py2_2 py2_3 py2_4 py2_5 py2_13 py2_14 py2_15 py2_16 py2_17 hn hL hq0 tfy20 bpYw0_0 bpYw0_5 bpYw0_6 bpYw0_14 bpYw0_15 bpYw0_16 tfYw1 tfYw4 tfYw5 tfYw6 tfYw7 bpy0_1 bpy0_12 bpy0_13 (iv_w b_211 (by first | decide | omega)) bpy2_2 bpy2_3 bpy2_4 bpy2_5 bpy2_13 bpy2_14 bpy2_15 bpy2_16 bpy2_17 hf0 hf1 hf2 hL9 hK9) mt_X9_waysFromNow q_4_52 ⟨Nat.le_of_ble_eq_true rfl, Nat.le_of_ble_eq_true rfl⟩ hK hP hD hS hA hE [0, 1, 2, 3, 4, 5, 6, 7, 8, 9, 10, 11, 12, 13, 14, 15, 16, 17] rfl rfl 16 rfl rfl rfl rfl hl.1 rfl (Nat.le_of_ble_eq_true rfl) dX9_fogs_50 ⟨Nat.le_of_ble_eq_true rfl, Nat.le_of_ble_eq_true rfl⟩) hP hD hS hA [0, 1, 2, 3, 4, 5, 6, 7, 8, 9, 10, 11, 12, 13, 14, 15, 16, 17] [18, 19, 20, 21, 22, 23, 24, 25, 26] rfl rfl rfl (by decide) (fun r_223 w H locs hw hP hD hS => ?_)
          refine W.widen (k := 10) (n := 46481) (Nat.le_of_ble_eq_true rfl) (Nat.le_of_ble_eq_true rfl) ?_
          obtain ⟨n, L, Yw, wa_224, wb_225, f_226, f_227, f_228, v_229, v_230, v_231, v_232, v_233, v_234, f_235, f_236, f_237, f_238, f_239, f_240, f_241, f_242, f_243, hn, hL, tf_226, bv_229, bv_230, bv_231, bv_232, bv_233, bv_234, tf_235, tf_238, tf_239, tf_240, tf_241, eW, g_244, g_245, g_246, g_247, g_248, kn_249, rfl⟩ := hw
          have hP : va_P V.1 vwCl [(y 30, aT V 4 (va_up (va_up (va_up (va_up (fun _ => none) 0 (some (y 33))) 1 (some (y 35))) 2 (some (y 37))) 3 (some (y 39)))), (y 33, .inr (7, o7_rii (y 34) py33_1 py33_2)), (y 34, aJ V 40 fy34), (y 35, .inr (7, o7_rii (y 36) py35_1 py35_2)), (y 36, aJ V 40 fy36), (y 37, .inr (7, o7_rii (y 38) py37_1 py37_2)), (y 38, aJ V 40 fy38), (y 39, .inr (7, o7_rii (y 40) py39_1 py39_2)), (y 40, aJ V 40 fy40), (y 3, aI V 4 fy3), (y 9, aI V 900 fy9), (y 19, .inr (4, o4_rrrrrr (y 2) (y 20) (y 21) (y 22) (y 23) (y 24))), (y 20, aI V 2000 f_226), (y 21, aI V 6 f_227), (y 22, aI V 64 f_228), (y 0, .inr (9, o9_rirrrrrrrrrviii (y 1) py0_1 (y 2) (y 10) (y 19) (y 25) (y 26) (y 30) (y 31) (y 32) (Yw 0) o11 py0_12 py0_13 py0_14)), (y 2, .inr (1, o1_iiiiiirrrrrrriiiii py2_0 py2_1 py2_2 py2_3 py2_4 py2_5 (y 3) (y 4) (y 5) (y 6) (y 7) (y 8) (y 9) py2_13 py2_14 py2_15 py2_16 py2_17)), (Yw 0, .inr (8, o8_iirrriirrrrrrriii v_229 (nI n) (Yw 1) (Yw 2) wa_224 v_230 v_231 (y 19) (Yw 4) (Yw 5) (Yw 6) (Yw 7) (Yw 8) wb_225 v_232 v_233 v_234)), (Yw 1, aI V n f_235), (Yw 2, aI V n f_236), (wa_224, aI V n f_237), (Yw 4, aI V L f_238), (Yw 5, aI V n f_239), (Yw 6, aI V (n * 4) f_240), (Yw 7, aI V n f_241), (Yw 8, aI V 4 f_242), (wb_225, aI V n f_243)] H := hP
          have hD := cpD hP hD
          rw [← eW]
          refine lv_astore (lv' := [(5, .ref (Yw 0)), (4, .int 0), (0, .ref (y 0)), (1, .int 0), (2, .int a2), (3, .int a3)]) hx hb dX9_fogs_53 hl (by decide) rfl (fun ls hl => ?_)
          refine lv_aload hx hb dX9_fogs_55 (lv_at hl 0 rfl) ?_
          refine lv_aload_n hx hb dX9_fogs_57 rfl (lv_at hl 2 rfl) ?_
          refine va_get (ci := 9) (v := .ref (y 30)) (C := RX9) (T := TX9) (N := 15) hx hb hg inX9 hown hK hP 15 rfl rfl 7 (by decide) (hg _ q_2_43) (fun _ h9 => h9) rfl dX9_fogs_58 ?_
          refine lv_iload_n hx hb dX9_fogs_61 rfl (lv_at hl 3 rfl) ?_
          refine va_aldq hx hb hK hP 0 4 rfl rfl (vin (by decide +kernel)) dX9_fogs_62 ?_
          refine W.eq (g2 := F0 m 63 ls (.ref (y 33) :: .ref (Yw 0) :: [])) rfl ?_
          refine lv_iload_n hx hb dX9_fogs_63 rfl (lv_at hl 4 rfl) ?_
          refine jnV (wr := [(y 30, aT V 4 (va_up (va_up (va_up (va_up (fun _ => none) 0 (some (y 33))) 1 (some (y 35))) 2 (some (y 37))) 3 (some (y 39)))), (y 35, .inr (7, o7_rii (y 36) py35_1 py35_2)), (y 36, aJ V 40 fy36), (y 37, .inr (7, o7_rii (y 38) py37_1 py37_2)), (y 38, aJ V 40 fy38), (y 39, .inr (7, o7_rii (y 40) py39_1 py39_2)), (y 40, aJ V 40 fy40), (y 3, aI V 4 fy3), (y 9, aI V 900 fy9), (y 19, .inr (4, o4_rrrrrr (y 2) (y 20) (y 21) (y 22) (y 23) (y 24))), (y 20, aI V 2000 f_226), (y 21, aI V 6 f_227), (y 22, aI V 64 f_228), (y 0, .inr (9, o9_rirrrrrrrrrviii (y 1) py0_1 (y 2) (y 10) (y 19) (y 25) (y 26) (y 30) (y 31) (y 32) (Yw 0) o11 py0_12 py0_13 py0_14)), (y 2, .inr (1, o1_iiiiiirrrrrrriiiii py2_0 py2_1 py2_2 py2_3 py2_4 py2_5 (y 3) (y 4) (y 5) (y 6) (y 7) (y 8) (y 9) py2_13 py2_14 py2_15 py2_16 py2_17)), (Yw 4, aI V L f_238), (Yw 5, aI V n f_239), (Yw 7, aI V n f_241), (Yw 8, aI V 4 f_242), (wb_225, aI V n f_243)]) (rnV (rest := []) ⟨hx, hb, hml, hown, hg⟩ (k_X8_traceTold_0 l V n L Yw y a2 py33_1 py33_2 fy34 v_229 wa_224 v_230 v_231 wb_225 v_232 v_233 v_234 f_235 f_236 f_237 f_240 hn hL b_210 (iv_w b_215 (by first | decide | omega)) bv_229 bv_230 bv_231 bv_232 bv_233 bv_234 tf_235 tf_240) mt_X8_traceTold q_5_39 ⟨Nat.le_of_ble_eq_true rfl, Nat.le_of_ble_eq_true rfl⟩ hK hP hD hS hA hE [1, 2, 17, 18, 19, 20, 23] rfl rfl 17 rfl rfl rfl rfl hl.1 rfl (Nat.le_of_ble_eq_true rfl) dX9_fogs_64 ⟨Nat.le_of_ble_eq_true rfl, Nat.le_of_ble_eq_true rfl⟩) hP hD hS hA [1, 2, 17, 18, 19, 20, 23] [0, 3, 4, 5, 6, 7, 8, 9, 10, 11, 12, 13, 14, 15, 16, 21, 22, 24, 25, 26] rfl rfl rfl (by decide) (fun  w H locs hw hP hD hS => ?_)
          obtain ⟨f_250, rfl⟩ := hw
          have hP : va_P V.1 vwCl [(y 30, aT V 4 (va_up (va_up (va_up (va_up (fun _ => none) 0 (some (y 33))) 1 (some (y 35))) 2 (some (y 37))) 3 (some (y 39)))), (y 35, .inr (7, o7_rii (y 36) py35_1 py35_2)), (y 36, aJ V 40 fy36), (y 37, .inr (7, o7_rii (y 38) py37_1 py37_2)), (y 38, aJ V 40 fy38), (y 39, .inr (7, o7_rii (y 40) py39_1 py39_2)), (y 40, aJ V 40 fy40), (y 3, aI V 4 fy3), (y 9, aI V 900 fy9), (y 19, .inr (4, o4_rrrrrr (y 2) (y 20) (y 21) (y 22) (y 23) (y 24))), (y 20, aI V 2000 f_226), (y 21, aI V 6 f_227), (y 22, aI V 64 f_228), (y 0, .inr (9, o9_rirrrrrrrrrviii (y 1) py0_1 (y 2) (y 10) (y 19) (y 25) (y 26) (y 30) (y 31) (y 32) (Yw 0) o11 py0_12 py0_13 py0_14)), (y 2, .inr (1, o1_iiiiiirrrrrrriiiii py2_0 py2_1 py2_2 py2_3 py2_4 py2_5 (y 3) (y 4) (y 5) (y 6) (y 7) (y 8) (y 9) py2_13 py2_14 py2_15 py2_16 py2_17)), (Yw 4, aI V L f_238), (Yw 5, aI V n f_239), (Yw 7, aI V n f_241), (Yw 8, aI V 4 f_242), (wb_225, aI V n f_243), (y 33, .inr (7, o7_rii (y 34) py33_1 py33_2)), (y 34, aJ V 40 fy34), (Yw 0, .inr (8, o8_iirrriirrrrrrriii v_229 (nI n) (Yw 1) (Yw 2) wa_224 v_230 v_231 (y 19) (Yw 4) (Yw 5) (Yw 6) (Yw 7) (Yw 8) wb_225 v_232 v_233 v_234)), (Yw 1, aI V n f_235), (Yw 2, aI V n f_236), (wa_224, aI V n f_250), (Yw 6, aI V (n * 4) f_240)] H := hP
          have hD := cpD hP hD
          refine lv_aload hx hb dX9_fogs_67 (lv_at hl 0 rfl) ?_
          refine lv_iload_n hx hb dX9_fogs_69 rfl (lv_at hl 5 rfl) ?_
          refine jnI (wr := [(y 30, aT V 4 (va_up (va_up (va_up (va_up (fun _ => none) 0 (some (y 33))) 1 (some (y 35))) 2 (some (y 37))) 3 (some (y 39)))), (y 35, .inr (7, o7_rii (y 36) py35_1 py35_2)), (y 36, aJ V 40 fy36), (y 37, .inr (7, o7_rii (y 38) py37_1 py37_2)), (y 38, aJ V 40 fy38), (y 39, .inr (7, o7_rii (y 40) py39_1 py39_2)), (y 40, aJ V 40 fy40), (y 3, aI V 4 fy3), (y 9, aI V 900 fy9), (y 19, .inr (4, o4_rrrrrr (y 2) (y 20) (y 21) (y 22) (y 23) (y 24))), (y 20, aI V 2000 f_226), (y 21, aI V 6 f_227), (y 22, aI V 64 f_228), (y 0, .inr (9, o9_rirrrrrrrrrviii (y 1) py0_1 (y 2) (y 10) (y 19) (y 25) (y 26) (y 30) (y 31) (y 32) (Yw 0) o11 py0_12 py0_13 py0_14)), (y 2, .inr (1, o1_iiiiiirrrrrrriiiii py2_0 py2_1 py2_2 py2_3 py2_4 py2_5 (y 3) (y 4) (y 5) (y 6) (y 7) (y 8) (y 9) py2_13 py2_14 py2_15 py2_16 py2_17)), (Yw 4, aI V L f_238), (Yw 5, aI V n f_239), (Yw 7, aI V n f_241), (Yw 8, aI V 4 f_242), (wb_225, aI V n f_243), (y 33, .inr (7, o7_rii (y 34) py33_1 py33_2)), (y 34, aJ V 40 fy34), (Yw 1, aI V n f_235)]) (rnV (rest := []) ⟨hx, hb, hml, hown, hg⟩ (k_X8_allTraced_0 l V n Yw y a3 v_229 wa_224 v_230 v_231 wb_225 v_232 v_233 v_234 f_236 f_250 f_240 hn (iv_w b_222 (by first | decide | omega)) bv_229 bv_230 bv_231 bv_232 bv_233 bv_234 tf_240) mt_X8_allTraced q_5_59 ⟨Nat.le_of_ble_eq_true rfl, Nat.le_of_ble_eq_true rfl⟩ hK hP hD hS hA hE [22, 24, 25, 26] rfl rfl 22 rfl rfl rfl rfl hl.1 rfl (Nat.le_of_ble_eq_true rfl) dX9_fogs_70 ⟨Nat.le_of_ble_eq_true rfl, Nat.le_of_ble_eq_true rfl⟩) hP hD hS hA [22, 24, 25, 26] [0, 1, 2, 3, 4, 5, 6, 7, 8, 9, 10, 11, 12, 13, 14, 15, 16, 17, 18, 19, 20, 21, 23] rfl rfl rfl (by decide) (fun r_251 w H locs hw hP hD hS => ?_)
          subst hw
          have hP : va_P V.1 vwCl [(y 30, aT V 4 (va_up (va_up (va_up (va_up (fun _ => none) 0 (some (y 33))) 1 (some (y 35))) 2 (some (y 37))) 3 (some (y 39)))), (y 35, .inr (7, o7_rii (y 36) py35_1 py35_2)), (y 36, aJ V 40 fy36), (y 37, .inr (7, o7_rii (y 38) py37_1 py37_2)), (y 38, aJ V 40 fy38), (y 39, .inr (7, o7_rii (y 40) py39_1 py39_2)), (y 40, aJ V 40 fy40), (y 3, aI V 4 fy3), (y 9, aI V 900 fy9), (y 19, .inr (4, o4_rrrrrr (y 2) (y 20) (y 21) (y 22) (y 23) (y 24))), (y 20, aI V 2000 f_226), (y 21, aI V 6 f_227), (y 22, aI V 64 f_228), (y 0, .inr (9, o9_rirrrrrrrrrviii (y 1) py0_1 (y 2) (y 10) (y 19) (y 25) (y 26) (y 30) (y 31) (y 32) (Yw 0) o11 py0_12 py0_13 py0_14)), (y 2, .inr (1, o1_iiiiiirrrrrrriiiii py2_0 py2_1 py2_2 py2_3 py2_4 py2_5 (y 3) (y 4) (y 5) (y 6) (y 7) (y 8) (y 9) py2_13 py2_14 py2_15 py2_16 py2_17)), (Yw 4, aI V L f_238), (Yw 5, aI V n f_239), (Yw 7, aI V n f_241), (Yw 8, aI V 4 f_242), (wb_225, aI V n f_243), (y 33, .inr (7, o7_rii (y 34) py33_1 py33_2)), (y 34, aJ V 40 fy34), (Yw 1, aI V n f_235), (Yw 0, .inr (8, o8_iirrriirrrrrrriii v_229 (nI n) (Yw 1) (Yw 2) wa_224 v_230 v_231 (y 19) (Yw 4) (Yw 5) (Yw 6) (Yw 7) (Yw 8) wb_225 v_232 v_233 v_234)), (Yw 2, aI V n f_236), (wa_224, aI V n f_250), (Yw 6, aI V (n * 4) f_240)] H := hP
          have hD := cpD hP hD
          have hP := subP (ws' := [(y 0, .inr (9, o9_rirrrrrrrrrviii (y 1) py0_1 (y 2) (y 10) (y 19) (y 25) (y 26) (y 30) (y 31) (y 32) (Yw 0) o11 py0_12 py0_13 py0_14)), (y 2, .inr (1, o1_iiiiiirrrrrrriiiii py2_0 py2_1 py2_2 py2_3 py2_4 py2_5 (y 3) (y 4) (y 5) (y 6) (y 7) (y 8) (y 9) py2_13 py2_14 py2_15 py2_16 py2_17)), (y 3, aI V 4 fy3), (y 9, aI V 900 fy9), (y 19, .inr (4, o4_rrrrrr (y 2) (y 20) (y 21) (y 22) (y 23) (y 24))), (y 20, aI V 2000 f_226), (y 21, aI V 6 f_227), (y 22, aI V 64 f_228), (y 30, aT V 4 (va_up (va_up (va_up (va_up (fun _ => none) 0 (some (y 33))) 1 (some (y 35))) 2 (some (y 37))) 3 (some (y 39)))), (y 33, .inr (7, o7_rii (y 34) py33_1 py33_2)), (y 34, aJ V 40 fy34), (y 35, .inr (7, o7_rii (y 36) py35_1 py35_2)), (y 36, aJ V 40 fy36), (y 37, .inr (7, o7_rii (y 38) py37_1 py37_2)), (y 38, aJ V 40 fy38), (y 39, .inr (7, o7_rii (y 40) py39_1 py39_2)), (y 40, aJ V 40 fy40), (Yw 0, .inr (8, o8_iirrriirrrrrrriii v_229 (nI n) (Yw 1) (Yw 2) wa_224 v_230 v_231 (y 19) (Yw 4) (Yw 5) (Yw 6) (Yw 7) (Yw 8) wb_225 v_232 v_233 v_234)), (Yw 1, aI V n f_235), (Yw 2, aI V n f_236), (wa_224, aI V n f_250), (Yw 4, aI V L f_238), (Yw 5, aI V n f_239), (Yw 6, aI V (n * 4) f_240), (Yw 7, aI V n f_241), (Yw 8, aI V 4 f_242), (wb_225, aI V n f_243)]) hP [13, 14, 7, 8, 9, 10, 11, 12, 0, 20, 21, 1, 2, 3, 4, 5, 6, 23, 22, 24, 25, 15, 16, 26, 17, 18, 19] rfl
          have hD := subD hP hD [13, 14, 7, 8, 9, 10, 11, 12, 0, 20, 21, 1, 2, 3, 4, 5, 6, 23, 22, 24, 25, 15, 16, 26, 17, 18, 19] rfl rfl
          exact fiI hx hb hr hlk hK (subP (ws' := [(y 0, .inr (9, o9_rirrrrrrrrrviii (y 1) py0_1 (y 2) (y 10) (y 19) (y 25) (y 26) (y 30) (y 31) (y 32) (Yw 0) o11 py0_12 py0_13 py0_14)), (y 2, .inr (1, o1_iiiiiirrrrrrriiiii py2_0 py2_1 py2_2 py2_3 py2_4 py2_5 (y 3) (y 4) (y 5) (y 6) (y 7) (y 8) (y 9) py2_13 py2_14 py2_15 py2_16 py2_17)), (y 3, aI V 4 fy3), (y 9, aI V 900 fy9), (y 19, .inr (4, o4_rrrrrr (y 2) (y 20) (y 21) (y 22) (y 23) (y 24))), (y 20, aI V 2000 f_226), (y 21, aI V 6 f_227), (y 22, aI V 64 f_228), (y 30, aT V 4 (va_up (va_up (va_up (va_up (fun _ => none) 0 (some (y 33))) 1 (some (y 35))) 2 (some (y 37))) 3 (some (y 39)))), (y 33, .inr (7, o7_rii (y 34) py33_1 py33_2)), (y 34, aJ V 40 fy34), (y 35, .inr (7, o7_rii (y 36) py35_1 py35_2)), (y 36, aJ V 40 fy36), (y 37, .inr (7, o7_rii (y 38) py37_1 py37_2)), (y 38, aJ V 40 fy38), (y 39, .inr (7, o7_rii (y 40) py39_1 py39_2)), (y 40, aJ V 40 fy40), (Yw 0, .inr (8, o8_iirrriirrrrrrriii v_229 (nI n) (Yw 1) (Yw 2) wa_224 v_230 v_231 (y 19) (Yw 4) (Yw 5) (Yw 6) (Yw 7) (Yw 8) wb_225 v_232 v_233 v_234)), (Yw 1, aI V n f_235), (Yw 2, aI V n f_236), (wa_224, aI V n f_250), (Yw 4, aI V L f_238), (Yw 5, aI V n f_239), (Yw 6, aI V (n * 4) f_240), (Yw 7, aI V n f_241), (Yw 8, aI V 4 f_242), (wb_225, aI V n f_243)]) hP [0, 1, 2, 3, 4, 5, 6, 7, 8, 9, 10, 11, 12, 13, 14, 15, 16, 17, 18, 19, 20, 21, 22, 23, 24, 25, 26] rfl) (hD.sub [0, 1, 2, 3, 4, 5, 6, 7, 8, 9, 10, 11, 12, 13, 14, 15, 16, 17, 18, 19, 20, 21, 22, 23, 24, 25, 26] rfl rfl) hS dX9_fogs_73 (Nat.le_of_ble_eq_true rfl) (Nat.le_of_ble_eq_true rfl) (⟨n, L, Yw, wa_224, wb_225, f_226, f_227, f_228, v_229, v_230, v_231, v_232, v_233, v_234, f_235, f_236, f_250, f_238, f_239, f_240, f_241, f_242, f_243, hn, hL, tf_226, bv_229, bv_230, bv_231, bv_232, bv_233, bv_234, tf_235, tf_238, tf_239, tf_240, tf_241, g_244, g_245, g_246, g_248, kn_249, rfl⟩)
        · have b_252 : iv 1 2147483647 a3 := iv_e2 (Int32.not_lt.mp c_221) b_215 b_219 (by first | decide | omega)
          refine lv_bipush (v := (-7)) hx hb dX9_fogs_37 (by decide) ?_
          have z_0 := Int32.lt_iff_toInt_lt.mp hq0
          have z_1 := Int32.le_iff_toInt_le.mp (Int32.not_lt.mp c_24)
          have z_2 := Int32.lt_iff_toInt_lt.mp (Int32.not_le.mp c_25)
          have z_3 := Int32.le_iff_toInt_le.mp (Int32.not_lt.mp c_26)
          have z_4 := Int32.lt_iff_toInt_lt.mp (Int32.not_le.mp c_27)
          have z_5 := congrArg Int32.toInt c_28
          have z_6 := Int32.le_iff_toInt_le.mp c_29
          have z_7 := Int32.le_iff_toInt_le.mp (Int32.not_lt.mp c_30)
          have z_8 := Int32.le_iff_toInt_le.mp c_31
          have z_9 := Int32.le_iff_toInt_le.mp c_218
          have z_10 := Int32.le_iff_toInt_le.mp (Int32.not_lt.mp c_221)
          have k_0 : (0 : Int32).toInt = 0 := (by decide)
          have k_1 : (1 : Int32).toInt = 1 := (by decide)
          have k_4 : (4 : Int32).toInt = 4 := (by decide)
          have k_8 : (8 : Int32).toInt = 8 := (by decide)
          exfalso
          have g_0 := hf3
          have g_1 := hf4
          have g_2 := hf5
          rw [cntF_0] at g_2
          omega
    · have b_253 : iv (-2147483648) (-1) a3 := iv_l1 (Int32.not_le.mp c_218) (iv_top a3) (iv_c (0 : Int32) (a := 0) (b := 0) (by decide)) (by first | decide | omega)
      refine lv_bipush (v := (-3)) hx hb dX9_fogs_21 (by decide) ?_
      have z_0 := Int32.lt_iff_toInt_lt.mp hq0
      have z_1 := Int32.le_iff_toInt_le.mp (Int32.not_lt.mp c_24)
      have z_2 := Int32.lt_iff_toInt_lt.mp (Int32.not_le.mp c_25)
      have z_3 := Int32.le_iff_toInt_le.mp (Int32.not_lt.mp c_26)
      have z_4 := Int32.lt_iff_toInt_lt.mp (Int32.not_le.mp c_27)
      have z_5 := congrArg Int32.toInt c_28
      have z_6 := Int32.le_iff_toInt_le.mp c_29
      have z_7 := Int32.le_iff_toInt_le.mp (Int32.not_lt.mp c_30)
      have z_8 := Int32.le_iff_toInt_le.mp c_31
      have z_9 := Int32.lt_iff_toInt_lt.mp (Int32.not_le.mp c_218)
      have k_0 : (0 : Int32).toInt = 0 := (by decide)
      have k_1 : (1 : Int32).toInt = 1 := (by decide)
      have k_4 : (4 : Int32).toInt = 4 := (by decide)
      have k_8 : (8 : Int32).toInt = 8 := (by decide)
      exfalso
      have g_0 := hf3
      have g_1 := hf4
      have g_2 := hf5
      omega
  · have hP : va_P V.1 vwCl [(y 3, aI V 4 fy3), (y 9, aI V 900 fy9), (y 19, .inr (4, o4_rrrrrr (y 2) (y 20) (y 21) (y 22) (y 23) (y 24))), (y 20, aI V 2000 fy20), (y 21, aI V 6 fy21), (y 22, aI V 64 fy22), (Yw 0, .inr (8, o8_iirrriirrrrrrriii pYw0_0 (nI n) (Yw 1) (Yw 2) wa pYw0_5 pYw0_6 (y 19) (Yw 4) (Yw 5) (Yw 6) (Yw 7) (Yw 8) wb pYw0_14 pYw0_15 pYw0_16)), (Yw 1, aI V n fYw1), (Yw 2, aI V n fYw2), (wa, aI V n fwa), (Yw 4, aI V L fYw4), (Yw 5, aI V n fYw5), (Yw 6, aI V (n * 4) fYw6), (Yw 7, aI V n fYw7), (Yw 8, aI V 4 fYw8), (wb, aI V n fwb), (y 0, .inr (9, o9_rirrrrrrrrrviii (y 1) py0_1 (y 2) (y 10) (y 19) (y 25) (y 26) (y 30) (y 31) (y 32) (Yw 0) o11 py0_12 py0_13 py0_14)), (y 2, .inr (1, o1_iiiiiirrrrrrriiiii py2_0 py2_1 py2_2 py2_3 py2_4 py2_5 (y 3) (y 4) (y 5) (y 6) (y 7) (y 8) (y 9) py2_13 py2_14 py2_15 py2_16 py2_17)), (y 30, aT V 4 (va_up (va_up (va_up (va_up (fun _ => none) 0 (some (y 33))) 1 (some (y 35))) 2 (some (y 37))) 3 (some (y 39)))), (y 33, .inr (7, o7_rii (y 34) py33_1 py33_2)), (y 34, aJ V 40 fy34), (y 35, .inr (7, o7_rii (y 36) py35_1 py35_2)), (y 36, aJ V 40 fy36), (y 37, .inr (7, o7_rii (y 38) py37_1 py37_2)), (y 38, aJ V 40 fy38), (y 39, .inr (7, o7_rii (y 40) py39_1 py39_2)), (y 40, aJ V 40 fy40)] H := hP
    have hD := cpD hP hD
    have b_254 : iv 0 2147483647 a2 := iv_e2 (Int32.not_lt.mp c_35) (iv_c (0 : Int32) (a := 0) (b := 0) (by decide)) (iv_top a2) (by first | decide | omega)
    have b_255 : iv 0 3 a2 := iv_l1 (Int32.not_le.mp c_36) b_254 bpy2_1 (by first | decide | omega)
    have b_256 : iv 1 4 py2_1 := iv_l2 (Int32.not_le.mp c_36) b_254 bpy2_1 (by first | decide | omega)
    have b_257 : iv 0 0 a1 := iv_q c_37 (iv_c (0 : Int32) (a := 0) (b := 0) (by decide))
    have b_258 : iv 0 40 py33_1 := iv_e2 c_38 (iv_c (0 : Int32) (a := 0) (b := 0) (by decide)) bpy33_1 (by first | decide | omega)
    have b_259 : iv 1 40 py33_1 := iv_e2 (Int32.not_lt.mp c_39) (iv_c (1 : Int32) (a := 1) (b := 1) (by decide)) b_258 (by first | decide | omega)
    have b_260 : iv 1 8 py33_1 := iv_e1 c_40 b_259 (iv_c (8 : Int32) (a := 8) (b := 8) (by decide)) (by first | decide | omega)
    refine lv_istore (lv' := [(4, .int (-3)), (0, .ref (y 0)), (1, .int a1), (2, .int a2), (3, .int a3)]) hx hb dX9_fogs_7 hl (by decide) rfl (fun ls hl => ?_)
    refine lv_iload hx hb dX9_fogs_9 (lv_at hl 0 rfl) ?_
    refine lv_if_eq (tgt := 17) hx hb dX9_fogs_11 (by decide) (fun c_262 => absurd c_262 (by decide)) (fun _ => ?_)
    refine lv_iload hx hb dX9_fogs_14 (lv_at hl 0 rfl) ?_
    have z_0 := Int32.lt_iff_toInt_lt.mp hq0
    have z_1 := Int32.le_iff_toInt_le.mp (Int32.not_lt.mp c_33)
    have z_2 := Int32.lt_iff_toInt_lt.mp (Int32.not_le.mp c_34)
    have z_3 := Int32.le_iff_toInt_le.mp (Int32.not_lt.mp c_35)
    have z_4 := Int32.lt_iff_toInt_lt.mp (Int32.not_le.mp c_36)
    have z_5 := congrArg Int32.toInt c_37
    have z_6 := Int32.le_iff_toInt_le.mp c_38
    have z_7 := Int32.le_iff_toInt_le.mp (Int32.not_lt.mp c_39)
    have z_8 := Int32.le_iff_toInt_le.mp c_40
    have k_0 : (0 : Int32).toInt = 0 := (by decide)
    have k_1 : (1 : Int32).toInt = 1 := (by decide)
    have k_4 : (4 : Int32).toInt = 4 := (by decide)
    have k_8 : (8 : Int32).toInt = 8 := (by decide)
    exfalso
    have g_0 := hf3
    have g_1 := hf4
    have g_2 := hf5
    exact absurd (g_41.trans g_0) (by decide)
  · have hP : va_P V.1 vwCl [(y 3, aI V 4 fy3), (y 9, aI V 900 fy9), (y 19, .inr (4, o4_rrrrrr (y 2) (y 20) (y 21) (y 22) (y 23) (y 24))), (y 20, aI V 2000 fy20), (y 21, aI V 6 fy21), (y 22, aI V 64 fy22), (Yw 0, .inr (8, o8_iirrriirrrrrrriii pYw0_0 (nI n) (Yw 1) (Yw 2) wa pYw0_5 pYw0_6 (y 19) (Yw 4) (Yw 5) (Yw 6) (Yw 7) (Yw 8) wb pYw0_14 pYw0_15 pYw0_16)), (Yw 1, aI V n fYw1), (Yw 2, aI V n fYw2), (wa, aI V n fwa), (Yw 4, aI V L fYw4), (Yw 5, aI V n fYw5), (Yw 6, aI V (n * 4) fYw6), (Yw 7, aI V n fYw7), (Yw 8, aI V 4 fYw8), (wb, aI V n fwb), (y 0, .inr (9, o9_rirrrrrrrrrviii (y 1) py0_1 (y 2) (y 10) (y 19) (y 25) (y 26) (y 30) (y 31) (y 32) (Yw 0) o11 py0_12 py0_13 py0_14)), (y 2, .inr (1, o1_iiiiiirrrrrrriiiii py2_0 py2_1 py2_2 py2_3 py2_4 py2_5 (y 3) (y 4) (y 5) (y 6) (y 7) (y 8) (y 9) py2_13 py2_14 py2_15 py2_16 py2_17)), (y 30, aT V 4 (va_up (va_up (va_up (va_up (fun _ => none) 0 (some (y 33))) 1 (some (y 35))) 2 (some (y 37))) 3 (some (y 39)))), (y 33, .inr (7, o7_rii (y 34) py33_1 py33_2)), (y 34, aJ V 40 fy34), (y 35, .inr (7, o7_rii (y 36) py35_1 py35_2)), (y 36, aJ V 40 fy36), (y 37, .inr (7, o7_rii (y 38) py37_1 py37_2)), (y 38, aJ V 40 fy38), (y 39, .inr (7, o7_rii (y 40) py39_1 py39_2)), (y 40, aJ V 40 fy40)] H := hP
    have hD := cpD hP hD
    have b_263 : iv 0 2147483647 a2 := iv_e2 (Int32.not_lt.mp c_44) (iv_c (0 : Int32) (a := 0) (b := 0) (by decide)) (iv_top a2) (by first | decide | omega)
    have b_264 : iv 0 3 a2 := iv_l1 (Int32.not_le.mp c_45) b_263 bpy2_1 (by first | decide | omega)
    have b_265 : iv 1 4 py2_1 := iv_l2 (Int32.not_le.mp c_45) b_263 bpy2_1 (by first | decide | omega)
    have b_266 : iv 0 0 a1 := iv_q c_46 (iv_c (0 : Int32) (a := 0) (b := 0) (by decide))
    have b_267 : iv 0 40 py33_1 := iv_e2 c_47 (iv_c (0 : Int32) (a := 0) (b := 0) (by decide)) bpy33_1 (by first | decide | omega)
    have b_268 : iv 1 40 py33_1 := iv_e2 (Int32.not_lt.mp c_48) (iv_c (1 : Int32) (a := 1) (b := 1) (by decide)) b_267 (by first | decide | omega)
    have b_269 : iv 9 40 py33_1 := iv_l2 (Int32.not_le.mp c_49) (iv_c (8 : Int32) (a := 8) (b := 8) (by decide)) b_268 (by first | decide | omega)
    refine lv_istore (lv' := [(4, .int (-4)), (0, .ref (y 0)), (1, .int a1), (2, .int a2), (3, .int a3)]) hx hb dX9_fogs_7 hl (by decide) rfl (fun ls hl => ?_)
    refine lv_iload hx hb dX9_fogs_9 (lv_at hl 0 rfl) ?_
    refine lv_if_eq (tgt := 17) hx hb dX9_fogs_11 (by decide) (fun c_271 => absurd c_271 (by decide)) (fun _ => ?_)
    refine lv_iload hx hb dX9_fogs_14 (lv_at hl 0 rfl) ?_
    have z_0 := Int32.lt_iff_toInt_lt.mp hq0
    have z_1 := Int32.le_iff_toInt_le.mp (Int32.not_lt.mp c_42)
    have z_2 := Int32.lt_iff_toInt_lt.mp (Int32.not_le.mp c_43)
    have z_3 := Int32.le_iff_toInt_le.mp (Int32.not_lt.mp c_44)
    have z_4 := Int32.lt_iff_toInt_lt.mp (Int32.not_le.mp c_45)
    have z_5 := congrArg Int32.toInt c_46
    have z_6 := Int32.le_iff_toInt_le.mp c_47
    have z_7 := Int32.le_iff_toInt_le.mp (Int32.not_lt.mp c_48)
    have z_8 := Int32.lt_iff_toInt_lt.mp (Int32.not_le.mp c_49)
    have k_0 : (0 : Int32).toInt = 0 := (by decide)
    have k_1 : (1 : Int32).toInt = 1 := (by decide)
    have k_4 : (4 : Int32).toInt = 4 := (by decide)
    have k_8 : (8 : Int32).toInt = 8 := (by decide)
    exfalso
    have g_0 := hf3
    have g_1 := hf4
    have g_2 := hf5
    exact absurd (g_50.trans g_0) (by decide)
  · have hP : va_P V.1 vwCl [(y 3, aI V 4 fy3), (y 9, aI V 900 fy9), (y 19, .inr (4, o4_rrrrrr (y 2) (y 20) (y 21) (y 22) (y 23) (y 24))), (y 20, aI V 2000 fy20), (y 21, aI V 6 fy21), (y 22, aI V 64 fy22), (Yw 0, .inr (8, o8_iirrriirrrrrrriii pYw0_0 (nI n) (Yw 1) (Yw 2) wa pYw0_5 pYw0_6 (y 19) (Yw 4) (Yw 5) (Yw 6) (Yw 7) (Yw 8) wb pYw0_14 pYw0_15 pYw0_16)), (Yw 1, aI V n fYw1), (Yw 2, aI V n fYw2), (wa, aI V n fwa), (Yw 4, aI V L fYw4), (Yw 5, aI V n fYw5), (Yw 6, aI V (n * 4) fYw6), (Yw 7, aI V n fYw7), (Yw 8, aI V 4 fYw8), (wb, aI V n fwb), (y 0, .inr (9, o9_rirrrrrrrrrviii (y 1) py0_1 (y 2) (y 10) (y 19) (y 25) (y 26) (y 30) (y 31) (y 32) (Yw 0) o11 py0_12 py0_13 py0_14)), (y 2, .inr (1, o1_iiiiiirrrrrrriiiii py2_0 py2_1 py2_2 py2_3 py2_4 py2_5 (y 3) (y 4) (y 5) (y 6) (y 7) (y 8) (y 9) py2_13 py2_14 py2_15 py2_16 py2_17)), (y 30, aT V 4 (va_up (va_up (va_up (va_up (fun _ => none) 0 (some (y 33))) 1 (some (y 35))) 2 (some (y 37))) 3 (some (y 39)))), (y 33, .inr (7, o7_rii (y 34) py33_1 py33_2)), (y 34, aJ V 40 fy34), (y 35, .inr (7, o7_rii (y 36) py35_1 py35_2)), (y 36, aJ V 40 fy36), (y 37, .inr (7, o7_rii (y 38) py37_1 py37_2)), (y 38, aJ V 40 fy38), (y 39, .inr (7, o7_rii (y 40) py39_1 py39_2)), (y 40, aJ V 40 fy40)] H := hP
    have hD := cpD hP hD
    have b_272 : iv 0 2147483647 a2 := iv_e2 (Int32.not_lt.mp c_53) (iv_c (0 : Int32) (a := 0) (b := 0) (by decide)) (iv_top a2) (by first | decide | omega)
    have b_273 : iv 0 3 a2 := iv_l1 (Int32.not_le.mp c_54) b_272 bpy2_1 (by first | decide | omega)
    have b_274 : iv 1 4 py2_1 := iv_l2 (Int32.not_le.mp c_54) b_272 bpy2_1 (by first | decide | omega)
    have b_275 : iv 0 0 a1 := iv_q c_55 (iv_c (0 : Int32) (a := 0) (b := 0) (by decide))
    have b_276 : iv (-1) (-1) py33_1 := iv_l1 (Int32.not_le.mp c_56) bpy33_1 (iv_c (0 : Int32) (a := 0) (b := 0) (by decide)) (by first | decide | omega)
    refine lv_istore (lv' := [(4, .int (-6)), (0, .ref (y 0)), (1, .int a1), (2, .int a2), (3, .int a3)]) hx hb dX9_fogs_7 hl (by decide) rfl (fun ls hl => ?_)
    refine lv_iload hx hb dX9_fogs_9 (lv_at hl 0 rfl) ?_
    refine lv_if_eq (tgt := 17) hx hb dX9_fogs_11 (by decide) (fun c_278 => absurd c_278 (by decide)) (fun _ => ?_)
    refine lv_iload hx hb dX9_fogs_14 (lv_at hl 0 rfl) ?_
    have z_0 := Int32.lt_iff_toInt_lt.mp hq0
    have z_1 := Int32.le_iff_toInt_le.mp (Int32.not_lt.mp c_51)
    have z_2 := Int32.lt_iff_toInt_lt.mp (Int32.not_le.mp c_52)
    have z_3 := Int32.le_iff_toInt_le.mp (Int32.not_lt.mp c_53)
    have z_4 := Int32.lt_iff_toInt_lt.mp (Int32.not_le.mp c_54)
    have z_5 := congrArg Int32.toInt c_55
    have z_6 := Int32.lt_iff_toInt_lt.mp (Int32.not_le.mp c_56)
    have k_0 : (0 : Int32).toInt = 0 := (by decide)
    have k_4 : (4 : Int32).toInt = 4 := (by decide)
    exfalso
    have g_0 := hf3
    have g_1 := hf4
    have g_2 := hf5
    exact absurd (g_57.trans g_0) (by decide)
  · have hP : va_P V.1 vwCl [(y 3, aI V 4 fy3), (y 9, aI V 900 fy9), (y 19, .inr (4, o4_rrrrrr (y 2) (y 20) (y 21) (y 22) (y 23) (y 24))), (y 20, aI V 2000 fy20), (y 21, aI V 6 fy21), (y 22, aI V 64 fy22), (Yw 0, .inr (8, o8_iirrriirrrrrrriii pYw0_0 (nI n) (Yw 1) (Yw 2) wa pYw0_5 pYw0_6 (y 19) (Yw 4) (Yw 5) (Yw 6) (Yw 7) (Yw 8) wb pYw0_14 pYw0_15 pYw0_16)), (Yw 1, aI V n fYw1), (Yw 2, aI V n fYw2), (wa, aI V n fwa), (Yw 4, aI V L fYw4), (Yw 5, aI V n fYw5), (Yw 6, aI V (n * 4) fYw6), (Yw 7, aI V n fYw7), (Yw 8, aI V 4 fYw8), (wb, aI V n fwb), (y 0, .inr (9, o9_rirrrrrrrrrviii (y 1) py0_1 (y 2) (y 10) (y 19) (y 25) (y 26) (y 30) (y 31) (y 32) (Yw 0) o11 py0_12 py0_13 py0_14)), (y 2, .inr (1, o1_iiiiiirrrrrrriiiii py2_0 py2_1 py2_2 py2_3 py2_4 py2_5 (y 3) (y 4) (y 5) (y 6) (y 7) (y 8) (y 9) py2_13 py2_14 py2_15 py2_16 py2_17)), (y 30, aT V 4 (va_up (va_up (va_up (va_up (fun _ => none) 0 (some (y 33))) 1 (some (y 35))) 2 (some (y 37))) 3 (some (y 39)))), (y 33, .inr (7, o7_rii (y 34) py33_1 py33_2)), (y 34, aJ V 40 fy34), (y 35, .inr (7, o7_rii (y 36) py35_1 py35_2)), (y 36, aJ V 40 fy36), (y 37, .inr (7, o7_rii (y 38) py37_1 py37_2)), (y 38, aJ V 40 fy38), (y 39, .inr (7, o7_rii (y 40) py39_1 py39_2)), (y 40, aJ V 40 fy40)] H := hP
    have hD := cpD hP hD
    have b_279 : iv 0 2147483647 a2 := iv_e2 (Int32.not_lt.mp c_60) (iv_c (0 : Int32) (a := 0) (b := 0) (by decide)) (iv_top a2) (by first | decide | omega)
    have b_280 : iv 0 3 a2 := iv_l1 (Int32.not_le.mp c_61) b_279 bpy2_1 (by first | decide | omega)
    have b_281 : iv 1 4 py2_1 := iv_l2 (Int32.not_le.mp c_61) b_279 bpy2_1 (by first | decide | omega)
    have b_282 : iv 1 1 a1 := iv_q c_62 (iv_c (1 : Int32) (a := 1) (b := 1) (by decide))
    have b_283 : iv 0 40 py35_1 := iv_e2 c_63 (iv_c (0 : Int32) (a := 0) (b := 0) (by decide)) bpy35_1 (by first | decide | omega)
    have b_284 : iv 0 0 py35_1 := iv_l1 c_64 b_283 (iv_c (1 : Int32) (a := 1) (b := 1) (by decide)) (by first | decide | omega)
    refine lv_istore (lv' := [(4, .int (-4)), (0, .ref (y 0)), (1, .int a1), (2, .int a2), (3, .int a3)]) hx hb dX9_fogs_7 hl (by decide) rfl (fun ls hl => ?_)
    refine lv_iload hx hb dX9_fogs_9 (lv_at hl 0 rfl) ?_
    refine lv_if_eq (tgt := 17) hx hb dX9_fogs_11 (by decide) (fun c_286 => absurd c_286 (by decide)) (fun _ => ?_)
    refine lv_iload hx hb dX9_fogs_14 (lv_at hl 0 rfl) ?_
    have z_0 := Int32.lt_iff_toInt_lt.mp hq0
    have z_1 := Int32.le_iff_toInt_le.mp (Int32.not_lt.mp c_58)
    have z_2 := Int32.lt_iff_toInt_lt.mp (Int32.not_le.mp c_59)
    have z_3 := Int32.le_iff_toInt_le.mp (Int32.not_lt.mp c_60)
    have z_4 := Int32.lt_iff_toInt_lt.mp (Int32.not_le.mp c_61)
    have z_5 := congrArg Int32.toInt c_62
    have z_6 := Int32.le_iff_toInt_le.mp c_63
    have z_7 := Int32.lt_iff_toInt_lt.mp c_64
    have k_0 : (0 : Int32).toInt = 0 := (by decide)
    have k_1 : (1 : Int32).toInt = 1 := (by decide)
    have k_4 : (4 : Int32).toInt = 4 := (by decide)
    exfalso
    have g_0 := hf3
    have g_1 := hf4
    have g_2 := hf5
    exact absurd (g_65.trans g_0) (by decide)
  · have hP : va_P V.1 vwCl [(y 3, aI V 4 fy3), (y 9, aI V 900 fy9), (y 19, .inr (4, o4_rrrrrr (y 2) (y 20) (y 21) (y 22) (y 23) (y 24))), (y 20, aI V 2000 fy20), (y 21, aI V 6 fy21), (y 22, aI V 64 fy22), (Yw 0, .inr (8, o8_iirrriirrrrrrriii pYw0_0 (nI n) (Yw 1) (Yw 2) wa pYw0_5 pYw0_6 (y 19) (Yw 4) (Yw 5) (Yw 6) (Yw 7) (Yw 8) wb pYw0_14 pYw0_15 pYw0_16)), (Yw 1, aI V n fYw1), (Yw 2, aI V n fYw2), (wa, aI V n fwa), (Yw 4, aI V L fYw4), (Yw 5, aI V n fYw5), (Yw 6, aI V (n * 4) fYw6), (Yw 7, aI V n fYw7), (Yw 8, aI V 4 fYw8), (wb, aI V n fwb), (y 0, .inr (9, o9_rirrrrrrrrrviii (y 1) py0_1 (y 2) (y 10) (y 19) (y 25) (y 26) (y 30) (y 31) (y 32) (Yw 0) o11 py0_12 py0_13 py0_14)), (y 2, .inr (1, o1_iiiiiirrrrrrriiiii py2_0 py2_1 py2_2 py2_3 py2_4 py2_5 (y 3) (y 4) (y 5) (y 6) (y 7) (y 8) (y 9) py2_13 py2_14 py2_15 py2_16 py2_17)), (y 30, aT V 4 (va_up (va_up (va_up (va_up (fun _ => none) 0 (some (y 33))) 1 (some (y 35))) 2 (some (y 37))) 3 (some (y 39)))), (y 33, .inr (7, o7_rii (y 34) py33_1 py33_2)), (y 34, aJ V 40 fy34), (y 35, .inr (7, o7_rii (y 36) py35_1 py35_2)), (y 36, aJ V 40 fy36), (y 37, .inr (7, o7_rii (y 38) py37_1 py37_2)), (y 38, aJ V 40 fy38), (y 39, .inr (7, o7_rii (y 40) py39_1 py39_2)), (y 40, aJ V 40 fy40)] H := hP
    have hD := cpD hP hD
    have b_287 : iv 0 2147483647 a2 := iv_e2 (Int32.not_lt.mp c_68) (iv_c (0 : Int32) (a := 0) (b := 0) (by decide)) (iv_top a2) (by first | decide | omega)
    have b_288 : iv 0 3 a2 := iv_l1 (Int32.not_le.mp c_69) b_287 bpy2_1 (by first | decide | omega)
    have b_289 : iv 1 4 py2_1 := iv_l2 (Int32.not_le.mp c_69) b_287 bpy2_1 (by first | decide | omega)
    have b_290 : iv 1 1 a1 := iv_q c_70 (iv_c (1 : Int32) (a := 1) (b := 1) (by decide))
    have b_291 : iv 0 40 py35_1 := iv_e2 c_71 (iv_c (0 : Int32) (a := 0) (b := 0) (by decide)) bpy35_1 (by first | decide | omega)
    have b_292 : iv 1 40 py35_1 := iv_e2 (Int32.not_lt.mp c_72) (iv_c (1 : Int32) (a := 1) (b := 1) (by decide)) b_291 (by first | decide | omega)
    have b_293 : iv 1 8 py35_1 := iv_e1 c_73 b_292 (iv_c (8 : Int32) (a := 8) (b := 8) (by decide)) (by first | decide | omega)
    refine lv_istore (lv' := [(4, .int 0), (0, .ref (y 0)), (1, .int a1), (2, .int a2), (3, .int a3)]) hx hb dX9_fogs_7 hl (by decide) rfl (fun ls hl => ?_)
    refine lv_iload hx hb dX9_fogs_9 (lv_at hl 0 rfl) ?_
    refine lv_if_eq (tgt := 17) hx hb dX9_fogs_11 (by decide) (fun _ => ?_) (fun c_295 => absurd c_295 (by decide))
    refine lv_iload_n hx hb dX9_fogs_17 rfl (lv_at hl 4 rfl) ?_
    refine lv_if_ge (tgt := 24) hx hb dX9_fogs_18 (by decide) (fun c_296 => ?_) (fun c_296 => ?_)
    · have b_297 : iv 0 2147483647 a3 := iv_e2 c_296 (iv_c (0 : Int32) (a := 0) (b := 0) (by decide)) (iv_top a3) (by first | decide | omega)
      refine lv_iload_n hx hb dX9_fogs_24 rfl (lv_at hl 4 rfl) ?_
      refine lv_aload_n hx hb dX9_fogs_25 rfl (lv_at hl 1 rfl) ?_
      refine va_get (ci := 9) (v := .ref (y 30)) (C := RX9) (T := TX9) (N := 15) hx hb hg inX9 hown hK hP 16 rfl rfl 7 (by decide) (hg _ q_2_43) (fun _ h9 => h9) rfl dX9_fogs_26 ?_
      refine lv_iload_n hx hb dX9_fogs_29 rfl (lv_at hl 2 rfl) ?_
      have c_298 : a1 = 1 := by have q9 := b_290; unfold iv at q9; simp only [tI_eq, (by decide : (1 : Int32).toInt = 1)]; omega
      rcases c_298 with rfl
      · refine va_aldq hx hb hK hP 18 4 rfl rfl (vin (by decide +kernel)) dX9_fogs_30 ?_
        refine W.eq (g2 := F0 m 31 ls (.ref (y 35) :: .int a3 :: [])) rfl ?_
        refine va_get (ci := 7) (v := .int py35_1) (C := RX7) (T := TX7) (N := 3) hx hb hg inX7 hown hK hP 21 rfl rfl 1 (by decide) (hg _ q_2_2) (fun _ h9 => h9) rfl dX9_fogs_31 ?_
        refine lv_icmp_lt (tgt := 40) hx hb dX9_fogs_34 (by decide) (fun c_299 => ?_) (fun c_299 => ?_)
        · have b_300 : iv 0 7 a3 := iv_l1 c_299 b_297 b_293 (by first | decide | omega)
          refine lv_aload_n hx hb dX9_fogs_40 rfl (lv_at hl 1 rfl) ?_
          refine lv_aload_n hx hb dX9_fogs_41 rfl (lv_at hl 1 rfl) ?_
          refine va_get (ci := 9) (v := .ref (y 30)) (C := RX9) (T := TX9) (N := 15) hx hb hg inX9 hown hK hP 16 rfl rfl 7 (by decide) (hg _ q_2_43) (fun _ h9 => h9) rfl dX9_fogs_42 ?_
          refine lv_iload_n hx hb dX9_fogs_45 rfl (lv_at hl 2 rfl) ?_
          refine va_aldq hx hb hK hP 18 4 rfl rfl (vin (by decide +kernel)) dX9_fogs_46 ?_
          refine W.eq (g2 := F0 m 47 ls (.ref (y 35) :: .ref (y 0) :: [])) rfl ?_
          refine va_get (ci := 7) (v := .int py35_1) (C := RX7) (T := TX7) (N := 3) hx hb hg inX7 hown hK hP 21 rfl rfl 1 (by decide) (hg _ q_2_2) (fun _ h9 => h9) rfl dX9_fogs_47 ?_
          refine jnR (wr := [(y 30, aT V 4 (va_up (va_up (va_up (va_up (fun _ => none) 0 (some (y 33))) 1 (some (y 35))) 2 (some (y 37))) 3 (some (y 39)))), (y 33, .inr (7, o7_rii (y 34) py33_1 py33_2)), (y 34, aJ V 40 fy34), (y 35, .inr (7, o7_rii (y 36) py35_1 py35_2)), (y 36, aJ V 40 fy36), (y 37, .inr (7, o7_rii (y 38) py37_1 py37_2)), (y 38, aJ V 40 fy38), (y 39, .inr (7, o7_rii (y 40) py39_1 py39_2)), (y 40, aJ V 40 fy40)]) (rnV (rest := []) ⟨hx, hb, hml, hown, hg⟩ (k_X9_waysFromNow_2 l V n L Yw y D9 py35_1 fy3 fy9 fy20 fy21 fy22 pYw0_0 wa pYw0_5 pYw0_6 wb pYw0_14 pYw0_15 pYw0_16 fYw1 fYw2 fwa fYw4 fYw5 fYw6 fYw7 fYw8 fwb py0_1 o11 py0_12 py0_13 py0_14 py2_0 py2_1 py2_2 py2_3 py2_4 py2_5 py2_13 py2_14 py2_15 py2_16 py2_17 hn hL hq0 tfy20 bpYw0_0 bpYw0_5 bpYw0_6 bpYw0_14 bpYw0_15 bpYw0_16 tfYw1 tfYw4 tfYw5 tfYw6 tfYw7 bpy0_1 bpy0_12 bpy0_13 (iv_w b_289 (by first | decide | omega)) bpy2_2 bpy2_3 bpy2_4 bpy2_5 bpy2_13 bpy2_14 bpy2_15 bpy2_16 bpy2_17 hf0 hf1 hf2 hL9 hK9) mt_X9_waysFromNow q_4_52 ⟨Nat.le_of_ble_eq_true rfl, Nat.le_of_ble_eq_true rfl⟩ hK hP hD hS hA hE [0, 1, 2, 3, 4, 5, 6, 7, 8, 9, 10, 11, 12, 13, 14, 15, 16, 17] rfl rfl 16 rfl rfl rfl rfl hl.1 rfl (Nat.le_of_ble_eq_true rfl) dX9_fogs_50 ⟨Nat.le_of_ble_eq_true rfl, Nat.le_of_ble_eq_true rfl⟩) hP hD hS hA [0, 1, 2, 3, 4, 5, 6, 7, 8, 9, 10, 11, 12, 13, 14, 15, 16, 17] [18, 19, 20, 21, 22, 23, 24, 25, 26] rfl rfl rfl (by decide) (fun r_301 w H locs hw hP hD hS => ?_)
          refine W.widen (k := 10) (n := 46481) (Nat.le_of_ble_eq_true rfl) (Nat.le_of_ble_eq_true rfl) ?_
          obtain ⟨n, L, Yw, wa_302, wb_303, f_304, f_305, f_306, v_307, v_308, v_309, v_310, v_311, v_312, f_313, f_314, f_315, f_316, f_317, f_318, f_319, f_320, f_321, hn, hL, tf_304, bv_307, bv_308, bv_309, bv_310, bv_311, bv_312, tf_313, tf_316, tf_317, tf_318, tf_319, eW, g_322, g_323, g_324, g_325, g_326, kn_327, rfl⟩ := hw
          have hP : va_P V.1 vwCl [(y 30, aT V 4 (va_up (va_up (va_up (va_up (fun _ => none) 0 (some (y 33))) 1 (some (y 35))) 2 (some (y 37))) 3 (some (y 39)))), (y 33, .inr (7, o7_rii (y 34) py33_1 py33_2)), (y 34, aJ V 40 fy34), (y 35, .inr (7, o7_rii (y 36) py35_1 py35_2)), (y 36, aJ V 40 fy36), (y 37, .inr (7, o7_rii (y 38) py37_1 py37_2)), (y 38, aJ V 40 fy38), (y 39, .inr (7, o7_rii (y 40) py39_1 py39_2)), (y 40, aJ V 40 fy40), (y 3, aI V 4 fy3), (y 9, aI V 900 fy9), (y 19, .inr (4, o4_rrrrrr (y 2) (y 20) (y 21) (y 22) (y 23) (y 24))), (y 20, aI V 2000 f_304), (y 21, aI V 6 f_305), (y 22, aI V 64 f_306), (y 0, .inr (9, o9_rirrrrrrrrrviii (y 1) py0_1 (y 2) (y 10) (y 19) (y 25) (y 26) (y 30) (y 31) (y 32) (Yw 0) o11 py0_12 py0_13 py0_14)), (y 2, .inr (1, o1_iiiiiirrrrrrriiiii py2_0 py2_1 py2_2 py2_3 py2_4 py2_5 (y 3) (y 4) (y 5) (y 6) (y 7) (y 8) (y 9) py2_13 py2_14 py2_15 py2_16 py2_17)), (Yw 0, .inr (8, o8_iirrriirrrrrrriii v_307 (nI n) (Yw 1) (Yw 2) wa_302 v_308 v_309 (y 19) (Yw 4) (Yw 5) (Yw 6) (Yw 7) (Yw 8) wb_303 v_310 v_311 v_312)), (Yw 1, aI V n f_313), (Yw 2, aI V n f_314), (wa_302, aI V n f_315), (Yw 4, aI V L f_316), (Yw 5, aI V n f_317), (Yw 6, aI V (n * 4) f_318), (Yw 7, aI V n f_319), (Yw 8, aI V 4 f_320), (wb_303, aI V n f_321)] H := hP
          have hD := cpD hP hD
          rw [← eW]
          refine lv_astore (lv' := [(5, .ref (Yw 0)), (4, .int 0), (0, .ref (y 0)), (1, .int 1), (2, .int a2), (3, .int a3)]) hx hb dX9_fogs_53 hl (by decide) rfl (fun ls hl => ?_)
          refine lv_aload hx hb dX9_fogs_55 (lv_at hl 0 rfl) ?_
          refine lv_aload_n hx hb dX9_fogs_57 rfl (lv_at hl 2 rfl) ?_
          refine va_get (ci := 9) (v := .ref (y 30)) (C := RX9) (T := TX9) (N := 15) hx hb hg inX9 hown hK hP 15 rfl rfl 7 (by decide) (hg _ q_2_43) (fun _ h9 => h9) rfl dX9_fogs_58 ?_
          refine lv_iload_n hx hb dX9_fogs_61 rfl (lv_at hl 3 rfl) ?_
          refine va_aldq hx hb hK hP 0 4 rfl rfl (vin (by decide +kernel)) dX9_fogs_62 ?_
          refine W.eq (g2 := F0 m 63 ls (.ref (y 35) :: .ref (Yw 0) :: [])) rfl ?_
          refine lv_iload_n hx hb dX9_fogs_63 rfl (lv_at hl 4 rfl) ?_
          refine jnV (wr := [(y 30, aT V 4 (va_up (va_up (va_up (va_up (fun _ => none) 0 (some (y 33))) 1 (some (y 35))) 2 (some (y 37))) 3 (some (y 39)))), (y 33, .inr (7, o7_rii (y 34) py33_1 py33_2)), (y 34, aJ V 40 fy34), (y 37, .inr (7, o7_rii (y 38) py37_1 py37_2)), (y 38, aJ V 40 fy38), (y 39, .inr (7, o7_rii (y 40) py39_1 py39_2)), (y 40, aJ V 40 fy40), (y 3, aI V 4 fy3), (y 9, aI V 900 fy9), (y 19, .inr (4, o4_rrrrrr (y 2) (y 20) (y 21) (y 22) (y 23) (y 24))), (y 20, aI V 2000 f_304), (y 21, aI V 6 f_305), (y 22, aI V 64 f_306), (y 0, .inr (9, o9_rirrrrrrrrrviii (y 1) py0_1 (y 2) (y 10) (y 19) (y 25) (y 26) (y 30) (y 31) (y 32) (Yw 0) o11 py0_12 py0_13 py0_14)), (y 2, .inr (1, o1_iiiiiirrrrrrriiiii py2_0 py2_1 py2_2 py2_3 py2_4 py2_5 (y 3) (y 4) (y 5) (y 6) (y 7) (y 8) (y 9) py2_13 py2_14 py2_15 py2_16 py2_17)), (Yw 4, aI V L f_316), (Yw 5, aI V n f_317), (Yw 7, aI V n f_319), (Yw 8, aI V 4 f_320), (wb_303, aI V n f_321)]) (rnV (rest := []) ⟨hx, hb, hml, hown, hg⟩ (k_X8_traceTold_1 l V n L Yw y a2 f_315 py35_1 py35_2 fy36 v_307 wa_302 v_308 v_309 wb_303 v_310 v_311 v_312 f_313 f_314 f_318 hn hL b_288 (iv_w b_293 (by first | decide | omega)) bv_307 bv_308 bv_309 bv_310 bv_311 bv_312 tf_313 tf_318) mt_X8_traceTold q_5_39 ⟨Nat.le_of_ble_eq_true rfl, Nat.le_of_ble_eq_true rfl⟩ hK hP hD hS hA hE [20, 3, 4, 17, 18, 19, 23] rfl rfl 17 rfl rfl rfl rfl hl.1 rfl (Nat.le_of_ble_eq_true rfl) dX9_fogs_64 ⟨Nat.le_of_ble_eq_true rfl, Nat.le_of_ble_eq_true rfl⟩) hP hD hS hA [20, 3, 4, 17, 18, 19, 23] [0, 1, 2, 5, 6, 7, 8, 9, 10, 11, 12, 13, 14, 15, 16, 21, 22, 24, 25, 26] rfl rfl rfl (by decide) (fun  w H locs hw hP hD hS => ?_)
          obtain ⟨f_328, rfl⟩ := hw
          have hP : va_P V.1 vwCl [(y 30, aT V 4 (va_up (va_up (va_up (va_up (fun _ => none) 0 (some (y 33))) 1 (some (y 35))) 2 (some (y 37))) 3 (some (y 39)))), (y 33, .inr (7, o7_rii (y 34) py33_1 py33_2)), (y 34, aJ V 40 fy34), (y 37, .inr (7, o7_rii (y 38) py37_1 py37_2)), (y 38, aJ V 40 fy38), (y 39, .inr (7, o7_rii (y 40) py39_1 py39_2)), (y 40, aJ V 40 fy40), (y 3, aI V 4 fy3), (y 9, aI V 900 fy9), (y 19, .inr (4, o4_rrrrrr (y 2) (y 20) (y 21) (y 22) (y 23) (y 24))), (y 20, aI V 2000 f_304), (y 21, aI V 6 f_305), (y 22, aI V 64 f_306), (y 0, .inr (9, o9_rirrrrrrrrrviii (y 1) py0_1 (y 2) (y 10) (y 19) (y 25) (y 26) (y 30) (y 31) (y 32) (Yw 0) o11 py0_12 py0_13 py0_14)), (y 2, .inr (1, o1_iiiiiirrrrrrriiiii py2_0 py2_1 py2_2 py2_3 py2_4 py2_5 (y 3) (y 4) (y 5) (y 6) (y 7) (y 8) (y 9) py2_13 py2_14 py2_15 py2_16 py2_17)), (Yw 4, aI V L f_316), (Yw 5, aI V n f_317), (Yw 7, aI V n f_319), (Yw 8, aI V 4 f_320), (wb_303, aI V n f_321), (wa_302, aI V n f_328), (y 35, .inr (7, o7_rii (y 36) py35_1 py35_2)), (y 36, aJ V 40 fy36), (Yw 0, .inr (8, o8_iirrriirrrrrrriii v_307 (nI n) (Yw 1) (Yw 2) wa_302 v_308 v_309 (y 19) (Yw 4) (Yw 5) (Yw 6) (Yw 7) (Yw 8) wb_303 v_310 v_311 v_312)), (Yw 1, aI V n f_313), (Yw 2, aI V n f_314), (Yw 6, aI V (n * 4) f_318)] H := hP
          have hD := cpD hP hD
          refine lv_aload hx hb dX9_fogs_67 (lv_at hl 0 rfl) ?_
          refine lv_iload_n hx hb dX9_fogs_69 rfl (lv_at hl 5 rfl) ?_
          refine jnI (wr := [(y 30, aT V 4 (va_up (va_up (va_up (va_up (fun _ => none) 0 (some (y 33))) 1 (some (y 35))) 2 (some (y 37))) 3 (some (y 39)))), (y 33, .inr (7, o7_rii (y 34) py33_1 py33_2)), (y 34, aJ V 40 fy34), (y 37, .inr (7, o7_rii (y 38) py37_1 py37_2)), (y 38, aJ V 40 fy38), (y 39, .inr (7, o7_rii (y 40) py39_1 py39_2)), (y 40, aJ V 40 fy40), (y 3, aI V 4 fy3), (y 9, aI V 900 fy9), (y 19, .inr (4, o4_rrrrrr (y 2) (y 20) (y 21) (y 22) (y 23) (y 24))), (y 20, aI V 2000 f_304), (y 21, aI V 6 f_305), (y 22, aI V 64 f_306), (y 0, .inr (9, o9_rirrrrrrrrrviii (y 1) py0_1 (y 2) (y 10) (y 19) (y 25) (y 26) (y 30) (y 31) (y 32) (Yw 0) o11 py0_12 py0_13 py0_14)), (y 2, .inr (1, o1_iiiiiirrrrrrriiiii py2_0 py2_1 py2_2 py2_3 py2_4 py2_5 (y 3) (y 4) (y 5) (y 6) (y 7) (y 8) (y 9) py2_13 py2_14 py2_15 py2_16 py2_17)), (Yw 4, aI V L f_316), (Yw 5, aI V n f_317), (Yw 7, aI V n f_319), (Yw 8, aI V 4 f_320), (wb_303, aI V n f_321), (y 35, .inr (7, o7_rii (y 36) py35_1 py35_2)), (y 36, aJ V 40 fy36), (Yw 1, aI V n f_313)]) (rnV (rest := []) ⟨hx, hb, hml, hown, hg⟩ (k_X8_allTraced_0 l V n Yw y a3 v_307 wa_302 v_308 v_309 wb_303 v_310 v_311 v_312 f_314 f_328 f_318 hn (iv_w b_300 (by first | decide | omega)) bv_307 bv_308 bv_309 bv_310 bv_311 bv_312 tf_318) mt_X8_allTraced q_5_59 ⟨Nat.le_of_ble_eq_true rfl, Nat.le_of_ble_eq_true rfl⟩ hK hP hD hS hA hE [23, 25, 20, 26] rfl rfl 23 rfl rfl rfl rfl hl.1 rfl (Nat.le_of_ble_eq_true rfl) dX9_fogs_70 ⟨Nat.le_of_ble_eq_true rfl, Nat.le_of_ble_eq_true rfl⟩) hP hD hS hA [23, 25, 20, 26] [0, 1, 2, 3, 4, 5, 6, 7, 8, 9, 10, 11, 12, 13, 14, 15, 16, 17, 18, 19, 21, 22, 24] rfl rfl rfl (by decide) (fun r_329 w H locs hw hP hD hS => ?_)
          subst hw
          have hP : va_P V.1 vwCl [(y 30, aT V 4 (va_up (va_up (va_up (va_up (fun _ => none) 0 (some (y 33))) 1 (some (y 35))) 2 (some (y 37))) 3 (some (y 39)))), (y 33, .inr (7, o7_rii (y 34) py33_1 py33_2)), (y 34, aJ V 40 fy34), (y 37, .inr (7, o7_rii (y 38) py37_1 py37_2)), (y 38, aJ V 40 fy38), (y 39, .inr (7, o7_rii (y 40) py39_1 py39_2)), (y 40, aJ V 40 fy40), (y 3, aI V 4 fy3), (y 9, aI V 900 fy9), (y 19, .inr (4, o4_rrrrrr (y 2) (y 20) (y 21) (y 22) (y 23) (y 24))), (y 20, aI V 2000 f_304), (y 21, aI V 6 f_305), (y 22, aI V 64 f_306), (y 0, .inr (9, o9_rirrrrrrrrrviii (y 1) py0_1 (y 2) (y 10) (y 19) (y 25) (y 26) (y 30) (y 31) (y 32) (Yw 0) o11 py0_12 py0_13 py0_14)), (y 2, .inr (1, o1_iiiiiirrrrrrriiiii py2_0 py2_1 py2_2 py2_3 py2_4 py2_5 (y 3) (y 4) (y 5) (y 6) (y 7) (y 8) (y 9) py2_13 py2_14 py2_15 py2_16 py2_17)), (Yw 4, aI V L f_316), (Yw 5, aI V n f_317), (Yw 7, aI V n f_319), (Yw 8, aI V 4 f_320), (wb_303, aI V n f_321), (y 35, .inr (7, o7_rii (y 36) py35_1 py35_2)), (y 36, aJ V 40 fy36), (Yw 1, aI V n f_313), (Yw 0, .inr (8, o8_iirrriirrrrrrriii v_307 (nI n) (Yw 1) (Yw 2) wa_302 v_308 v_309 (y 19) (Yw 4) (Yw 5) (Yw 6) (Yw 7) (Yw 8) wb_303 v_310 v_311 v_312)), (Yw 2, aI V n f_314), (wa_302, aI V n f_328), (Yw 6, aI V (n * 4) f_318)] H := hP
          have hD := cpD hP hD
          have hP := subP (ws' := [(y 0, .inr (9, o9_rirrrrrrrrrviii (y 1) py0_1 (y 2) (y 10) (y 19) (y 25) (y 26) (y 30) (y 31) (y 32) (Yw 0) o11 py0_12 py0_13 py0_14)), (y 2, .inr (1, o1_iiiiiirrrrrrriiiii py2_0 py2_1 py2_2 py2_3 py2_4 py2_5 (y 3) (y 4) (y 5) (y 6) (y 7) (y 8) (y 9) py2_13 py2_14 py2_15 py2_16 py2_17)), (y 3, aI V 4 fy3), (y 9, aI V 900 fy9), (y 19, .inr (4, o4_rrrrrr (y 2) (y 20) (y 21) (y 22) (y 23) (y 24))), (y 20, aI V 2000 f_304), (y 21, aI V 6 f_305), (y 22, aI V 64 f_306), (y 30, aT V 4 (va_up (va_up (va_up (va_up (fun _ => none) 0 (some (y 33))) 1 (some (y 35))) 2 (some (y 37))) 3 (some (y 39)))), (y 33, .inr (7, o7_rii (y 34) py33_1 py33_2)), (y 34, aJ V 40 fy34), (y 35, .inr (7, o7_rii (y 36) py35_1 py35_2)), (y 36, aJ V 40 fy36), (y 37, .inr (7, o7_rii (y 38) py37_1 py37_2)), (y 38, aJ V 40 fy38), (y 39, .inr (7, o7_rii (y 40) py39_1 py39_2)), (y 40, aJ V 40 fy40), (Yw 0, .inr (8, o8_iirrriirrrrrrriii v_307 (nI n) (Yw 1) (Yw 2) wa_302 v_308 v_309 (y 19) (Yw 4) (Yw 5) (Yw 6) (Yw 7) (Yw 8) wb_303 v_310 v_311 v_312)), (Yw 1, aI V n f_313), (Yw 2, aI V n f_314), (wa_302, aI V n f_328), (Yw 4, aI V L f_316), (Yw 5, aI V n f_317), (Yw 6, aI V (n * 4) f_318), (Yw 7, aI V n f_319), (Yw 8, aI V 4 f_320), (wb_303, aI V n f_321)]) hP [13, 14, 7, 8, 9, 10, 11, 12, 0, 1, 2, 20, 21, 3, 4, 5, 6, 23, 22, 24, 25, 15, 16, 26, 17, 18, 19] rfl
          have hD := subD hP hD [13, 14, 7, 8, 9, 10, 11, 12, 0, 1, 2, 20, 21, 3, 4, 5, 6, 23, 22, 24, 25, 15, 16, 26, 17, 18, 19] rfl rfl
          exact fiI hx hb hr hlk hK (subP (ws' := [(y 0, .inr (9, o9_rirrrrrrrrrviii (y 1) py0_1 (y 2) (y 10) (y 19) (y 25) (y 26) (y 30) (y 31) (y 32) (Yw 0) o11 py0_12 py0_13 py0_14)), (y 2, .inr (1, o1_iiiiiirrrrrrriiiii py2_0 py2_1 py2_2 py2_3 py2_4 py2_5 (y 3) (y 4) (y 5) (y 6) (y 7) (y 8) (y 9) py2_13 py2_14 py2_15 py2_16 py2_17)), (y 3, aI V 4 fy3), (y 9, aI V 900 fy9), (y 19, .inr (4, o4_rrrrrr (y 2) (y 20) (y 21) (y 22) (y 23) (y 24))), (y 20, aI V 2000 f_304), (y 21, aI V 6 f_305), (y 22, aI V 64 f_306), (y 30, aT V 4 (va_up (va_up (va_up (va_up (fun _ => none) 0 (some (y 33))) 1 (some (y 35))) 2 (some (y 37))) 3 (some (y 39)))), (y 33, .inr (7, o7_rii (y 34) py33_1 py33_2)), (y 34, aJ V 40 fy34), (y 35, .inr (7, o7_rii (y 36) py35_1 py35_2)), (y 36, aJ V 40 fy36), (y 37, .inr (7, o7_rii (y 38) py37_1 py37_2)), (y 38, aJ V 40 fy38), (y 39, .inr (7, o7_rii (y 40) py39_1 py39_2)), (y 40, aJ V 40 fy40), (Yw 0, .inr (8, o8_iirrriirrrrrrriii v_307 (nI n) (Yw 1) (Yw 2) wa_302 v_308 v_309 (y 19) (Yw 4) (Yw 5) (Yw 6) (Yw 7) (Yw 8) wb_303 v_310 v_311 v_312)), (Yw 1, aI V n f_313), (Yw 2, aI V n f_314), (wa_302, aI V n f_328), (Yw 4, aI V L f_316), (Yw 5, aI V n f_317), (Yw 6, aI V (n * 4) f_318), (Yw 7, aI V n f_319), (Yw 8, aI V 4 f_320), (wb_303, aI V n f_321)]) hP [0, 1, 2, 3, 4, 5, 6, 7, 8, 9, 10, 11, 12, 13, 14, 15, 16, 17, 18, 19, 20, 21, 22, 23, 24, 25, 26] rfl) (hD.sub [0, 1, 2, 3, 4, 5, 6, 7, 8, 9, 10, 11, 12, 13, 14, 15, 16, 17, 18, 19, 20, 21, 22, 23, 24, 25, 26] rfl rfl) hS dX9_fogs_73 (Nat.le_of_ble_eq_true rfl) (Nat.le_of_ble_eq_true rfl) (⟨n, L, Yw, wa_302, wb_303, f_304, f_305, f_306, v_307, v_308, v_309, v_310, v_311, v_312, f_313, f_314, f_328, f_316, f_317, f_318, f_319, f_320, f_321, hn, hL, tf_304, bv_307, bv_308, bv_309, bv_310, bv_311, bv_312, tf_313, tf_316, tf_317, tf_318, tf_319, g_322, g_323, g_324, g_326, kn_327, rfl⟩)
        · have b_330 : iv 1 2147483647 a3 := iv_e2 (Int32.not_lt.mp c_299) b_293 b_297 (by first | decide | omega)
          refine lv_bipush (v := (-7)) hx hb dX9_fogs_37 (by decide) ?_
          have z_0 := Int32.lt_iff_toInt_lt.mp hq0
          have z_1 := Int32.le_iff_toInt_le.mp (Int32.not_lt.mp c_66)
          have z_2 := Int32.lt_iff_toInt_lt.mp (Int32.not_le.mp c_67)
          have z_3 := Int32.le_iff_toInt_le.mp (Int32.not_lt.mp c_68)
          have z_4 := Int32.lt_iff_toInt_lt.mp (Int32.not_le.mp c_69)
          have z_5 := congrArg Int32.toInt c_70
          have z_6 := Int32.le_iff_toInt_le.mp c_71
          have z_7 := Int32.le_iff_toInt_le.mp (Int32.not_lt.mp c_72)
          have z_8 := Int32.le_iff_toInt_le.mp c_73
          have z_9 := Int32.le_iff_toInt_le.mp c_296
          have z_10 := Int32.le_iff_toInt_le.mp (Int32.not_lt.mp c_299)
          have k_0 : (0 : Int32).toInt = 0 := (by decide)
          have k_1 : (1 : Int32).toInt = 1 := (by decide)
          have k_4 : (4 : Int32).toInt = 4 := (by decide)
          have k_8 : (8 : Int32).toInt = 8 := (by decide)
          exfalso
          have g_0 := hf3
          have g_1 := hf4
          have g_2 := hf5
          rw [cntF_1] at g_2
          omega
    · have b_331 : iv (-2147483648) (-1) a3 := iv_l1 (Int32.not_le.mp c_296) (iv_top a3) (iv_c (0 : Int32) (a := 0) (b := 0) (by decide)) (by first | decide | omega)
      refine lv_bipush (v := (-3)) hx hb dX9_fogs_21 (by decide) ?_
      have z_0 := Int32.lt_iff_toInt_lt.mp hq0
      have z_1 := Int32.le_iff_toInt_le.mp (Int32.not_lt.mp c_66)
      have z_2 := Int32.lt_iff_toInt_lt.mp (Int32.not_le.mp c_67)
      have z_3 := Int32.le_iff_toInt_le.mp (Int32.not_lt.mp c_68)
      have z_4 := Int32.lt_iff_toInt_lt.mp (Int32.not_le.mp c_69)
      have z_5 := congrArg Int32.toInt c_70
      have z_6 := Int32.le_iff_toInt_le.mp c_71
      have z_7 := Int32.le_iff_toInt_le.mp (Int32.not_lt.mp c_72)
      have z_8 := Int32.le_iff_toInt_le.mp c_73
      have z_9 := Int32.lt_iff_toInt_lt.mp (Int32.not_le.mp c_296)
      have k_0 : (0 : Int32).toInt = 0 := (by decide)
      have k_1 : (1 : Int32).toInt = 1 := (by decide)
      have k_4 : (4 : Int32).toInt = 4 := (by decide)
      have k_8 : (8 : Int32).toInt = 8 := (by decide)
      exfalso
      have g_0 := hf3
      have g_1 := hf4
      have g_2 := hf5
      omega
  · have hP : va_P V.1 vwCl [(y 3, aI V 4 fy3), (y 9, aI V 900 fy9), (y 19, .inr (4, o4_rrrrrr (y 2) (y 20) (y 21) (y 22) (y 23) (y 24))), (y 20, aI V 2000 fy20), (y 21, aI V 6 fy21), (y 22, aI V 64 fy22), (Yw 0, .inr (8, o8_iirrriirrrrrrriii pYw0_0 (nI n) (Yw 1) (Yw 2) wa pYw0_5 pYw0_6 (y 19) (Yw 4) (Yw 5) (Yw 6) (Yw 7) (Yw 8) wb pYw0_14 pYw0_15 pYw0_16)), (Yw 1, aI V n fYw1), (Yw 2, aI V n fYw2), (wa, aI V n fwa), (Yw 4, aI V L fYw4), (Yw 5, aI V n fYw5), (Yw 6, aI V (n * 4) fYw6), (Yw 7, aI V n fYw7), (Yw 8, aI V 4 fYw8), (wb, aI V n fwb), (y 0, .inr (9, o9_rirrrrrrrrrviii (y 1) py0_1 (y 2) (y 10) (y 19) (y 25) (y 26) (y 30) (y 31) (y 32) (Yw 0) o11 py0_12 py0_13 py0_14)), (y 2, .inr (1, o1_iiiiiirrrrrrriiiii py2_0 py2_1 py2_2 py2_3 py2_4 py2_5 (y 3) (y 4) (y 5) (y 6) (y 7) (y 8) (y 9) py2_13 py2_14 py2_15 py2_16 py2_17)), (y 30, aT V 4 (va_up (va_up (va_up (va_up (fun _ => none) 0 (some (y 33))) 1 (some (y 35))) 2 (some (y 37))) 3 (some (y 39)))), (y 33, .inr (7, o7_rii (y 34) py33_1 py33_2)), (y 34, aJ V 40 fy34), (y 35, .inr (7, o7_rii (y 36) py35_1 py35_2)), (y 36, aJ V 40 fy36), (y 37, .inr (7, o7_rii (y 38) py37_1 py37_2)), (y 38, aJ V 40 fy38), (y 39, .inr (7, o7_rii (y 40) py39_1 py39_2)), (y 40, aJ V 40 fy40)] H := hP
    have hD := cpD hP hD
    have b_332 : iv 0 2147483647 a2 := iv_e2 (Int32.not_lt.mp c_77) (iv_c (0 : Int32) (a := 0) (b := 0) (by decide)) (iv_top a2) (by first | decide | omega)
    have b_333 : iv 0 3 a2 := iv_l1 (Int32.not_le.mp c_78) b_332 bpy2_1 (by first | decide | omega)
    have b_334 : iv 1 4 py2_1 := iv_l2 (Int32.not_le.mp c_78) b_332 bpy2_1 (by first | decide | omega)
    have b_335 : iv 1 1 a1 := iv_q c_79 (iv_c (1 : Int32) (a := 1) (b := 1) (by decide))
    have b_336 : iv 0 40 py35_1 := iv_e2 c_80 (iv_c (0 : Int32) (a := 0) (b := 0) (by decide)) bpy35_1 (by first | decide | omega)
    have b_337 : iv 1 40 py35_1 := iv_e2 (Int32.not_lt.mp c_81) (iv_c (1 : Int32) (a := 1) (b := 1) (by decide)) b_336 (by first | decide | omega)
    have b_338 : iv 1 8 py35_1 := iv_e1 c_82 b_337 (iv_c (8 : Int32) (a := 8) (b := 8) (by decide)) (by first | decide | omega)
    refine lv_istore (lv' := [(4, .int (-3)), (0, .ref (y 0)), (1, .int a1), (2, .int a2), (3, .int a3)]) hx hb dX9_fogs_7 hl (by decide) rfl (fun ls hl => ?_)
    refine lv_iload hx hb dX9_fogs_9 (lv_at hl 0 rfl) ?_
    refine lv_if_eq (tgt := 17) hx hb dX9_fogs_11 (by decide) (fun c_340 => absurd c_340 (by decide)) (fun _ => ?_)
    refine lv_iload hx hb dX9_fogs_14 (lv_at hl 0 rfl) ?_
    have z_0 := Int32.lt_iff_toInt_lt.mp hq0
    have z_1 := Int32.le_iff_toInt_le.mp (Int32.not_lt.mp c_75)
    have z_2 := Int32.lt_iff_toInt_lt.mp (Int32.not_le.mp c_76)
    have z_3 := Int32.le_iff_toInt_le.mp (Int32.not_lt.mp c_77)
    have z_4 := Int32.lt_iff_toInt_lt.mp (Int32.not_le.mp c_78)
    have z_5 := congrArg Int32.toInt c_79
    have z_6 := Int32.le_iff_toInt_le.mp c_80
    have z_7 := Int32.le_iff_toInt_le.mp (Int32.not_lt.mp c_81)
    have z_8 := Int32.le_iff_toInt_le.mp c_82
    have k_0 : (0 : Int32).toInt = 0 := (by decide)
    have k_1 : (1 : Int32).toInt = 1 := (by decide)
    have k_4 : (4 : Int32).toInt = 4 := (by decide)
    have k_8 : (8 : Int32).toInt = 8 := (by decide)
    exfalso
    have g_0 := hf3
    have g_1 := hf4
    have g_2 := hf5
    exact absurd (g_83.trans g_0) (by decide)
  · have hP : va_P V.1 vwCl [(y 3, aI V 4 fy3), (y 9, aI V 900 fy9), (y 19, .inr (4, o4_rrrrrr (y 2) (y 20) (y 21) (y 22) (y 23) (y 24))), (y 20, aI V 2000 fy20), (y 21, aI V 6 fy21), (y 22, aI V 64 fy22), (Yw 0, .inr (8, o8_iirrriirrrrrrriii pYw0_0 (nI n) (Yw 1) (Yw 2) wa pYw0_5 pYw0_6 (y 19) (Yw 4) (Yw 5) (Yw 6) (Yw 7) (Yw 8) wb pYw0_14 pYw0_15 pYw0_16)), (Yw 1, aI V n fYw1), (Yw 2, aI V n fYw2), (wa, aI V n fwa), (Yw 4, aI V L fYw4), (Yw 5, aI V n fYw5), (Yw 6, aI V (n * 4) fYw6), (Yw 7, aI V n fYw7), (Yw 8, aI V 4 fYw8), (wb, aI V n fwb), (y 0, .inr (9, o9_rirrrrrrrrrviii (y 1) py0_1 (y 2) (y 10) (y 19) (y 25) (y 26) (y 30) (y 31) (y 32) (Yw 0) o11 py0_12 py0_13 py0_14)), (y 2, .inr (1, o1_iiiiiirrrrrrriiiii py2_0 py2_1 py2_2 py2_3 py2_4 py2_5 (y 3) (y 4) (y 5) (y 6) (y 7) (y 8) (y 9) py2_13 py2_14 py2_15 py2_16 py2_17)), (y 30, aT V 4 (va_up (va_up (va_up (va_up (fun _ => none) 0 (some (y 33))) 1 (some (y 35))) 2 (some (y 37))) 3 (some (y 39)))), (y 33, .inr (7, o7_rii (y 34) py33_1 py33_2)), (y 34, aJ V 40 fy34), (y 35, .inr (7, o7_rii (y 36) py35_1 py35_2)), (y 36, aJ V 40 fy36), (y 37, .inr (7, o7_rii (y 38) py37_1 py37_2)), (y 38, aJ V 40 fy38), (y 39, .inr (7, o7_rii (y 40) py39_1 py39_2)), (y 40, aJ V 40 fy40)] H := hP
    have hD := cpD hP hD
    have b_341 : iv 0 2147483647 a2 := iv_e2 (Int32.not_lt.mp c_86) (iv_c (0 : Int32) (a := 0) (b := 0) (by decide)) (iv_top a2) (by first | decide | omega)
    have b_342 : iv 0 3 a2 := iv_l1 (Int32.not_le.mp c_87) b_341 bpy2_1 (by first | decide | omega)
    have b_343 : iv 1 4 py2_1 := iv_l2 (Int32.not_le.mp c_87) b_341 bpy2_1 (by first | decide | omega)
    have b_344 : iv 1 1 a1 := iv_q c_88 (iv_c (1 : Int32) (a := 1) (b := 1) (by decide))
    have b_345 : iv 0 40 py35_1 := iv_e2 c_89 (iv_c (0 : Int32) (a := 0) (b := 0) (by decide)) bpy35_1 (by first | decide | omega)
    have b_346 : iv 1 40 py35_1 := iv_e2 (Int32.not_lt.mp c_90) (iv_c (1 : Int32) (a := 1) (b := 1) (by decide)) b_345 (by first | decide | omega)
    have b_347 : iv 9 40 py35_1 := iv_l2 (Int32.not_le.mp c_91) (iv_c (8 : Int32) (a := 8) (b := 8) (by decide)) b_346 (by first | decide | omega)
    refine lv_istore (lv' := [(4, .int (-4)), (0, .ref (y 0)), (1, .int a1), (2, .int a2), (3, .int a3)]) hx hb dX9_fogs_7 hl (by decide) rfl (fun ls hl => ?_)
    refine lv_iload hx hb dX9_fogs_9 (lv_at hl 0 rfl) ?_
    refine lv_if_eq (tgt := 17) hx hb dX9_fogs_11 (by decide) (fun c_349 => absurd c_349 (by decide)) (fun _ => ?_)
    refine lv_iload hx hb dX9_fogs_14 (lv_at hl 0 rfl) ?_
    have z_0 := Int32.lt_iff_toInt_lt.mp hq0
    have z_1 := Int32.le_iff_toInt_le.mp (Int32.not_lt.mp c_84)
    have z_2 := Int32.lt_iff_toInt_lt.mp (Int32.not_le.mp c_85)
    have z_3 := Int32.le_iff_toInt_le.mp (Int32.not_lt.mp c_86)
    have z_4 := Int32.lt_iff_toInt_lt.mp (Int32.not_le.mp c_87)
    have z_5 := congrArg Int32.toInt c_88
    have z_6 := Int32.le_iff_toInt_le.mp c_89
    have z_7 := Int32.le_iff_toInt_le.mp (Int32.not_lt.mp c_90)
    have z_8 := Int32.lt_iff_toInt_lt.mp (Int32.not_le.mp c_91)
    have k_0 : (0 : Int32).toInt = 0 := (by decide)
    have k_1 : (1 : Int32).toInt = 1 := (by decide)
    have k_4 : (4 : Int32).toInt = 4 := (by decide)
    have k_8 : (8 : Int32).toInt = 8 := (by decide)
    exfalso
    have g_0 := hf3
    have g_1 := hf4
    have g_2 := hf5
    exact absurd (g_92.trans g_0) (by decide)
  · have hP : va_P V.1 vwCl [(y 3, aI V 4 fy3), (y 9, aI V 900 fy9), (y 19, .inr (4, o4_rrrrrr (y 2) (y 20) (y 21) (y 22) (y 23) (y 24))), (y 20, aI V 2000 fy20), (y 21, aI V 6 fy21), (y 22, aI V 64 fy22), (Yw 0, .inr (8, o8_iirrriirrrrrrriii pYw0_0 (nI n) (Yw 1) (Yw 2) wa pYw0_5 pYw0_6 (y 19) (Yw 4) (Yw 5) (Yw 6) (Yw 7) (Yw 8) wb pYw0_14 pYw0_15 pYw0_16)), (Yw 1, aI V n fYw1), (Yw 2, aI V n fYw2), (wa, aI V n fwa), (Yw 4, aI V L fYw4), (Yw 5, aI V n fYw5), (Yw 6, aI V (n * 4) fYw6), (Yw 7, aI V n fYw7), (Yw 8, aI V 4 fYw8), (wb, aI V n fwb), (y 0, .inr (9, o9_rirrrrrrrrrviii (y 1) py0_1 (y 2) (y 10) (y 19) (y 25) (y 26) (y 30) (y 31) (y 32) (Yw 0) o11 py0_12 py0_13 py0_14)), (y 2, .inr (1, o1_iiiiiirrrrrrriiiii py2_0 py2_1 py2_2 py2_3 py2_4 py2_5 (y 3) (y 4) (y 5) (y 6) (y 7) (y 8) (y 9) py2_13 py2_14 py2_15 py2_16 py2_17)), (y 30, aT V 4 (va_up (va_up (va_up (va_up (fun _ => none) 0 (some (y 33))) 1 (some (y 35))) 2 (some (y 37))) 3 (some (y 39)))), (y 33, .inr (7, o7_rii (y 34) py33_1 py33_2)), (y 34, aJ V 40 fy34), (y 35, .inr (7, o7_rii (y 36) py35_1 py35_2)), (y 36, aJ V 40 fy36), (y 37, .inr (7, o7_rii (y 38) py37_1 py37_2)), (y 38, aJ V 40 fy38), (y 39, .inr (7, o7_rii (y 40) py39_1 py39_2)), (y 40, aJ V 40 fy40)] H := hP
    have hD := cpD hP hD
    have b_350 : iv 0 2147483647 a2 := iv_e2 (Int32.not_lt.mp c_95) (iv_c (0 : Int32) (a := 0) (b := 0) (by decide)) (iv_top a2) (by first | decide | omega)
    have b_351 : iv 0 3 a2 := iv_l1 (Int32.not_le.mp c_96) b_350 bpy2_1 (by first | decide | omega)
    have b_352 : iv 1 4 py2_1 := iv_l2 (Int32.not_le.mp c_96) b_350 bpy2_1 (by first | decide | omega)
    have b_353 : iv 1 1 a1 := iv_q c_97 (iv_c (1 : Int32) (a := 1) (b := 1) (by decide))
    have b_354 : iv (-1) (-1) py35_1 := iv_l1 (Int32.not_le.mp c_98) bpy35_1 (iv_c (0 : Int32) (a := 0) (b := 0) (by decide)) (by first | decide | omega)
    refine lv_istore (lv' := [(4, .int (-6)), (0, .ref (y 0)), (1, .int a1), (2, .int a2), (3, .int a3)]) hx hb dX9_fogs_7 hl (by decide) rfl (fun ls hl => ?_)
    refine lv_iload hx hb dX9_fogs_9 (lv_at hl 0 rfl) ?_
    refine lv_if_eq (tgt := 17) hx hb dX9_fogs_11 (by decide) (fun c_356 => absurd c_356 (by decide)) (fun _ => ?_)
    refine lv_iload hx hb dX9_fogs_14 (lv_at hl 0 rfl) ?_
    have z_0 := Int32.lt_iff_toInt_lt.mp hq0
    have z_1 := Int32.le_iff_toInt_le.mp (Int32.not_lt.mp c_93)
    have z_2 := Int32.lt_iff_toInt_lt.mp (Int32.not_le.mp c_94)
    have z_3 := Int32.le_iff_toInt_le.mp (Int32.not_lt.mp c_95)
    have z_4 := Int32.lt_iff_toInt_lt.mp (Int32.not_le.mp c_96)
    have z_5 := congrArg Int32.toInt c_97
    have z_6 := Int32.lt_iff_toInt_lt.mp (Int32.not_le.mp c_98)
    have k_0 : (0 : Int32).toInt = 0 := (by decide)
    have k_1 : (1 : Int32).toInt = 1 := (by decide)
    have k_4 : (4 : Int32).toInt = 4 := (by decide)
    exfalso
    have g_0 := hf3
    have g_1 := hf4
    have g_2 := hf5
    exact absurd (g_99.trans g_0) (by decide)
  · have hP : va_P V.1 vwCl [(y 3, aI V 4 fy3), (y 9, aI V 900 fy9), (y 19, .inr (4, o4_rrrrrr (y 2) (y 20) (y 21) (y 22) (y 23) (y 24))), (y 20, aI V 2000 fy20), (y 21, aI V 6 fy21), (y 22, aI V 64 fy22), (Yw 0, .inr (8, o8_iirrriirrrrrrriii pYw0_0 (nI n) (Yw 1) (Yw 2) wa pYw0_5 pYw0_6 (y 19) (Yw 4) (Yw 5) (Yw 6) (Yw 7) (Yw 8) wb pYw0_14 pYw0_15 pYw0_16)), (Yw 1, aI V n fYw1), (Yw 2, aI V n fYw2), (wa, aI V n fwa), (Yw 4, aI V L fYw4), (Yw 5, aI V n fYw5), (Yw 6, aI V (n * 4) fYw6), (Yw 7, aI V n fYw7), (Yw 8, aI V 4 fYw8), (wb, aI V n fwb), (y 0, .inr (9, o9_rirrrrrrrrrviii (y 1) py0_1 (y 2) (y 10) (y 19) (y 25) (y 26) (y 30) (y 31) (y 32) (Yw 0) o11 py0_12 py0_13 py0_14)), (y 2, .inr (1, o1_iiiiiirrrrrrriiiii py2_0 py2_1 py2_2 py2_3 py2_4 py2_5 (y 3) (y 4) (y 5) (y 6) (y 7) (y 8) (y 9) py2_13 py2_14 py2_15 py2_16 py2_17)), (y 30, aT V 4 (va_up (va_up (va_up (va_up (fun _ => none) 0 (some (y 33))) 1 (some (y 35))) 2 (some (y 37))) 3 (some (y 39)))), (y 33, .inr (7, o7_rii (y 34) py33_1 py33_2)), (y 34, aJ V 40 fy34), (y 35, .inr (7, o7_rii (y 36) py35_1 py35_2)), (y 36, aJ V 40 fy36), (y 37, .inr (7, o7_rii (y 38) py37_1 py37_2)), (y 38, aJ V 40 fy38), (y 39, .inr (7, o7_rii (y 40) py39_1 py39_2)), (y 40, aJ V 40 fy40)] H := hP
    have hD := cpD hP hD
    have b_357 : iv 0 2147483647 a2 := iv_e2 (Int32.not_lt.mp c_102) (iv_c (0 : Int32) (a := 0) (b := 0) (by decide)) (iv_top a2) (by first | decide | omega)
    have b_358 : iv 0 3 a2 := iv_l1 (Int32.not_le.mp c_103) b_357 bpy2_1 (by first | decide | omega)
    have b_359 : iv 1 4 py2_1 := iv_l2 (Int32.not_le.mp c_103) b_357 bpy2_1 (by first | decide | omega)
    have b_360 : iv 2 2 a1 := iv_q c_104 (iv_c (2 : Int32) (a := 2) (b := 2) (by decide))
    have b_361 : iv 0 40 py37_1 := iv_e2 c_105 (iv_c (0 : Int32) (a := 0) (b := 0) (by decide)) bpy37_1 (by first | decide | omega)
    have b_362 : iv 0 0 py37_1 := iv_l1 c_106 b_361 (iv_c (1 : Int32) (a := 1) (b := 1) (by decide)) (by first | decide | omega)
    refine lv_istore (lv' := [(4, .int (-4)), (0, .ref (y 0)), (1, .int a1), (2, .int a2), (3, .int a3)]) hx hb dX9_fogs_7 hl (by decide) rfl (fun ls hl => ?_)
    refine lv_iload hx hb dX9_fogs_9 (lv_at hl 0 rfl) ?_
    refine lv_if_eq (tgt := 17) hx hb dX9_fogs_11 (by decide) (fun c_364 => absurd c_364 (by decide)) (fun _ => ?_)
    refine lv_iload hx hb dX9_fogs_14 (lv_at hl 0 rfl) ?_
    have z_0 := Int32.lt_iff_toInt_lt.mp hq0
    have z_1 := Int32.le_iff_toInt_le.mp (Int32.not_lt.mp c_100)
    have z_2 := Int32.lt_iff_toInt_lt.mp (Int32.not_le.mp c_101)
    have z_3 := Int32.le_iff_toInt_le.mp (Int32.not_lt.mp c_102)
    have z_4 := Int32.lt_iff_toInt_lt.mp (Int32.not_le.mp c_103)
    have z_5 := congrArg Int32.toInt c_104
    have z_6 := Int32.le_iff_toInt_le.mp c_105
    have z_7 := Int32.lt_iff_toInt_lt.mp c_106
    have k_0 : (0 : Int32).toInt = 0 := (by decide)
    have k_1 : (1 : Int32).toInt = 1 := (by decide)
    have k_2 : (2 : Int32).toInt = 2 := (by decide)
    have k_4 : (4 : Int32).toInt = 4 := (by decide)
    exfalso
    have g_0 := hf3
    have g_1 := hf4
    have g_2 := hf5
    exact absurd (g_107.trans g_0) (by decide)
  · have hP : va_P V.1 vwCl [(y 3, aI V 4 fy3), (y 9, aI V 900 fy9), (y 19, .inr (4, o4_rrrrrr (y 2) (y 20) (y 21) (y 22) (y 23) (y 24))), (y 20, aI V 2000 fy20), (y 21, aI V 6 fy21), (y 22, aI V 64 fy22), (Yw 0, .inr (8, o8_iirrriirrrrrrriii pYw0_0 (nI n) (Yw 1) (Yw 2) wa pYw0_5 pYw0_6 (y 19) (Yw 4) (Yw 5) (Yw 6) (Yw 7) (Yw 8) wb pYw0_14 pYw0_15 pYw0_16)), (Yw 1, aI V n fYw1), (Yw 2, aI V n fYw2), (wa, aI V n fwa), (Yw 4, aI V L fYw4), (Yw 5, aI V n fYw5), (Yw 6, aI V (n * 4) fYw6), (Yw 7, aI V n fYw7), (Yw 8, aI V 4 fYw8), (wb, aI V n fwb), (y 0, .inr (9, o9_rirrrrrrrrrviii (y 1) py0_1 (y 2) (y 10) (y 19) (y 25) (y 26) (y 30) (y 31) (y 32) (Yw 0) o11 py0_12 py0_13 py0_14)), (y 2, .inr (1, o1_iiiiiirrrrrrriiiii py2_0 py2_1 py2_2 py2_3 py2_4 py2_5 (y 3) (y 4) (y 5) (y 6) (y 7) (y 8) (y 9) py2_13 py2_14 py2_15 py2_16 py2_17)), (y 30, aT V 4 (va_up (va_up (va_up (va_up (fun _ => none) 0 (some (y 33))) 1 (some (y 35))) 2 (some (y 37))) 3 (some (y 39)))), (y 33, .inr (7, o7_rii (y 34) py33_1 py33_2)), (y 34, aJ V 40 fy34), (y 35, .inr (7, o7_rii (y 36) py35_1 py35_2)), (y 36, aJ V 40 fy36), (y 37, .inr (7, o7_rii (y 38) py37_1 py37_2)), (y 38, aJ V 40 fy38), (y 39, .inr (7, o7_rii (y 40) py39_1 py39_2)), (y 40, aJ V 40 fy40)] H := hP
    have hD := cpD hP hD
    have b_365 : iv 0 2147483647 a2 := iv_e2 (Int32.not_lt.mp c_110) (iv_c (0 : Int32) (a := 0) (b := 0) (by decide)) (iv_top a2) (by first | decide | omega)
    have b_366 : iv 0 3 a2 := iv_l1 (Int32.not_le.mp c_111) b_365 bpy2_1 (by first | decide | omega)
    have b_367 : iv 1 4 py2_1 := iv_l2 (Int32.not_le.mp c_111) b_365 bpy2_1 (by first | decide | omega)
    have b_368 : iv 2 2 a1 := iv_q c_112 (iv_c (2 : Int32) (a := 2) (b := 2) (by decide))
    have b_369 : iv 0 40 py37_1 := iv_e2 c_113 (iv_c (0 : Int32) (a := 0) (b := 0) (by decide)) bpy37_1 (by first | decide | omega)
    have b_370 : iv 1 40 py37_1 := iv_e2 (Int32.not_lt.mp c_114) (iv_c (1 : Int32) (a := 1) (b := 1) (by decide)) b_369 (by first | decide | omega)
    have b_371 : iv 1 8 py37_1 := iv_e1 c_115 b_370 (iv_c (8 : Int32) (a := 8) (b := 8) (by decide)) (by first | decide | omega)
    refine lv_istore (lv' := [(4, .int 0), (0, .ref (y 0)), (1, .int a1), (2, .int a2), (3, .int a3)]) hx hb dX9_fogs_7 hl (by decide) rfl (fun ls hl => ?_)
    refine lv_iload hx hb dX9_fogs_9 (lv_at hl 0 rfl) ?_
    refine lv_if_eq (tgt := 17) hx hb dX9_fogs_11 (by decide) (fun _ => ?_) (fun c_373 => absurd c_373 (by decide))
    refine lv_iload_n hx hb dX9_fogs_17 rfl (lv_at hl 4 rfl) ?_
    refine lv_if_ge (tgt := 24) hx hb dX9_fogs_18 (by decide) (fun c_374 => ?_) (fun c_374 => ?_)
    · have b_375 : iv 0 2147483647 a3 := iv_e2 c_374 (iv_c (0 : Int32) (a := 0) (b := 0) (by decide)) (iv_top a3) (by first | decide | omega)
      refine lv_iload_n hx hb dX9_fogs_24 rfl (lv_at hl 4 rfl) ?_
      refine lv_aload_n hx hb dX9_fogs_25 rfl (lv_at hl 1 rfl) ?_
      refine va_get (ci := 9) (v := .ref (y 30)) (C := RX9) (T := TX9) (N := 15) hx hb hg inX9 hown hK hP 16 rfl rfl 7 (by decide) (hg _ q_2_43) (fun _ h9 => h9) rfl dX9_fogs_26 ?_
      refine lv_iload_n hx hb dX9_fogs_29 rfl (lv_at hl 2 rfl) ?_
      have c_376 : a1 = 2 := by have q9 := b_368; unfold iv at q9; simp only [tI_eq, (by decide : (2 : Int32).toInt = 2)]; omega
      rcases c_376 with rfl
      · refine va_aldq hx hb hK hP 18 4 rfl rfl (vin (by decide +kernel)) dX9_fogs_30 ?_
        refine W.eq (g2 := F0 m 31 ls (.ref (y 37) :: .int a3 :: [])) rfl ?_
        refine va_get (ci := 7) (v := .int py37_1) (C := RX7) (T := TX7) (N := 3) hx hb hg inX7 hown hK hP 23 rfl rfl 1 (by decide) (hg _ q_2_2) (fun _ h9 => h9) rfl dX9_fogs_31 ?_
        refine lv_icmp_lt (tgt := 40) hx hb dX9_fogs_34 (by decide) (fun c_377 => ?_) (fun c_377 => ?_)
        · have b_378 : iv 0 7 a3 := iv_l1 c_377 b_375 b_371 (by first | decide | omega)
          refine lv_aload_n hx hb dX9_fogs_40 rfl (lv_at hl 1 rfl) ?_
          refine lv_aload_n hx hb dX9_fogs_41 rfl (lv_at hl 1 rfl) ?_
          refine va_get (ci := 9) (v := .ref (y 30)) (C := RX9) (T := TX9) (N := 15) hx hb hg inX9 hown hK hP 16 rfl rfl 7 (by decide) (hg _ q_2_43) (fun _ h9 => h9) rfl dX9_fogs_42 ?_
          refine lv_iload_n hx hb dX9_fogs_45 rfl (lv_at hl 2 rfl) ?_
          refine va_aldq hx hb hK hP 18 4 rfl rfl (vin (by decide +kernel)) dX9_fogs_46 ?_
          refine W.eq (g2 := F0 m 47 ls (.ref (y 37) :: .ref (y 0) :: [])) rfl ?_
          refine va_get (ci := 7) (v := .int py37_1) (C := RX7) (T := TX7) (N := 3) hx hb hg inX7 hown hK hP 23 rfl rfl 1 (by decide) (hg _ q_2_2) (fun _ h9 => h9) rfl dX9_fogs_47 ?_
          refine jnR (wr := [(y 30, aT V 4 (va_up (va_up (va_up (va_up (fun _ => none) 0 (some (y 33))) 1 (some (y 35))) 2 (some (y 37))) 3 (some (y 39)))), (y 33, .inr (7, o7_rii (y 34) py33_1 py33_2)), (y 34, aJ V 40 fy34), (y 35, .inr (7, o7_rii (y 36) py35_1 py35_2)), (y 36, aJ V 40 fy36), (y 37, .inr (7, o7_rii (y 38) py37_1 py37_2)), (y 38, aJ V 40 fy38), (y 39, .inr (7, o7_rii (y 40) py39_1 py39_2)), (y 40, aJ V 40 fy40)]) (rnV (rest := []) ⟨hx, hb, hml, hown, hg⟩ (k_X9_waysFromNow_2 l V n L Yw y D9 py37_1 fy3 fy9 fy20 fy21 fy22 pYw0_0 wa pYw0_5 pYw0_6 wb pYw0_14 pYw0_15 pYw0_16 fYw1 fYw2 fwa fYw4 fYw5 fYw6 fYw7 fYw8 fwb py0_1 o11 py0_12 py0_13 py0_14 py2_0 py2_1 py2_2 py2_3 py2_4 py2_5 py2_13 py2_14 py2_15 py2_16 py2_17 hn hL hq0 tfy20 bpYw0_0 bpYw0_5 bpYw0_6 bpYw0_14 bpYw0_15 bpYw0_16 tfYw1 tfYw4 tfYw5 tfYw6 tfYw7 bpy0_1 bpy0_12 bpy0_13 (iv_w b_367 (by first | decide | omega)) bpy2_2 bpy2_3 bpy2_4 bpy2_5 bpy2_13 bpy2_14 bpy2_15 bpy2_16 bpy2_17 hf0 hf1 hf2 hL9 hK9) mt_X9_waysFromNow q_4_52 ⟨Nat.le_of_ble_eq_true rfl, Nat.le_of_ble_eq_true rfl⟩ hK hP hD hS hA hE [0, 1, 2, 3, 4, 5, 6, 7, 8, 9, 10, 11, 12, 13, 14, 15, 16, 17] rfl rfl 16 rfl rfl rfl rfl hl.1 rfl (Nat.le_of_ble_eq_true rfl) dX9_fogs_50 ⟨Nat.le_of_ble_eq_true rfl, Nat.le_of_ble_eq_true rfl⟩) hP hD hS hA [0, 1, 2, 3, 4, 5, 6, 7, 8, 9, 10, 11, 12, 13, 14, 15, 16, 17] [18, 19, 20, 21, 22, 23, 24, 25, 26] rfl rfl rfl (by decide) (fun r_379 w H locs hw hP hD hS => ?_)
          refine W.widen (k := 10) (n := 46481) (Nat.le_of_ble_eq_true rfl) (Nat.le_of_ble_eq_true rfl) ?_
          obtain ⟨n, L, Yw, wa_380, wb_381, f_382, f_383, f_384, v_385, v_386, v_387, v_388, v_389, v_390, f_391, f_392, f_393, f_394, f_395, f_396, f_397, f_398, f_399, hn, hL, tf_382, bv_385, bv_386, bv_387, bv_388, bv_389, bv_390, tf_391, tf_394, tf_395, tf_396, tf_397, eW, g_400, g_401, g_402, g_403, g_404, kn_405, rfl⟩ := hw
          have hP : va_P V.1 vwCl [(y 30, aT V 4 (va_up (va_up (va_up (va_up (fun _ => none) 0 (some (y 33))) 1 (some (y 35))) 2 (some (y 37))) 3 (some (y 39)))), (y 33, .inr (7, o7_rii (y 34) py33_1 py33_2)), (y 34, aJ V 40 fy34), (y 35, .inr (7, o7_rii (y 36) py35_1 py35_2)), (y 36, aJ V 40 fy36), (y 37, .inr (7, o7_rii (y 38) py37_1 py37_2)), (y 38, aJ V 40 fy38), (y 39, .inr (7, o7_rii (y 40) py39_1 py39_2)), (y 40, aJ V 40 fy40), (y 3, aI V 4 fy3), (y 9, aI V 900 fy9), (y 19, .inr (4, o4_rrrrrr (y 2) (y 20) (y 21) (y 22) (y 23) (y 24))), (y 20, aI V 2000 f_382), (y 21, aI V 6 f_383), (y 22, aI V 64 f_384), (y 0, .inr (9, o9_rirrrrrrrrrviii (y 1) py0_1 (y 2) (y 10) (y 19) (y 25) (y 26) (y 30) (y 31) (y 32) (Yw 0) o11 py0_12 py0_13 py0_14)), (y 2, .inr (1, o1_iiiiiirrrrrrriiiii py2_0 py2_1 py2_2 py2_3 py2_4 py2_5 (y 3) (y 4) (y 5) (y 6) (y 7) (y 8) (y 9) py2_13 py2_14 py2_15 py2_16 py2_17)), (Yw 0, .inr (8, o8_iirrriirrrrrrriii v_385 (nI n) (Yw 1) (Yw 2) wa_380 v_386 v_387 (y 19) (Yw 4) (Yw 5) (Yw 6) (Yw 7) (Yw 8) wb_381 v_388 v_389 v_390)), (Yw 1, aI V n f_391), (Yw 2, aI V n f_392), (wa_380, aI V n f_393), (Yw 4, aI V L f_394), (Yw 5, aI V n f_395), (Yw 6, aI V (n * 4) f_396), (Yw 7, aI V n f_397), (Yw 8, aI V 4 f_398), (wb_381, aI V n f_399)] H := hP
          have hD := cpD hP hD
          rw [← eW]
          refine lv_astore (lv' := [(5, .ref (Yw 0)), (4, .int 0), (0, .ref (y 0)), (1, .int 2), (2, .int a2), (3, .int a3)]) hx hb dX9_fogs_53 hl (by decide) rfl (fun ls hl => ?_)
          refine lv_aload hx hb dX9_fogs_55 (lv_at hl 0 rfl) ?_
          refine lv_aload_n hx hb dX9_fogs_57 rfl (lv_at hl 2 rfl) ?_
          refine va_get (ci := 9) (v := .ref (y 30)) (C := RX9) (T := TX9) (N := 15) hx hb hg inX9 hown hK hP 15 rfl rfl 7 (by decide) (hg _ q_2_43) (fun _ h9 => h9) rfl dX9_fogs_58 ?_
          refine lv_iload_n hx hb dX9_fogs_61 rfl (lv_at hl 3 rfl) ?_
          refine va_aldq hx hb hK hP 0 4 rfl rfl (vin (by decide +kernel)) dX9_fogs_62 ?_
          refine W.eq (g2 := F0 m 63 ls (.ref (y 37) :: .ref (Yw 0) :: [])) rfl ?_
          refine lv_iload_n hx hb dX9_fogs_63 rfl (lv_at hl 4 rfl) ?_
          refine jnV (wr := [(y 30, aT V 4 (va_up (va_up (va_up (va_up (fun _ => none) 0 (some (y 33))) 1 (some (y 35))) 2 (some (y 37))) 3 (some (y 39)))), (y 33, .inr (7, o7_rii (y 34) py33_1 py33_2)), (y 34, aJ V 40 fy34), (y 35, .inr (7, o7_rii (y 36) py35_1 py35_2)), (y 36, aJ V 40 fy36), (y 39, .inr (7, o7_rii (y 40) py39_1 py39_2)), (y 40, aJ V 40 fy40), (y 3, aI V 4 fy3), (y 9, aI V 900 fy9), (y 19, .inr (4, o4_rrrrrr (y 2) (y 20) (y 21) (y 22) (y 23) (y 24))), (y 20, aI V 2000 f_382), (y 21, aI V 6 f_383), (y 22, aI V 64 f_384), (y 0, .inr (9, o9_rirrrrrrrrrviii (y 1) py0_1 (y 2) (y 10) (y 19) (y 25) (y 26) (y 30) (y 31) (y 32) (Yw 0) o11 py0_12 py0_13 py0_14)), (y 2, .inr (1, o1_iiiiiirrrrrrriiiii py2_0 py2_1 py2_2 py2_3 py2_4 py2_5 (y 3) (y 4) (y 5) (y 6) (y 7) (y 8) (y 9) py2_13 py2_14 py2_15 py2_16 py2_17)), (Yw 4, aI V L f_394), (Yw 5, aI V n f_395), (Yw 7, aI V n f_397), (Yw 8, aI V 4 f_398), (wb_381, aI V n f_399)]) (rnV (rest := []) ⟨hx, hb, hml, hown, hg⟩ (k_X8_traceTold_2 l V n L Yw y a2 f_393 py37_1 py37_2 fy38 v_385 wa_380 v_386 v_387 wb_381 v_388 v_389 v_390 f_391 f_392 f_396 hn hL b_366 (iv_w b_371 (by first | decide | omega)) bv_385 bv_386 bv_387 bv_388 bv_389 bv_390 tf_391 tf_396) mt_X8_traceTold q_5_39 ⟨Nat.le_of_ble_eq_true rfl, Nat.le_of_ble_eq_true rfl⟩ hK hP hD hS hA hE [20, 5, 6, 17, 18, 19, 23] rfl rfl 17 rfl rfl rfl rfl hl.1 rfl (Nat.le_of_ble_eq_true rfl) dX9_fogs_64 ⟨Nat.le_of_ble_eq_true rfl, Nat.le_of_ble_eq_true rfl⟩) hP hD hS hA [20, 5, 6, 17, 18, 19, 23] [0, 1, 2, 3, 4, 7, 8, 9, 10, 11, 12, 13, 14, 15, 16, 21, 22, 24, 25, 26] rfl rfl rfl (by decide) (fun  w H locs hw hP hD hS => ?_)
          obtain ⟨f_406, rfl⟩ := hw
          have hP : va_P V.1 vwCl [(y 30, aT V 4 (va_up (va_up (va_up (va_up (fun _ => none) 0 (some (y 33))) 1 (some (y 35))) 2 (some (y 37))) 3 (some (y 39)))), (y 33, .inr (7, o7_rii (y 34) py33_1 py33_2)), (y 34, aJ V 40 fy34), (y 35, .inr (7, o7_rii (y 36) py35_1 py35_2)), (y 36, aJ V 40 fy36), (y 39, .inr (7, o7_rii (y 40) py39_1 py39_2)), (y 40, aJ V 40 fy40), (y 3, aI V 4 fy3), (y 9, aI V 900 fy9), (y 19, .inr (4, o4_rrrrrr (y 2) (y 20) (y 21) (y 22) (y 23) (y 24))), (y 20, aI V 2000 f_382), (y 21, aI V 6 f_383), (y 22, aI V 64 f_384), (y 0, .inr (9, o9_rirrrrrrrrrviii (y 1) py0_1 (y 2) (y 10) (y 19) (y 25) (y 26) (y 30) (y 31) (y 32) (Yw 0) o11 py0_12 py0_13 py0_14)), (y 2, .inr (1, o1_iiiiiirrrrrrriiiii py2_0 py2_1 py2_2 py2_3 py2_4 py2_5 (y 3) (y 4) (y 5) (y 6) (y 7) (y 8) (y 9) py2_13 py2_14 py2_15 py2_16 py2_17)), (Yw 4, aI V L f_394), (Yw 5, aI V n f_395), (Yw 7, aI V n f_397), (Yw 8, aI V 4 f_398), (wb_381, aI V n f_399), (wa_380, aI V n f_406), (y 37, .inr (7, o7_rii (y 38) py37_1 py37_2)), (y 38, aJ V 40 fy38), (Yw 0, .inr (8, o8_iirrriirrrrrrriii v_385 (nI n) (Yw 1) (Yw 2) wa_380 v_386 v_387 (y 19) (Yw 4) (Yw 5) (Yw 6) (Yw 7) (Yw 8) wb_381 v_388 v_389 v_390)), (Yw 1, aI V n f_391), (Yw 2, aI V n f_392), (Yw 6, aI V (n * 4) f_396)] H := hP
          have hD := cpD hP hD
          refine lv_aload hx hb dX9_fogs_67 (lv_at hl 0 rfl) ?_
          refine lv_iload_n hx hb dX9_fogs_69 rfl (lv_at hl 5 rfl) ?_
          refine jnI (wr := [(y 30, aT V 4 (va_up (va_up (va_up (va_up (fun _ => none) 0 (some (y 33))) 1 (some (y 35))) 2 (some (y 37))) 3 (some (y 39)))), (y 33, .inr (7, o7_rii (y 34) py33_1 py33_2)), (y 34, aJ V 40 fy34), (y 35, .inr (7, o7_rii (y 36) py35_1 py35_2)), (y 36, aJ V 40 fy36), (y 39, .inr (7, o7_rii (y 40) py39_1 py39_2)), (y 40, aJ V 40 fy40), (y 3, aI V 4 fy3), (y 9, aI V 900 fy9), (y 19, .inr (4, o4_rrrrrr (y 2) (y 20) (y 21) (y 22) (y 23) (y 24))), (y 20, aI V 2000 f_382), (y 21, aI V 6 f_383), (y 22, aI V 64 f_384), (y 0, .inr (9, o9_rirrrrrrrrrviii (y 1) py0_1 (y 2) (y 10) (y 19) (y 25) (y 26) (y 30) (y 31) (y 32) (Yw 0) o11 py0_12 py0_13 py0_14)), (y 2, .inr (1, o1_iiiiiirrrrrrriiiii py2_0 py2_1 py2_2 py2_3 py2_4 py2_5 (y 3) (y 4) (y 5) (y 6) (y 7) (y 8) (y 9) py2_13 py2_14 py2_15 py2_16 py2_17)), (Yw 4, aI V L f_394), (Yw 5, aI V n f_395), (Yw 7, aI V n f_397), (Yw 8, aI V 4 f_398), (wb_381, aI V n f_399), (y 37, .inr (7, o7_rii (y 38) py37_1 py37_2)), (y 38, aJ V 40 fy38), (Yw 1, aI V n f_391)]) (rnV (rest := []) ⟨hx, hb, hml, hown, hg⟩ (k_X8_allTraced_0 l V n Yw y a3 v_385 wa_380 v_386 v_387 wb_381 v_388 v_389 v_390 f_392 f_406 f_396 hn (iv_w b_378 (by first | decide | omega)) bv_385 bv_386 bv_387 bv_388 bv_389 bv_390 tf_396) mt_X8_allTraced q_5_59 ⟨Nat.le_of_ble_eq_true rfl, Nat.le_of_ble_eq_true rfl⟩ hK hP hD hS hA hE [23, 25, 20, 26] rfl rfl 23 rfl rfl rfl rfl hl.1 rfl (Nat.le_of_ble_eq_true rfl) dX9_fogs_70 ⟨Nat.le_of_ble_eq_true rfl, Nat.le_of_ble_eq_true rfl⟩) hP hD hS hA [23, 25, 20, 26] [0, 1, 2, 3, 4, 5, 6, 7, 8, 9, 10, 11, 12, 13, 14, 15, 16, 17, 18, 19, 21, 22, 24] rfl rfl rfl (by decide) (fun r_407 w H locs hw hP hD hS => ?_)
          subst hw
          have hP : va_P V.1 vwCl [(y 30, aT V 4 (va_up (va_up (va_up (va_up (fun _ => none) 0 (some (y 33))) 1 (some (y 35))) 2 (some (y 37))) 3 (some (y 39)))), (y 33, .inr (7, o7_rii (y 34) py33_1 py33_2)), (y 34, aJ V 40 fy34), (y 35, .inr (7, o7_rii (y 36) py35_1 py35_2)), (y 36, aJ V 40 fy36), (y 39, .inr (7, o7_rii (y 40) py39_1 py39_2)), (y 40, aJ V 40 fy40), (y 3, aI V 4 fy3), (y 9, aI V 900 fy9), (y 19, .inr (4, o4_rrrrrr (y 2) (y 20) (y 21) (y 22) (y 23) (y 24))), (y 20, aI V 2000 f_382), (y 21, aI V 6 f_383), (y 22, aI V 64 f_384), (y 0, .inr (9, o9_rirrrrrrrrrviii (y 1) py0_1 (y 2) (y 10) (y 19) (y 25) (y 26) (y 30) (y 31) (y 32) (Yw 0) o11 py0_12 py0_13 py0_14)), (y 2, .inr (1, o1_iiiiiirrrrrrriiiii py2_0 py2_1 py2_2 py2_3 py2_4 py2_5 (y 3) (y 4) (y 5) (y 6) (y 7) (y 8) (y 9) py2_13 py2_14 py2_15 py2_16 py2_17)), (Yw 4, aI V L f_394), (Yw 5, aI V n f_395), (Yw 7, aI V n f_397), (Yw 8, aI V 4 f_398), (wb_381, aI V n f_399), (y 37, .inr (7, o7_rii (y 38) py37_1 py37_2)), (y 38, aJ V 40 fy38), (Yw 1, aI V n f_391), (Yw 0, .inr (8, o8_iirrriirrrrrrriii v_385 (nI n) (Yw 1) (Yw 2) wa_380 v_386 v_387 (y 19) (Yw 4) (Yw 5) (Yw 6) (Yw 7) (Yw 8) wb_381 v_388 v_389 v_390)), (Yw 2, aI V n f_392), (wa_380, aI V n f_406), (Yw 6, aI V (n * 4) f_396)] H := hP
          have hD := cpD hP hD
          have hP := subP (ws' := [(y 0, .inr (9, o9_rirrrrrrrrrviii (y 1) py0_1 (y 2) (y 10) (y 19) (y 25) (y 26) (y 30) (y 31) (y 32) (Yw 0) o11 py0_12 py0_13 py0_14)), (y 2, .inr (1, o1_iiiiiirrrrrrriiiii py2_0 py2_1 py2_2 py2_3 py2_4 py2_5 (y 3) (y 4) (y 5) (y 6) (y 7) (y 8) (y 9) py2_13 py2_14 py2_15 py2_16 py2_17)), (y 3, aI V 4 fy3), (y 9, aI V 900 fy9), (y 19, .inr (4, o4_rrrrrr (y 2) (y 20) (y 21) (y 22) (y 23) (y 24))), (y 20, aI V 2000 f_382), (y 21, aI V 6 f_383), (y 22, aI V 64 f_384), (y 30, aT V 4 (va_up (va_up (va_up (va_up (fun _ => none) 0 (some (y 33))) 1 (some (y 35))) 2 (some (y 37))) 3 (some (y 39)))), (y 33, .inr (7, o7_rii (y 34) py33_1 py33_2)), (y 34, aJ V 40 fy34), (y 35, .inr (7, o7_rii (y 36) py35_1 py35_2)), (y 36, aJ V 40 fy36), (y 37, .inr (7, o7_rii (y 38) py37_1 py37_2)), (y 38, aJ V 40 fy38), (y 39, .inr (7, o7_rii (y 40) py39_1 py39_2)), (y 40, aJ V 40 fy40), (Yw 0, .inr (8, o8_iirrriirrrrrrriii v_385 (nI n) (Yw 1) (Yw 2) wa_380 v_386 v_387 (y 19) (Yw 4) (Yw 5) (Yw 6) (Yw 7) (Yw 8) wb_381 v_388 v_389 v_390)), (Yw 1, aI V n f_391), (Yw 2, aI V n f_392), (wa_380, aI V n f_406), (Yw 4, aI V L f_394), (Yw 5, aI V n f_395), (Yw 6, aI V (n * 4) f_396), (Yw 7, aI V n f_397), (Yw 8, aI V 4 f_398), (wb_381, aI V n f_399)]) hP [13, 14, 7, 8, 9, 10, 11, 12, 0, 1, 2, 3, 4, 20, 21, 5, 6, 23, 22, 24, 25, 15, 16, 26, 17, 18, 19] rfl
          have hD := subD hP hD [13, 14, 7, 8, 9, 10, 11, 12, 0, 1, 2, 3, 4, 20, 21, 5, 6, 23, 22, 24, 25, 15, 16, 26, 17, 18, 19] rfl rfl
          exact fiI hx hb hr hlk hK (subP (ws' := [(y 0, .inr (9, o9_rirrrrrrrrrviii (y 1) py0_1 (y 2) (y 10) (y 19) (y 25) (y 26) (y 30) (y 31) (y 32) (Yw 0) o11 py0_12 py0_13 py0_14)), (y 2, .inr (1, o1_iiiiiirrrrrrriiiii py2_0 py2_1 py2_2 py2_3 py2_4 py2_5 (y 3) (y 4) (y 5) (y 6) (y 7) (y 8) (y 9) py2_13 py2_14 py2_15 py2_16 py2_17)), (y 3, aI V 4 fy3), (y 9, aI V 900 fy9), (y 19, .inr (4, o4_rrrrrr (y 2) (y 20) (y 21) (y 22) (y 23) (y 24))), (y 20, aI V 2000 f_382), (y 21, aI V 6 f_383), (y 22, aI V 64 f_384), (y 30, aT V 4 (va_up (va_up (va_up (va_up (fun _ => none) 0 (some (y 33))) 1 (some (y 35))) 2 (some (y 37))) 3 (some (y 39)))), (y 33, .inr (7, o7_rii (y 34) py33_1 py33_2)), (y 34, aJ V 40 fy34), (y 35, .inr (7, o7_rii (y 36) py35_1 py35_2)), (y 36, aJ V 40 fy36), (y 37, .inr (7, o7_rii (y 38) py37_1 py37_2)), (y 38, aJ V 40 fy38), (y 39, .inr (7, o7_rii (y 40) py39_1 py39_2)), (y 40, aJ V 40 fy40), (Yw 0, .inr (8, o8_iirrriirrrrrrriii v_385 (nI n) (Yw 1) (Yw 2) wa_380 v_386 v_387 (y 19) (Yw 4) (Yw 5) (Yw 6) (Yw 7) (Yw 8) wb_381 v_388 v_389 v_390)), (Yw 1, aI V n f_391), (Yw 2, aI V n f_392), (wa_380, aI V n f_406), (Yw 4, aI V L f_394), (Yw 5, aI V n f_395), (Yw 6, aI V (n * 4) f_396), (Yw 7, aI V n f_397), (Yw 8, aI V 4 f_398), (wb_381, aI V n f_399)]) hP [0, 1, 2, 3, 4, 5, 6, 7, 8, 9, 10, 11, 12, 13, 14, 15, 16, 17, 18, 19, 20, 21, 22, 23, 24, 25, 26] rfl) (hD.sub [0, 1, 2, 3, 4, 5, 6, 7, 8, 9, 10, 11, 12, 13, 14, 15, 16, 17, 18, 19, 20, 21, 22, 23, 24, 25, 26] rfl rfl) hS dX9_fogs_73 (Nat.le_of_ble_eq_true rfl) (Nat.le_of_ble_eq_true rfl) (⟨n, L, Yw, wa_380, wb_381, f_382, f_383, f_384, v_385, v_386, v_387, v_388, v_389, v_390, f_391, f_392, f_406, f_394, f_395, f_396, f_397, f_398, f_399, hn, hL, tf_382, bv_385, bv_386, bv_387, bv_388, bv_389, bv_390, tf_391, tf_394, tf_395, tf_396, tf_397, g_400, g_401, g_402, g_404, kn_405, rfl⟩)
        · have b_408 : iv 1 2147483647 a3 := iv_e2 (Int32.not_lt.mp c_377) b_371 b_375 (by first | decide | omega)
          refine lv_bipush (v := (-7)) hx hb dX9_fogs_37 (by decide) ?_
          have z_0 := Int32.lt_iff_toInt_lt.mp hq0
          have z_1 := Int32.le_iff_toInt_le.mp (Int32.not_lt.mp c_108)
          have z_2 := Int32.lt_iff_toInt_lt.mp (Int32.not_le.mp c_109)
          have z_3 := Int32.le_iff_toInt_le.mp (Int32.not_lt.mp c_110)
          have z_4 := Int32.lt_iff_toInt_lt.mp (Int32.not_le.mp c_111)
          have z_5 := congrArg Int32.toInt c_112
          have z_6 := Int32.le_iff_toInt_le.mp c_113
          have z_7 := Int32.le_iff_toInt_le.mp (Int32.not_lt.mp c_114)
          have z_8 := Int32.le_iff_toInt_le.mp c_115
          have z_9 := Int32.le_iff_toInt_le.mp c_374
          have z_10 := Int32.le_iff_toInt_le.mp (Int32.not_lt.mp c_377)
          have k_0 : (0 : Int32).toInt = 0 := (by decide)
          have k_1 : (1 : Int32).toInt = 1 := (by decide)
          have k_2 : (2 : Int32).toInt = 2 := (by decide)
          have k_4 : (4 : Int32).toInt = 4 := (by decide)
          have k_8 : (8 : Int32).toInt = 8 := (by decide)
          exfalso
          have g_0 := hf3
          have g_1 := hf4
          have g_2 := hf5
          rw [cntF_2] at g_2
          omega
    · have b_409 : iv (-2147483648) (-1) a3 := iv_l1 (Int32.not_le.mp c_374) (iv_top a3) (iv_c (0 : Int32) (a := 0) (b := 0) (by decide)) (by first | decide | omega)
      refine lv_bipush (v := (-3)) hx hb dX9_fogs_21 (by decide) ?_
      have z_0 := Int32.lt_iff_toInt_lt.mp hq0
      have z_1 := Int32.le_iff_toInt_le.mp (Int32.not_lt.mp c_108)
      have z_2 := Int32.lt_iff_toInt_lt.mp (Int32.not_le.mp c_109)
      have z_3 := Int32.le_iff_toInt_le.mp (Int32.not_lt.mp c_110)
      have z_4 := Int32.lt_iff_toInt_lt.mp (Int32.not_le.mp c_111)
      have z_5 := congrArg Int32.toInt c_112
      have z_6 := Int32.le_iff_toInt_le.mp c_113
      have z_7 := Int32.le_iff_toInt_le.mp (Int32.not_lt.mp c_114)
      have z_8 := Int32.le_iff_toInt_le.mp c_115
      have z_9 := Int32.lt_iff_toInt_lt.mp (Int32.not_le.mp c_374)
      have k_0 : (0 : Int32).toInt = 0 := (by decide)
      have k_1 : (1 : Int32).toInt = 1 := (by decide)
      have k_2 : (2 : Int32).toInt = 2 := (by decide)
      have k_4 : (4 : Int32).toInt = 4 := (by decide)
      have k_8 : (8 : Int32).toInt = 8 := (by decide)
      exfalso
      have g_0 := hf3
      have g_1 := hf4
      have g_2 := hf5
      omega
  · have hP : va_P V.1 vwCl [(y 3, aI V 4 fy3), (y 9, aI V 900 fy9), (y 19, .inr (4, o4_rrrrrr (y 2) (y 20) (y 21) (y 22) (y 23) (y 24))), (y 20, aI V 2000 fy20), (y 21, aI V 6 fy21), (y 22, aI V 64 fy22), (Yw 0, .inr (8, o8_iirrriirrrrrrriii pYw0_0 (nI n) (Yw 1) (Yw 2) wa pYw0_5 pYw0_6 (y 19) (Yw 4) (Yw 5) (Yw 6) (Yw 7) (Yw 8) wb pYw0_14 pYw0_15 pYw0_16)), (Yw 1, aI V n fYw1), (Yw 2, aI V n fYw2), (wa, aI V n fwa), (Yw 4, aI V L fYw4), (Yw 5, aI V n fYw5), (Yw 6, aI V (n * 4) fYw6), (Yw 7, aI V n fYw7), (Yw 8, aI V 4 fYw8), (wb, aI V n fwb), (y 0, .inr (9, o9_rirrrrrrrrrviii (y 1) py0_1 (y 2) (y 10) (y 19) (y 25) (y 26) (y 30) (y 31) (y 32) (Yw 0) o11 py0_12 py0_13 py0_14)), (y 2, .inr (1, o1_iiiiiirrrrrrriiiii py2_0 py2_1 py2_2 py2_3 py2_4 py2_5 (y 3) (y 4) (y 5) (y 6) (y 7) (y 8) (y 9) py2_13 py2_14 py2_15 py2_16 py2_17)), (y 30, aT V 4 (va_up (va_up (va_up (va_up (fun _ => none) 0 (some (y 33))) 1 (some (y 35))) 2 (some (y 37))) 3 (some (y 39)))), (y 33, .inr (7, o7_rii (y 34) py33_1 py33_2)), (y 34, aJ V 40 fy34), (y 35, .inr (7, o7_rii (y 36) py35_1 py35_2)), (y 36, aJ V 40 fy36), (y 37, .inr (7, o7_rii (y 38) py37_1 py37_2)), (y 38, aJ V 40 fy38), (y 39, .inr (7, o7_rii (y 40) py39_1 py39_2)), (y 40, aJ V 40 fy40)] H := hP
    have hD := cpD hP hD
    have b_410 : iv 0 2147483647 a2 := iv_e2 (Int32.not_lt.mp c_119) (iv_c (0 : Int32) (a := 0) (b := 0) (by decide)) (iv_top a2) (by first | decide | omega)
    have b_411 : iv 0 3 a2 := iv_l1 (Int32.not_le.mp c_120) b_410 bpy2_1 (by first | decide | omega)
    have b_412 : iv 1 4 py2_1 := iv_l2 (Int32.not_le.mp c_120) b_410 bpy2_1 (by first | decide | omega)
    have b_413 : iv 2 2 a1 := iv_q c_121 (iv_c (2 : Int32) (a := 2) (b := 2) (by decide))
    have b_414 : iv 0 40 py37_1 := iv_e2 c_122 (iv_c (0 : Int32) (a := 0) (b := 0) (by decide)) bpy37_1 (by first | decide | omega)
    have b_415 : iv 1 40 py37_1 := iv_e2 (Int32.not_lt.mp c_123) (iv_c (1 : Int32) (a := 1) (b := 1) (by decide)) b_414 (by first | decide | omega)
    have b_416 : iv 1 8 py37_1 := iv_e1 c_124 b_415 (iv_c (8 : Int32) (a := 8) (b := 8) (by decide)) (by first | decide | omega)
    refine lv_istore (lv' := [(4, .int (-3)), (0, .ref (y 0)), (1, .int a1), (2, .int a2), (3, .int a3)]) hx hb dX9_fogs_7 hl (by decide) rfl (fun ls hl => ?_)
    refine lv_iload hx hb dX9_fogs_9 (lv_at hl 0 rfl) ?_
    refine lv_if_eq (tgt := 17) hx hb dX9_fogs_11 (by decide) (fun c_418 => absurd c_418 (by decide)) (fun _ => ?_)
    refine lv_iload hx hb dX9_fogs_14 (lv_at hl 0 rfl) ?_
    have z_0 := Int32.lt_iff_toInt_lt.mp hq0
    have z_1 := Int32.le_iff_toInt_le.mp (Int32.not_lt.mp c_117)
    have z_2 := Int32.lt_iff_toInt_lt.mp (Int32.not_le.mp c_118)
    have z_3 := Int32.le_iff_toInt_le.mp (Int32.not_lt.mp c_119)
    have z_4 := Int32.lt_iff_toInt_lt.mp (Int32.not_le.mp c_120)
    have z_5 := congrArg Int32.toInt c_121
    have z_6 := Int32.le_iff_toInt_le.mp c_122
    have z_7 := Int32.le_iff_toInt_le.mp (Int32.not_lt.mp c_123)
    have z_8 := Int32.le_iff_toInt_le.mp c_124
    have k_0 : (0 : Int32).toInt = 0 := (by decide)
    have k_1 : (1 : Int32).toInt = 1 := (by decide)
    have k_2 : (2 : Int32).toInt = 2 := (by decide)
    have k_4 : (4 : Int32).toInt = 4 := (by decide)
    have k_8 : (8 : Int32).toInt = 8 := (by decide)
    exfalso
    have g_0 := hf3
    have g_1 := hf4
    have g_2 := hf5
    exact absurd (g_125.trans g_0) (by decide)
  · have hP : va_P V.1 vwCl [(y 3, aI V 4 fy3), (y 9, aI V 900 fy9), (y 19, .inr (4, o4_rrrrrr (y 2) (y 20) (y 21) (y 22) (y 23) (y 24))), (y 20, aI V 2000 fy20), (y 21, aI V 6 fy21), (y 22, aI V 64 fy22), (Yw 0, .inr (8, o8_iirrriirrrrrrriii pYw0_0 (nI n) (Yw 1) (Yw 2) wa pYw0_5 pYw0_6 (y 19) (Yw 4) (Yw 5) (Yw 6) (Yw 7) (Yw 8) wb pYw0_14 pYw0_15 pYw0_16)), (Yw 1, aI V n fYw1), (Yw 2, aI V n fYw2), (wa, aI V n fwa), (Yw 4, aI V L fYw4), (Yw 5, aI V n fYw5), (Yw 6, aI V (n * 4) fYw6), (Yw 7, aI V n fYw7), (Yw 8, aI V 4 fYw8), (wb, aI V n fwb), (y 0, .inr (9, o9_rirrrrrrrrrviii (y 1) py0_1 (y 2) (y 10) (y 19) (y 25) (y 26) (y 30) (y 31) (y 32) (Yw 0) o11 py0_12 py0_13 py0_14)), (y 2, .inr (1, o1_iiiiiirrrrrrriiiii py2_0 py2_1 py2_2 py2_3 py2_4 py2_5 (y 3) (y 4) (y 5) (y 6) (y 7) (y 8) (y 9) py2_13 py2_14 py2_15 py2_16 py2_17)), (y 30, aT V 4 (va_up (va_up (va_up (va_up (fun _ => none) 0 (some (y 33))) 1 (some (y 35))) 2 (some (y 37))) 3 (some (y 39)))), (y 33, .inr (7, o7_rii (y 34) py33_1 py33_2)), (y 34, aJ V 40 fy34), (y 35, .inr (7, o7_rii (y 36) py35_1 py35_2)), (y 36, aJ V 40 fy36), (y 37, .inr (7, o7_rii (y 38) py37_1 py37_2)), (y 38, aJ V 40 fy38), (y 39, .inr (7, o7_rii (y 40) py39_1 py39_2)), (y 40, aJ V 40 fy40)] H := hP
    have hD := cpD hP hD
    have b_419 : iv 0 2147483647 a2 := iv_e2 (Int32.not_lt.mp c_128) (iv_c (0 : Int32) (a := 0) (b := 0) (by decide)) (iv_top a2) (by first | decide | omega)
    have b_420 : iv 0 3 a2 := iv_l1 (Int32.not_le.mp c_129) b_419 bpy2_1 (by first | decide | omega)
    have b_421 : iv 1 4 py2_1 := iv_l2 (Int32.not_le.mp c_129) b_419 bpy2_1 (by first | decide | omega)
    have b_422 : iv 2 2 a1 := iv_q c_130 (iv_c (2 : Int32) (a := 2) (b := 2) (by decide))
    have b_423 : iv 0 40 py37_1 := iv_e2 c_131 (iv_c (0 : Int32) (a := 0) (b := 0) (by decide)) bpy37_1 (by first | decide | omega)
    have b_424 : iv 1 40 py37_1 := iv_e2 (Int32.not_lt.mp c_132) (iv_c (1 : Int32) (a := 1) (b := 1) (by decide)) b_423 (by first | decide | omega)
    have b_425 : iv 9 40 py37_1 := iv_l2 (Int32.not_le.mp c_133) (iv_c (8 : Int32) (a := 8) (b := 8) (by decide)) b_424 (by first | decide | omega)
    refine lv_istore (lv' := [(4, .int (-4)), (0, .ref (y 0)), (1, .int a1), (2, .int a2), (3, .int a3)]) hx hb dX9_fogs_7 hl (by decide) rfl (fun ls hl => ?_)
    refine lv_iload hx hb dX9_fogs_9 (lv_at hl 0 rfl) ?_
    refine lv_if_eq (tgt := 17) hx hb dX9_fogs_11 (by decide) (fun c_427 => absurd c_427 (by decide)) (fun _ => ?_)
    refine lv_iload hx hb dX9_fogs_14 (lv_at hl 0 rfl) ?_
    have z_0 := Int32.lt_iff_toInt_lt.mp hq0
    have z_1 := Int32.le_iff_toInt_le.mp (Int32.not_lt.mp c_126)
    have z_2 := Int32.lt_iff_toInt_lt.mp (Int32.not_le.mp c_127)
    have z_3 := Int32.le_iff_toInt_le.mp (Int32.not_lt.mp c_128)
    have z_4 := Int32.lt_iff_toInt_lt.mp (Int32.not_le.mp c_129)
    have z_5 := congrArg Int32.toInt c_130
    have z_6 := Int32.le_iff_toInt_le.mp c_131
    have z_7 := Int32.le_iff_toInt_le.mp (Int32.not_lt.mp c_132)
    have z_8 := Int32.lt_iff_toInt_lt.mp (Int32.not_le.mp c_133)
    have k_0 : (0 : Int32).toInt = 0 := (by decide)
    have k_1 : (1 : Int32).toInt = 1 := (by decide)
    have k_2 : (2 : Int32).toInt = 2 := (by decide)
    have k_4 : (4 : Int32).toInt = 4 := (by decide)
    have k_8 : (8 : Int32).toInt = 8 := (by decide)
    exfalso
    have g_0 := hf3
    have g_1 := hf4
    have g_2 := hf5
    exact absurd (g_134.trans g_0) (by decide)
  · have hP : va_P V.1 vwCl [(y 3, aI V 4 fy3), (y 9, aI V 900 fy9), (y 19, .inr (4, o4_rrrrrr (y 2) (y 20) (y 21) (y 22) (y 23) (y 24))), (y 20, aI V 2000 fy20), (y 21, aI V 6 fy21), (y 22, aI V 64 fy22), (Yw 0, .inr (8, o8_iirrriirrrrrrriii pYw0_0 (nI n) (Yw 1) (Yw 2) wa pYw0_5 pYw0_6 (y 19) (Yw 4) (Yw 5) (Yw 6) (Yw 7) (Yw 8) wb pYw0_14 pYw0_15 pYw0_16)), (Yw 1, aI V n fYw1), (Yw 2, aI V n fYw2), (wa, aI V n fwa), (Yw 4, aI V L fYw4), (Yw 5, aI V n fYw5), (Yw 6, aI V (n * 4) fYw6), (Yw 7, aI V n fYw7), (Yw 8, aI V 4 fYw8), (wb, aI V n fwb), (y 0, .inr (9, o9_rirrrrrrrrrviii (y 1) py0_1 (y 2) (y 10) (y 19) (y 25) (y 26) (y 30) (y 31) (y 32) (Yw 0) o11 py0_12 py0_13 py0_14)), (y 2, .inr (1, o1_iiiiiirrrrrrriiiii py2_0 py2_1 py2_2 py2_3 py2_4 py2_5 (y 3) (y 4) (y 5) (y 6) (y 7) (y 8) (y 9) py2_13 py2_14 py2_15 py2_16 py2_17)), (y 30, aT V 4 (va_up (va_up (va_up (va_up (fun _ => none) 0 (some (y 33))) 1 (some (y 35))) 2 (some (y 37))) 3 (some (y 39)))), (y 33, .inr (7, o7_rii (y 34) py33_1 py33_2)), (y 34, aJ V 40 fy34), (y 35, .inr (7, o7_rii (y 36) py35_1 py35_2)), (y 36, aJ V 40 fy36), (y 37, .inr (7, o7_rii (y 38) py37_1 py37_2)), (y 38, aJ V 40 fy38), (y 39, .inr (7, o7_rii (y 40) py39_1 py39_2)), (y 40, aJ V 40 fy40)] H := hP
    have hD := cpD hP hD
    have b_428 : iv 0 2147483647 a2 := iv_e2 (Int32.not_lt.mp c_137) (iv_c (0 : Int32) (a := 0) (b := 0) (by decide)) (iv_top a2) (by first | decide | omega)
    have b_429 : iv 0 3 a2 := iv_l1 (Int32.not_le.mp c_138) b_428 bpy2_1 (by first | decide | omega)
    have b_430 : iv 1 4 py2_1 := iv_l2 (Int32.not_le.mp c_138) b_428 bpy2_1 (by first | decide | omega)
    have b_431 : iv 2 2 a1 := iv_q c_139 (iv_c (2 : Int32) (a := 2) (b := 2) (by decide))
    have b_432 : iv (-1) (-1) py37_1 := iv_l1 (Int32.not_le.mp c_140) bpy37_1 (iv_c (0 : Int32) (a := 0) (b := 0) (by decide)) (by first | decide | omega)
    refine lv_istore (lv' := [(4, .int (-6)), (0, .ref (y 0)), (1, .int a1), (2, .int a2), (3, .int a3)]) hx hb dX9_fogs_7 hl (by decide) rfl (fun ls hl => ?_)
    refine lv_iload hx hb dX9_fogs_9 (lv_at hl 0 rfl) ?_
    refine lv_if_eq (tgt := 17) hx hb dX9_fogs_11 (by decide) (fun c_434 => absurd c_434 (by decide)) (fun _ => ?_)
    refine lv_iload hx hb dX9_fogs_14 (lv_at hl 0 rfl) ?_
    have z_0 := Int32.lt_iff_toInt_lt.mp hq0
    have z_1 := Int32.le_iff_toInt_le.mp (Int32.not_lt.mp c_135)
    have z_2 := Int32.lt_iff_toInt_lt.mp (Int32.not_le.mp c_136)
    have z_3 := Int32.le_iff_toInt_le.mp (Int32.not_lt.mp c_137)
    have z_4 := Int32.lt_iff_toInt_lt.mp (Int32.not_le.mp c_138)
    have z_5 := congrArg Int32.toInt c_139
    have z_6 := Int32.lt_iff_toInt_lt.mp (Int32.not_le.mp c_140)
    have k_0 : (0 : Int32).toInt = 0 := (by decide)
    have k_2 : (2 : Int32).toInt = 2 := (by decide)
    have k_4 : (4 : Int32).toInt = 4 := (by decide)
    exfalso
    have g_0 := hf3
    have g_1 := hf4
    have g_2 := hf5
    exact absurd (g_141.trans g_0) (by decide)
  · have hP : va_P V.1 vwCl [(y 3, aI V 4 fy3), (y 9, aI V 900 fy9), (y 19, .inr (4, o4_rrrrrr (y 2) (y 20) (y 21) (y 22) (y 23) (y 24))), (y 20, aI V 2000 fy20), (y 21, aI V 6 fy21), (y 22, aI V 64 fy22), (Yw 0, .inr (8, o8_iirrriirrrrrrriii pYw0_0 (nI n) (Yw 1) (Yw 2) wa pYw0_5 pYw0_6 (y 19) (Yw 4) (Yw 5) (Yw 6) (Yw 7) (Yw 8) wb pYw0_14 pYw0_15 pYw0_16)), (Yw 1, aI V n fYw1), (Yw 2, aI V n fYw2), (wa, aI V n fwa), (Yw 4, aI V L fYw4), (Yw 5, aI V n fYw5), (Yw 6, aI V (n * 4) fYw6), (Yw 7, aI V n fYw7), (Yw 8, aI V 4 fYw8), (wb, aI V n fwb), (y 0, .inr (9, o9_rirrrrrrrrrviii (y 1) py0_1 (y 2) (y 10) (y 19) (y 25) (y 26) (y 30) (y 31) (y 32) (Yw 0) o11 py0_12 py0_13 py0_14)), (y 2, .inr (1, o1_iiiiiirrrrrrriiiii py2_0 py2_1 py2_2 py2_3 py2_4 py2_5 (y 3) (y 4) (y 5) (y 6) (y 7) (y 8) (y 9) py2_13 py2_14 py2_15 py2_16 py2_17)), (y 30, aT V 4 (va_up (va_up (va_up (va_up (fun _ => none) 0 (some (y 33))) 1 (some (y 35))) 2 (some (y 37))) 3 (some (y 39)))), (y 33, .inr (7, o7_rii (y 34) py33_1 py33_2)), (y 34, aJ V 40 fy34), (y 35, .inr (7, o7_rii (y 36) py35_1 py35_2)), (y 36, aJ V 40 fy36), (y 37, .inr (7, o7_rii (y 38) py37_1 py37_2)), (y 38, aJ V 40 fy38), (y 39, .inr (7, o7_rii (y 40) py39_1 py39_2)), (y 40, aJ V 40 fy40)] H := hP
    have hD := cpD hP hD
    have b_435 : iv 0 2147483647 a2 := iv_e2 (Int32.not_lt.mp c_144) (iv_c (0 : Int32) (a := 0) (b := 0) (by decide)) (iv_top a2) (by first | decide | omega)
    have b_436 : iv 0 3 a2 := iv_l1 (Int32.not_le.mp c_145) b_435 bpy2_1 (by first | decide | omega)
    have b_437 : iv 1 4 py2_1 := iv_l2 (Int32.not_le.mp c_145) b_435 bpy2_1 (by first | decide | omega)
    have b_438 : iv 3 3 a1 := iv_q c_146 (iv_c (3 : Int32) (a := 3) (b := 3) (by decide))
    have b_439 : iv 0 40 py39_1 := iv_e2 c_147 (iv_c (0 : Int32) (a := 0) (b := 0) (by decide)) bpy39_1 (by first | decide | omega)
    have b_440 : iv 0 0 py39_1 := iv_l1 c_148 b_439 (iv_c (1 : Int32) (a := 1) (b := 1) (by decide)) (by first | decide | omega)
    refine lv_istore (lv' := [(4, .int (-4)), (0, .ref (y 0)), (1, .int a1), (2, .int a2), (3, .int a3)]) hx hb dX9_fogs_7 hl (by decide) rfl (fun ls hl => ?_)
    refine lv_iload hx hb dX9_fogs_9 (lv_at hl 0 rfl) ?_
    refine lv_if_eq (tgt := 17) hx hb dX9_fogs_11 (by decide) (fun c_442 => absurd c_442 (by decide)) (fun _ => ?_)
    refine lv_iload hx hb dX9_fogs_14 (lv_at hl 0 rfl) ?_
    have z_0 := Int32.lt_iff_toInt_lt.mp hq0
    have z_1 := Int32.le_iff_toInt_le.mp (Int32.not_lt.mp c_142)
    have z_2 := Int32.lt_iff_toInt_lt.mp (Int32.not_le.mp c_143)
    have z_3 := Int32.le_iff_toInt_le.mp (Int32.not_lt.mp c_144)
    have z_4 := Int32.lt_iff_toInt_lt.mp (Int32.not_le.mp c_145)
    have z_5 := congrArg Int32.toInt c_146
    have z_6 := Int32.le_iff_toInt_le.mp c_147
    have z_7 := Int32.lt_iff_toInt_lt.mp c_148
    have k_0 : (0 : Int32).toInt = 0 := (by decide)
    have k_1 : (1 : Int32).toInt = 1 := (by decide)
    have k_3 : (3 : Int32).toInt = 3 := (by decide)
    have k_4 : (4 : Int32).toInt = 4 := (by decide)
    exfalso
    have g_0 := hf3
    have g_1 := hf4
    have g_2 := hf5
    exact absurd (g_149.trans g_0) (by decide)
  · have hP : va_P V.1 vwCl [(y 3, aI V 4 fy3), (y 9, aI V 900 fy9), (y 19, .inr (4, o4_rrrrrr (y 2) (y 20) (y 21) (y 22) (y 23) (y 24))), (y 20, aI V 2000 fy20), (y 21, aI V 6 fy21), (y 22, aI V 64 fy22), (Yw 0, .inr (8, o8_iirrriirrrrrrriii pYw0_0 (nI n) (Yw 1) (Yw 2) wa pYw0_5 pYw0_6 (y 19) (Yw 4) (Yw 5) (Yw 6) (Yw 7) (Yw 8) wb pYw0_14 pYw0_15 pYw0_16)), (Yw 1, aI V n fYw1), (Yw 2, aI V n fYw2), (wa, aI V n fwa), (Yw 4, aI V L fYw4), (Yw 5, aI V n fYw5), (Yw 6, aI V (n * 4) fYw6), (Yw 7, aI V n fYw7), (Yw 8, aI V 4 fYw8), (wb, aI V n fwb), (y 0, .inr (9, o9_rirrrrrrrrrviii (y 1) py0_1 (y 2) (y 10) (y 19) (y 25) (y 26) (y 30) (y 31) (y 32) (Yw 0) o11 py0_12 py0_13 py0_14)), (y 2, .inr (1, o1_iiiiiirrrrrrriiiii py2_0 py2_1 py2_2 py2_3 py2_4 py2_5 (y 3) (y 4) (y 5) (y 6) (y 7) (y 8) (y 9) py2_13 py2_14 py2_15 py2_16 py2_17)), (y 30, aT V 4 (va_up (va_up (va_up (va_up (fun _ => none) 0 (some (y 33))) 1 (some (y 35))) 2 (some (y 37))) 3 (some (y 39)))), (y 33, .inr (7, o7_rii (y 34) py33_1 py33_2)), (y 34, aJ V 40 fy34), (y 35, .inr (7, o7_rii (y 36) py35_1 py35_2)), (y 36, aJ V 40 fy36), (y 37, .inr (7, o7_rii (y 38) py37_1 py37_2)), (y 38, aJ V 40 fy38), (y 39, .inr (7, o7_rii (y 40) py39_1 py39_2)), (y 40, aJ V 40 fy40)] H := hP
    have hD := cpD hP hD
    have b_443 : iv 0 2147483647 a2 := iv_e2 (Int32.not_lt.mp c_152) (iv_c (0 : Int32) (a := 0) (b := 0) (by decide)) (iv_top a2) (by first | decide | omega)
    have b_444 : iv 0 3 a2 := iv_l1 (Int32.not_le.mp c_153) b_443 bpy2_1 (by first | decide | omega)
    have b_445 : iv 1 4 py2_1 := iv_l2 (Int32.not_le.mp c_153) b_443 bpy2_1 (by first | decide | omega)
    have b_446 : iv 3 3 a1 := iv_q c_154 (iv_c (3 : Int32) (a := 3) (b := 3) (by decide))
    have b_447 : iv 0 40 py39_1 := iv_e2 c_155 (iv_c (0 : Int32) (a := 0) (b := 0) (by decide)) bpy39_1 (by first | decide | omega)
    have b_448 : iv 1 40 py39_1 := iv_e2 (Int32.not_lt.mp c_156) (iv_c (1 : Int32) (a := 1) (b := 1) (by decide)) b_447 (by first | decide | omega)
    have b_449 : iv 1 8 py39_1 := iv_e1 c_157 b_448 (iv_c (8 : Int32) (a := 8) (b := 8) (by decide)) (by first | decide | omega)
    refine lv_istore (lv' := [(4, .int 0), (0, .ref (y 0)), (1, .int a1), (2, .int a2), (3, .int a3)]) hx hb dX9_fogs_7 hl (by decide) rfl (fun ls hl => ?_)
    refine lv_iload hx hb dX9_fogs_9 (lv_at hl 0 rfl) ?_
    refine lv_if_eq (tgt := 17) hx hb dX9_fogs_11 (by decide) (fun _ => ?_) (fun c_451 => absurd c_451 (by decide))
    refine lv_iload_n hx hb dX9_fogs_17 rfl (lv_at hl 4 rfl) ?_
    refine lv_if_ge (tgt := 24) hx hb dX9_fogs_18 (by decide) (fun c_452 => ?_) (fun c_452 => ?_)
    · have b_453 : iv 0 2147483647 a3 := iv_e2 c_452 (iv_c (0 : Int32) (a := 0) (b := 0) (by decide)) (iv_top a3) (by first | decide | omega)
      refine lv_iload_n hx hb dX9_fogs_24 rfl (lv_at hl 4 rfl) ?_
      refine lv_aload_n hx hb dX9_fogs_25 rfl (lv_at hl 1 rfl) ?_
      refine va_get (ci := 9) (v := .ref (y 30)) (C := RX9) (T := TX9) (N := 15) hx hb hg inX9 hown hK hP 16 rfl rfl 7 (by decide) (hg _ q_2_43) (fun _ h9 => h9) rfl dX9_fogs_26 ?_
      refine lv_iload_n hx hb dX9_fogs_29 rfl (lv_at hl 2 rfl) ?_
      have c_454 : a1 = 3 := by have q9 := b_446; unfold iv at q9; simp only [tI_eq, (by decide : (3 : Int32).toInt = 3)]; omega
      rcases c_454 with rfl
      · refine va_aldq hx hb hK hP 18 4 rfl rfl (vin (by decide +kernel)) dX9_fogs_30 ?_
        refine W.eq (g2 := F0 m 31 ls (.ref (y 39) :: .int a3 :: [])) rfl ?_
        refine va_get (ci := 7) (v := .int py39_1) (C := RX7) (T := TX7) (N := 3) hx hb hg inX7 hown hK hP 25 rfl rfl 1 (by decide) (hg _ q_2_2) (fun _ h9 => h9) rfl dX9_fogs_31 ?_
        refine lv_icmp_lt (tgt := 40) hx hb dX9_fogs_34 (by decide) (fun c_455 => ?_) (fun c_455 => ?_)
        · have b_456 : iv 0 7 a3 := iv_l1 c_455 b_453 b_449 (by first | decide | omega)
          refine lv_aload_n hx hb dX9_fogs_40 rfl (lv_at hl 1 rfl) ?_
          refine lv_aload_n hx hb dX9_fogs_41 rfl (lv_at hl 1 rfl) ?_
          refine va_get (ci := 9) (v := .ref (y 30)) (C := RX9) (T := TX9) (N := 15) hx hb hg inX9 hown hK hP 16 rfl rfl 7 (by decide) (hg _ q_2_43) (fun _ h9 => h9) rfl dX9_fogs_42 ?_
          refine lv_iload_n hx hb dX9_fogs_45 rfl (lv_at hl 2 rfl) ?_
          refine va_aldq hx hb hK hP 18 4 rfl rfl (vin (by decide +kernel)) dX9_fogs_46 ?_
          refine W.eq (g2 := F0 m 47 ls (.ref (y 39) :: .ref (y 0) :: [])) rfl ?_
          refine va_get (ci := 7) (v := .int py39_1) (C := RX7) (T := TX7) (N := 3) hx hb hg inX7 hown hK hP 25 rfl rfl 1 (by decide) (hg _ q_2_2) (fun _ h9 => h9) rfl dX9_fogs_47 ?_
          refine jnR (wr := [(y 30, aT V 4 (va_up (va_up (va_up (va_up (fun _ => none) 0 (some (y 33))) 1 (some (y 35))) 2 (some (y 37))) 3 (some (y 39)))), (y 33, .inr (7, o7_rii (y 34) py33_1 py33_2)), (y 34, aJ V 40 fy34), (y 35, .inr (7, o7_rii (y 36) py35_1 py35_2)), (y 36, aJ V 40 fy36), (y 37, .inr (7, o7_rii (y 38) py37_1 py37_2)), (y 38, aJ V 40 fy38), (y 39, .inr (7, o7_rii (y 40) py39_1 py39_2)), (y 40, aJ V 40 fy40)]) (rnV (rest := []) ⟨hx, hb, hml, hown, hg⟩ (k_X9_waysFromNow_2 l V n L Yw y D9 py39_1 fy3 fy9 fy20 fy21 fy22 pYw0_0 wa pYw0_5 pYw0_6 wb pYw0_14 pYw0_15 pYw0_16 fYw1 fYw2 fwa fYw4 fYw5 fYw6 fYw7 fYw8 fwb py0_1 o11 py0_12 py0_13 py0_14 py2_0 py2_1 py2_2 py2_3 py2_4 py2_5 py2_13 py2_14 py2_15 py2_16 py2_17 hn hL hq0 tfy20 bpYw0_0 bpYw0_5 bpYw0_6 bpYw0_14 bpYw0_15 bpYw0_16 tfYw1 tfYw4 tfYw5 tfYw6 tfYw7 bpy0_1 bpy0_12 bpy0_13 (iv_w b_445 (by first | decide | omega)) bpy2_2 bpy2_3 bpy2_4 bpy2_5 bpy2_13 bpy2_14 bpy2_15 bpy2_16 bpy2_17 hf0 hf1 hf2 hL9 hK9) mt_X9_waysFromNow q_4_52 ⟨Nat.le_of_ble_eq_true rfl, Nat.le_of_ble_eq_true rfl⟩ hK hP hD hS hA hE [0, 1, 2, 3, 4, 5, 6, 7, 8, 9, 10, 11, 12, 13, 14, 15, 16, 17] rfl rfl 16 rfl rfl rfl rfl hl.1 rfl (Nat.le_of_ble_eq_true rfl) dX9_fogs_50 ⟨Nat.le_of_ble_eq_true rfl, Nat.le_of_ble_eq_true rfl⟩) hP hD hS hA [0, 1, 2, 3, 4, 5, 6, 7, 8, 9, 10, 11, 12, 13, 14, 15, 16, 17] [18, 19, 20, 21, 22, 23, 24, 25, 26] rfl rfl rfl (by decide) (fun r_457 w H locs hw hP hD hS => ?_)
          refine W.widen (k := 10) (n := 46481) (Nat.le_of_ble_eq_true rfl) (Nat.le_of_ble_eq_true rfl) ?_
          obtain ⟨n, L, Yw, wa_458, wb_459, f_460, f_461, f_462, v_463, v_464, v_465, v_466, v_467, v_468, f_469, f_470, f_471, f_472, f_473, f_474, f_475, f_476, f_477, hn, hL, tf_460, bv_463, bv_464, bv_465, bv_466, bv_467, bv_468, tf_469, tf_472, tf_473, tf_474, tf_475, eW, g_478, g_479, g_480, g_481, g_482, kn_483, rfl⟩ := hw
          have hP : va_P V.1 vwCl [(y 30, aT V 4 (va_up (va_up (va_up (va_up (fun _ => none) 0 (some (y 33))) 1 (some (y 35))) 2 (some (y 37))) 3 (some (y 39)))), (y 33, .inr (7, o7_rii (y 34) py33_1 py33_2)), (y 34, aJ V 40 fy34), (y 35, .inr (7, o7_rii (y 36) py35_1 py35_2)), (y 36, aJ V 40 fy36), (y 37, .inr (7, o7_rii (y 38) py37_1 py37_2)), (y 38, aJ V 40 fy38), (y 39, .inr (7, o7_rii (y 40) py39_1 py39_2)), (y 40, aJ V 40 fy40), (y 3, aI V 4 fy3), (y 9, aI V 900 fy9), (y 19, .inr (4, o4_rrrrrr (y 2) (y 20) (y 21) (y 22) (y 23) (y 24))), (y 20, aI V 2000 f_460), (y 21, aI V 6 f_461), (y 22, aI V 64 f_462), (y 0, .inr (9, o9_rirrrrrrrrrviii (y 1) py0_1 (y 2) (y 10) (y 19) (y 25) (y 26) (y 30) (y 31) (y 32) (Yw 0) o11 py0_12 py0_13 py0_14)), (y 2, .inr (1, o1_iiiiiirrrrrrriiiii py2_0 py2_1 py2_2 py2_3 py2_4 py2_5 (y 3) (y 4) (y 5) (y 6) (y 7) (y 8) (y 9) py2_13 py2_14 py2_15 py2_16 py2_17)), (Yw 0, .inr (8, o8_iirrriirrrrrrriii v_463 (nI n) (Yw 1) (Yw 2) wa_458 v_464 v_465 (y 19) (Yw 4) (Yw 5) (Yw 6) (Yw 7) (Yw 8) wb_459 v_466 v_467 v_468)), (Yw 1, aI V n f_469), (Yw 2, aI V n f_470), (wa_458, aI V n f_471), (Yw 4, aI V L f_472), (Yw 5, aI V n f_473), (Yw 6, aI V (n * 4) f_474), (Yw 7, aI V n f_475), (Yw 8, aI V 4 f_476), (wb_459, aI V n f_477)] H := hP
          have hD := cpD hP hD
          rw [← eW]
          refine lv_astore (lv' := [(5, .ref (Yw 0)), (4, .int 0), (0, .ref (y 0)), (1, .int 3), (2, .int a2), (3, .int a3)]) hx hb dX9_fogs_53 hl (by decide) rfl (fun ls hl => ?_)
          refine lv_aload hx hb dX9_fogs_55 (lv_at hl 0 rfl) ?_
          refine lv_aload_n hx hb dX9_fogs_57 rfl (lv_at hl 2 rfl) ?_
          refine va_get (ci := 9) (v := .ref (y 30)) (C := RX9) (T := TX9) (N := 15) hx hb hg inX9 hown hK hP 15 rfl rfl 7 (by decide) (hg _ q_2_43) (fun _ h9 => h9) rfl dX9_fogs_58 ?_
          refine lv_iload_n hx hb dX9_fogs_61 rfl (lv_at hl 3 rfl) ?_
          refine va_aldq hx hb hK hP 0 4 rfl rfl (vin (by decide +kernel)) dX9_fogs_62 ?_
          refine W.eq (g2 := F0 m 63 ls (.ref (y 39) :: .ref (Yw 0) :: [])) rfl ?_
          refine lv_iload_n hx hb dX9_fogs_63 rfl (lv_at hl 4 rfl) ?_
          refine jnV (wr := [(y 30, aT V 4 (va_up (va_up (va_up (va_up (fun _ => none) 0 (some (y 33))) 1 (some (y 35))) 2 (some (y 37))) 3 (some (y 39)))), (y 33, .inr (7, o7_rii (y 34) py33_1 py33_2)), (y 34, aJ V 40 fy34), (y 35, .inr (7, o7_rii (y 36) py35_1 py35_2)), (y 36, aJ V 40 fy36), (y 37, .inr (7, o7_rii (y 38) py37_1 py37_2)), (y 38, aJ V 40 fy38), (y 3, aI V 4 fy3), (y 9, aI V 900 fy9), (y 19, .inr (4, o4_rrrrrr (y 2) (y 20) (y 21) (y 22) (y 23) (y 24))), (y 20, aI V 2000 f_460), (y 21, aI V 6 f_461), (y 22, aI V 64 f_462), (y 0, .inr (9, o9_rirrrrrrrrrviii (y 1) py0_1 (y 2) (y 10) (y 19) (y 25) (y 26) (y 30) (y 31) (y 32) (Yw 0) o11 py0_12 py0_13 py0_14)), (y 2, .inr (1, o1_iiiiiirrrrrrriiiii py2_0 py2_1 py2_2 py2_3 py2_4 py2_5 (y 3) (y 4) (y 5) (y 6) (y 7) (y 8) (y 9) py2_13 py2_14 py2_15 py2_16 py2_17)), (Yw 4, aI V L f_472), (Yw 5, aI V n f_473), (Yw 7, aI V n f_475), (Yw 8, aI V 4 f_476), (wb_459, aI V n f_477)]) (rnV (rest := []) ⟨hx, hb, hml, hown, hg⟩ (k_X8_traceTold_3 l V n L Yw y a2 f_471 py39_1 py39_2 fy40 v_463 wa_458 v_464 v_465 wb_459 v_466 v_467 v_468 f_469 f_470 f_474 hn hL b_444 (iv_w b_449 (by first | decide | omega)) bv_463 bv_464 bv_465 bv_466 bv_467 bv_468 tf_469 tf_474) mt_X8_traceTold q_5_39 ⟨Nat.le_of_ble_eq_true rfl, Nat.le_of_ble_eq_true rfl⟩ hK hP hD hS hA hE [20, 7, 8, 17, 18, 19, 23] rfl rfl 17 rfl rfl rfl rfl hl.1 rfl (Nat.le_of_ble_eq_true rfl) dX9_fogs_64 ⟨Nat.le_of_ble_eq_true rfl, Nat.le_of_ble_eq_true rfl⟩) hP hD hS hA [20, 7, 8, 17, 18, 19, 23] [0, 1, 2, 3, 4, 5, 6, 9, 10, 11, 12, 13, 14, 15, 16, 21, 22, 24, 25, 26] rfl rfl rfl (by decide) (fun  w H locs hw hP hD hS => ?_)
          obtain ⟨f_484, rfl⟩ := hw
          have hP : va_P V.1 vwCl [(y 30, aT V 4 (va_up (va_up (va_up (va_up (fun _ => none) 0 (some (y 33))) 1 (some (y 35))) 2 (some (y 37))) 3 (some (y 39)))), (y 33, .inr (7, o7_rii (y 34) py33_1 py33_2)), (y 34, aJ V 40 fy34), (y 35, .inr (7, o7_rii (y 36) py35_1 py35_2)), (y 36, aJ V 40 fy36), (y 37, .inr (7, o7_rii (y 38) py37_1 py37_2)), (y 38, aJ V 40 fy38), (y 3, aI V 4 fy3), (y 9, aI V 900 fy9), (y 19, .inr (4, o4_rrrrrr (y 2) (y 20) (y 21) (y 22) (y 23) (y 24))), (y 20, aI V 2000 f_460), (y 21, aI V 6 f_461), (y 22, aI V 64 f_462), (y 0, .inr (9, o9_rirrrrrrrrrviii (y 1) py0_1 (y 2) (y 10) (y 19) (y 25) (y 26) (y 30) (y 31) (y 32) (Yw 0) o11 py0_12 py0_13 py0_14)), (y 2, .inr (1, o1_iiiiiirrrrrrriiiii py2_0 py2_1 py2_2 py2_3 py2_4 py2_5 (y 3) (y 4) (y 5) (y 6) (y 7) (y 8) (y 9) py2_13 py2_14 py2_15 py2_16 py2_17)), (Yw 4, aI V L f_472), (Yw 5, aI V n f_473), (Yw 7, aI V n f_475), (Yw 8, aI V 4 f_476), (wb_459, aI V n f_477), (wa_458, aI V n f_484), (y 39, .inr (7, o7_rii (y 40) py39_1 py39_2)), (y 40, aJ V 40 fy40), (Yw 0, .inr (8, o8_iirrriirrrrrrriii v_463 (nI n) (Yw 1) (Yw 2) wa_458 v_464 v_465 (y 19) (Yw 4) (Yw 5) (Yw 6) (Yw 7) (Yw 8) wb_459 v_466 v_467 v_468)), (Yw 1, aI V n f_469), (Yw 2, aI V n f_470), (Yw 6, aI V (n * 4) f_474)] H := hP
          have hD := cpD hP hD
          refine lv_aload hx hb dX9_fogs_67 (lv_at hl 0 rfl) ?_
          refine lv_iload_n hx hb dX9_fogs_69 rfl (lv_at hl 5 rfl) ?_
          refine jnI (wr := [(y 30, aT V 4 (va_up (va_up (va_up (va_up (fun _ => none) 0 (some (y 33))) 1 (some (y 35))) 2 (some (y 37))) 3 (some (y 39)))), (y 33, .inr (7, o7_rii (y 34) py33_1 py33_2)), (y 34, aJ V 40 fy34), (y 35, .inr (7, o7_rii (y 36) py35_1 py35_2)), (y 36, aJ V 40 fy36), (y 37, .inr (7, o7_rii (y 38) py37_1 py37_2)), (y 38, aJ V 40 fy38), (y 3, aI V 4 fy3), (y 9, aI V 900 fy9), (y 19, .inr (4, o4_rrrrrr (y 2) (y 20) (y 21) (y 22) (y 23) (y 24))), (y 20, aI V 2000 f_460), (y 21, aI V 6 f_461), (y 22, aI V 64 f_462), (y 0, .inr (9, o9_rirrrrrrrrrviii (y 1) py0_1 (y 2) (y 10) (y 19) (y 25) (y 26) (y 30) (y 31) (y 32) (Yw 0) o11 py0_12 py0_13 py0_14)), (y 2, .inr (1, o1_iiiiiirrrrrrriiiii py2_0 py2_1 py2_2 py2_3 py2_4 py2_5 (y 3) (y 4) (y 5) (y 6) (y 7) (y 8) (y 9) py2_13 py2_14 py2_15 py2_16 py2_17)), (Yw 4, aI V L f_472), (Yw 5, aI V n f_473), (Yw 7, aI V n f_475), (Yw 8, aI V 4 f_476), (wb_459, aI V n f_477), (y 39, .inr (7, o7_rii (y 40) py39_1 py39_2)), (y 40, aJ V 40 fy40), (Yw 1, aI V n f_469)]) (rnV (rest := []) ⟨hx, hb, hml, hown, hg⟩ (k_X8_allTraced_0 l V n Yw y a3 v_463 wa_458 v_464 v_465 wb_459 v_466 v_467 v_468 f_470 f_484 f_474 hn (iv_w b_456 (by first | decide | omega)) bv_463 bv_464 bv_465 bv_466 bv_467 bv_468 tf_474) mt_X8_allTraced q_5_59 ⟨Nat.le_of_ble_eq_true rfl, Nat.le_of_ble_eq_true rfl⟩ hK hP hD hS hA hE [23, 25, 20, 26] rfl rfl 23 rfl rfl rfl rfl hl.1 rfl (Nat.le_of_ble_eq_true rfl) dX9_fogs_70 ⟨Nat.le_of_ble_eq_true rfl, Nat.le_of_ble_eq_true rfl⟩) hP hD hS hA [23, 25, 20, 26] [0, 1, 2, 3, 4, 5, 6, 7, 8, 9, 10, 11, 12, 13, 14, 15, 16, 17, 18, 19, 21, 22, 24] rfl rfl rfl (by decide) (fun r_485 w H locs hw hP hD hS => ?_)
          subst hw
          have hP : va_P V.1 vwCl [(y 30, aT V 4 (va_up (va_up (va_up (va_up (fun _ => none) 0 (some (y 33))) 1 (some (y 35))) 2 (some (y 37))) 3 (some (y 39)))), (y 33, .inr (7, o7_rii (y 34) py33_1 py33_2)), (y 34, aJ V 40 fy34), (y 35, .inr (7, o7_rii (y 36) py35_1 py35_2)), (y 36, aJ V 40 fy36), (y 37, .inr (7, o7_rii (y 38) py37_1 py37_2)), (y 38, aJ V 40 fy38), (y 3, aI V 4 fy3), (y 9, aI V 900 fy9), (y 19, .inr (4, o4_rrrrrr (y 2) (y 20) (y 21) (y 22) (y 23) (y 24))), (y 20, aI V 2000 f_460), (y 21, aI V 6 f_461), (y 22, aI V 64 f_462), (y 0, .inr (9, o9_rirrrrrrrrrviii (y 1) py0_1 (y 2) (y 10) (y 19) (y 25) (y 26) (y 30) (y 31) (y 32) (Yw 0) o11 py0_12 py0_13 py0_14)), (y 2, .inr (1, o1_iiiiiirrrrrrriiiii py2_0 py2_1 py2_2 py2_3 py2_4 py2_5 (y 3) (y 4) (y 5) (y 6) (y 7) (y 8) (y 9) py2_13 py2_14 py2_15 py2_16 py2_17)), (Yw 4, aI V L f_472), (Yw 5, aI V n f_473), (Yw 7, aI V n f_475), (Yw 8, aI V 4 f_476), (wb_459, aI V n f_477), (y 39, .inr (7, o7_rii (y 40) py39_1 py39_2)), (y 40, aJ V 40 fy40), (Yw 1, aI V n f_469), (Yw 0, .inr (8, o8_iirrriirrrrrrriii v_463 (nI n) (Yw 1) (Yw 2) wa_458 v_464 v_465 (y 19) (Yw 4) (Yw 5) (Yw 6) (Yw 7) (Yw 8) wb_459 v_466 v_467 v_468)), (Yw 2, aI V n f_470), (wa_458, aI V n f_484), (Yw 6, aI V (n * 4) f_474)] H := hP
          have hD := cpD hP hD
          have hP := subP (ws' := [(y 0, .inr (9, o9_rirrrrrrrrrviii (y 1) py0_1 (y 2) (y 10) (y 19) (y 25) (y 26) (y 30) (y 31) (y 32) (Yw 0) o11 py0_12 py0_13 py0_14)), (y 2, .inr (1, o1_iiiiiirrrrrrriiiii py2_0 py2_1 py2_2 py2_3 py2_4 py2_5 (y 3) (y 4) (y 5) (y 6) (y 7) (y 8) (y 9) py2_13 py2_14 py2_15 py2_16 py2_17)), (y 3, aI V 4 fy3), (y 9, aI V 900 fy9), (y 19, .inr (4, o4_rrrrrr (y 2) (y 20) (y 21) (y 22) (y 23) (y 24))), (y 20, aI V 2000 f_460), (y 21, aI V 6 f_461), (y 22, aI V 64 f_462), (y 30, aT V 4 (va_up (va_up (va_up (va_up (fun _ => none) 0 (some (y 33))) 1 (some (y 35))) 2 (some (y 37))) 3 (some (y 39)))), (y 33, .inr (7, o7_rii (y 34) py33_1 py33_2)), (y 34, aJ V 40 fy34), (y 35, .inr (7, o7_rii (y 36) py35_1 py35_2)), (y 36, aJ V 40 fy36), (y 37, .inr (7, o7_rii (y 38) py37_1 py37_2)), (y 38, aJ V 40 fy38), (y 39, .inr (7, o7_rii (y 40) py39_1 py39_2)), (y 40, aJ V 40 fy40), (Yw 0, .inr (8, o8_iirrriirrrrrrriii v_463 (nI n) (Yw 1) (Yw 2) wa_458 v_464 v_465 (y 19) (Yw 4) (Yw 5) (Yw 6) (Yw 7) (Yw 8) wb_459 v_466 v_467 v_468)), (Yw 1, aI V n f_469), (Yw 2, aI V n f_470), (wa_458, aI V n f_484), (Yw 4, aI V L f_472), (Yw 5, aI V n f_473), (Yw 6, aI V (n * 4) f_474), (Yw 7, aI V n f_475), (Yw 8, aI V 4 f_476), (wb_459, aI V n f_477)]) hP [13, 14, 7, 8, 9, 10, 11, 12, 0, 1, 2, 3, 4, 5, 6, 20, 21, 23, 22, 24, 25, 15, 16, 26, 17, 18, 19] rfl
          have hD := subD hP hD [13, 14, 7, 8, 9, 10, 11, 12, 0, 1, 2, 3, 4, 5, 6, 20, 21, 23, 22, 24, 25, 15, 16, 26, 17, 18, 19] rfl rfl
          exact fiI hx hb hr hlk hK (subP (ws' := [(y 0, .inr (9, o9_rirrrrrrrrrviii (y 1) py0_1 (y 2) (y 10) (y 19) (y 25) (y 26) (y 30) (y 31) (y 32) (Yw 0) o11 py0_12 py0_13 py0_14)), (y 2, .inr (1, o1_iiiiiirrrrrrriiiii py2_0 py2_1 py2_2 py2_3 py2_4 py2_5 (y 3) (y 4) (y 5) (y 6) (y 7) (y 8) (y 9) py2_13 py2_14 py2_15 py2_16 py2_17)), (y 3, aI V 4 fy3), (y 9, aI V 900 fy9), (y 19, .inr (4, o4_rrrrrr (y 2) (y 20) (y 21) (y 22) (y 23) (y 24))), (y 20, aI V 2000 f_460), (y 21, aI V 6 f_461), (y 22, aI V 64 f_462), (y 30, aT V 4 (va_up (va_up (va_up (va_up (fun _ => none) 0 (some (y 33))) 1 (some (y 35))) 2 (some (y 37))) 3 (some (y 39)))), (y 33, .inr (7, o7_rii (y 34) py33_1 py33_2)), (y 34, aJ V 40 fy34), (y 35, .inr (7, o7_rii (y 36) py35_1 py35_2)), (y 36, aJ V 40 fy36), (y 37, .inr (7, o7_rii (y 38) py37_1 py37_2)), (y 38, aJ V 40 fy38), (y 39, .inr (7, o7_rii (y 40) py39_1 py39_2)), (y 40, aJ V 40 fy40), (Yw 0, .inr (8, o8_iirrriirrrrrrriii v_463 (nI n) (Yw 1) (Yw 2) wa_458 v_464 v_465 (y 19) (Yw 4) (Yw 5) (Yw 6) (Yw 7) (Yw 8) wb_459 v_466 v_467 v_468)), (Yw 1, aI V n f_469), (Yw 2, aI V n f_470), (wa_458, aI V n f_484), (Yw 4, aI V L f_472), (Yw 5, aI V n f_473), (Yw 6, aI V (n * 4) f_474), (Yw 7, aI V n f_475), (Yw 8, aI V 4 f_476), (wb_459, aI V n f_477)]) hP [0, 1, 2, 3, 4, 5, 6, 7, 8, 9, 10, 11, 12, 13, 14, 15, 16, 17, 18, 19, 20, 21, 22, 23, 24, 25, 26] rfl) (hD.sub [0, 1, 2, 3, 4, 5, 6, 7, 8, 9, 10, 11, 12, 13, 14, 15, 16, 17, 18, 19, 20, 21, 22, 23, 24, 25, 26] rfl rfl) hS dX9_fogs_73 (Nat.le_of_ble_eq_true rfl) (Nat.le_of_ble_eq_true rfl) (⟨n, L, Yw, wa_458, wb_459, f_460, f_461, f_462, v_463, v_464, v_465, v_466, v_467, v_468, f_469, f_470, f_484, f_472, f_473, f_474, f_475, f_476, f_477, hn, hL, tf_460, bv_463, bv_464, bv_465, bv_466, bv_467, bv_468, tf_469, tf_472, tf_473, tf_474, tf_475, g_478, g_479, g_480, g_482, kn_483, rfl⟩)
        · have b_486 : iv 1 2147483647 a3 := iv_e2 (Int32.not_lt.mp c_455) b_449 b_453 (by first | decide | omega)
          refine lv_bipush (v := (-7)) hx hb dX9_fogs_37 (by decide) ?_
          have z_0 := Int32.lt_iff_toInt_lt.mp hq0
          have z_1 := Int32.le_iff_toInt_le.mp (Int32.not_lt.mp c_150)
          have z_2 := Int32.lt_iff_toInt_lt.mp (Int32.not_le.mp c_151)
          have z_3 := Int32.le_iff_toInt_le.mp (Int32.not_lt.mp c_152)
          have z_4 := Int32.lt_iff_toInt_lt.mp (Int32.not_le.mp c_153)
          have z_5 := congrArg Int32.toInt c_154
          have z_6 := Int32.le_iff_toInt_le.mp c_155
          have z_7 := Int32.le_iff_toInt_le.mp (Int32.not_lt.mp c_156)
          have z_8 := Int32.le_iff_toInt_le.mp c_157
          have z_9 := Int32.le_iff_toInt_le.mp c_452
          have z_10 := Int32.le_iff_toInt_le.mp (Int32.not_lt.mp c_455)
          have k_0 : (0 : Int32).toInt = 0 := (by decide)
          have k_1 : (1 : Int32).toInt = 1 := (by decide)
          have k_3 : (3 : Int32).toInt = 3 := (by decide)
          have k_4 : (4 : Int32).toInt = 4 := (by decide)
          have k_8 : (8 : Int32).toInt = 8 := (by decide)
          exfalso
          have g_0 := hf3
          have g_1 := hf4
          have g_2 := hf5
          rw [cntF_3] at g_2
          omega
    · have b_487 : iv (-2147483648) (-1) a3 := iv_l1 (Int32.not_le.mp c_452) (iv_top a3) (iv_c (0 : Int32) (a := 0) (b := 0) (by decide)) (by first | decide | omega)
      refine lv_bipush (v := (-3)) hx hb dX9_fogs_21 (by decide) ?_
      have z_0 := Int32.lt_iff_toInt_lt.mp hq0
      have z_1 := Int32.le_iff_toInt_le.mp (Int32.not_lt.mp c_150)
      have z_2 := Int32.lt_iff_toInt_lt.mp (Int32.not_le.mp c_151)
      have z_3 := Int32.le_iff_toInt_le.mp (Int32.not_lt.mp c_152)
      have z_4 := Int32.lt_iff_toInt_lt.mp (Int32.not_le.mp c_153)
      have z_5 := congrArg Int32.toInt c_154
      have z_6 := Int32.le_iff_toInt_le.mp c_155
      have z_7 := Int32.le_iff_toInt_le.mp (Int32.not_lt.mp c_156)
      have z_8 := Int32.le_iff_toInt_le.mp c_157
      have z_9 := Int32.lt_iff_toInt_lt.mp (Int32.not_le.mp c_452)
      have k_0 : (0 : Int32).toInt = 0 := (by decide)
      have k_1 : (1 : Int32).toInt = 1 := (by decide)
      have k_3 : (3 : Int32).toInt = 3 := (by decide)
      have k_4 : (4 : Int32).toInt = 4 := (by decide)
      have k_8 : (8 : Int32).toInt = 8 := (by decide)
      exfalso
      have g_0 := hf3
      have g_1 := hf4
      have g_2 := hf5
      omega
  · have hP : va_P V.1 vwCl [(y 3, aI V 4 fy3), (y 9, aI V 900 fy9), (y 19, .inr (4, o4_rrrrrr (y 2) (y 20) (y 21) (y 22) (y 23) (y 24))), (y 20, aI V 2000 fy20), (y 21, aI V 6 fy21), (y 22, aI V 64 fy22), (Yw 0, .inr (8, o8_iirrriirrrrrrriii pYw0_0 (nI n) (Yw 1) (Yw 2) wa pYw0_5 pYw0_6 (y 19) (Yw 4) (Yw 5) (Yw 6) (Yw 7) (Yw 8) wb pYw0_14 pYw0_15 pYw0_16)), (Yw 1, aI V n fYw1), (Yw 2, aI V n fYw2), (wa, aI V n fwa), (Yw 4, aI V L fYw4), (Yw 5, aI V n fYw5), (Yw 6, aI V (n * 4) fYw6), (Yw 7, aI V n fYw7), (Yw 8, aI V 4 fYw8), (wb, aI V n fwb), (y 0, .inr (9, o9_rirrrrrrrrrviii (y 1) py0_1 (y 2) (y 10) (y 19) (y 25) (y 26) (y 30) (y 31) (y 32) (Yw 0) o11 py0_12 py0_13 py0_14)), (y 2, .inr (1, o1_iiiiiirrrrrrriiiii py2_0 py2_1 py2_2 py2_3 py2_4 py2_5 (y 3) (y 4) (y 5) (y 6) (y 7) (y 8) (y 9) py2_13 py2_14 py2_15 py2_16 py2_17)), (y 30, aT V 4 (va_up (va_up (va_up (va_up (fun _ => none) 0 (some (y 33))) 1 (some (y 35))) 2 (some (y 37))) 3 (some (y 39)))), (y 33, .inr (7, o7_rii (y 34) py33_1 py33_2)), (y 34, aJ V 40 fy34), (y 35, .inr (7, o7_rii (y 36) py35_1 py35_2)), (y 36, aJ V 40 fy36), (y 37, .inr (7, o7_rii (y 38) py37_1 py37_2)), (y 38, aJ V 40 fy38), (y 39, .inr (7, o7_rii (y 40) py39_1 py39_2)), (y 40, aJ V 40 fy40)] H := hP
    have hD := cpD hP hD
    have b_488 : iv 0 2147483647 a2 := iv_e2 (Int32.not_lt.mp c_161) (iv_c (0 : Int32) (a := 0) (b := 0) (by decide)) (iv_top a2) (by first | decide | omega)
    have b_489 : iv 0 3 a2 := iv_l1 (Int32.not_le.mp c_162) b_488 bpy2_1 (by first | decide | omega)
    have b_490 : iv 1 4 py2_1 := iv_l2 (Int32.not_le.mp c_162) b_488 bpy2_1 (by first | decide | omega)
    have b_491 : iv 3 3 a1 := iv_q c_163 (iv_c (3 : Int32) (a := 3) (b := 3) (by decide))
    have b_492 : iv 0 40 py39_1 := iv_e2 c_164 (iv_c (0 : Int32) (a := 0) (b := 0) (by decide)) bpy39_1 (by first | decide | omega)
    have b_493 : iv 1 40 py39_1 := iv_e2 (Int32.not_lt.mp c_165) (iv_c (1 : Int32) (a := 1) (b := 1) (by decide)) b_492 (by first | decide | omega)
    have b_494 : iv 1 8 py39_1 := iv_e1 c_166 b_493 (iv_c (8 : Int32) (a := 8) (b := 8) (by decide)) (by first | decide | omega)
    refine lv_istore (lv' := [(4, .int (-3)), (0, .ref (y 0)), (1, .int a1), (2, .int a2), (3, .int a3)]) hx hb dX9_fogs_7 hl (by decide) rfl (fun ls hl => ?_)
    refine lv_iload hx hb dX9_fogs_9 (lv_at hl 0 rfl) ?_
    refine lv_if_eq (tgt := 17) hx hb dX9_fogs_11 (by decide) (fun c_496 => absurd c_496 (by decide)) (fun _ => ?_)
    refine lv_iload hx hb dX9_fogs_14 (lv_at hl 0 rfl) ?_
    have z_0 := Int32.lt_iff_toInt_lt.mp hq0
    have z_1 := Int32.le_iff_toInt_le.mp (Int32.not_lt.mp c_159)
    have z_2 := Int32.lt_iff_toInt_lt.mp (Int32.not_le.mp c_160)
    have z_3 := Int32.le_iff_toInt_le.mp (Int32.not_lt.mp c_161)
    have z_4 := Int32.lt_iff_toInt_lt.mp (Int32.not_le.mp c_162)
    have z_5 := congrArg Int32.toInt c_163
    have z_6 := Int32.le_iff_toInt_le.mp c_164
    have z_7 := Int32.le_iff_toInt_le.mp (Int32.not_lt.mp c_165)
    have z_8 := Int32.le_iff_toInt_le.mp c_166
    have k_0 : (0 : Int32).toInt = 0 := (by decide)
    have k_1 : (1 : Int32).toInt = 1 := (by decide)
    have k_3 : (3 : Int32).toInt = 3 := (by decide)
    have k_4 : (4 : Int32).toInt = 4 := (by decide)
    have k_8 : (8 : Int32).toInt = 8 := (by decide)
    exfalso
    have g_0 := hf3
    have g_1 := hf4
    have g_2 := hf5
    exact absurd (g_167.trans g_0) (by decide)
  · have hP : va_P V.1 vwCl [(y 3, aI V 4 fy3), (y 9, aI V 900 fy9), (y 19, .inr (4, o4_rrrrrr (y 2) (y 20) (y 21) (y 22) (y 23) (y 24))), (y 20, aI V 2000 fy20), (y 21, aI V 6 fy21), (y 22, aI V 64 fy22), (Yw 0, .inr (8, o8_iirrriirrrrrrriii pYw0_0 (nI n) (Yw 1) (Yw 2) wa pYw0_5 pYw0_6 (y 19) (Yw 4) (Yw 5) (Yw 6) (Yw 7) (Yw 8) wb pYw0_14 pYw0_15 pYw0_16)), (Yw 1, aI V n fYw1), (Yw 2, aI V n fYw2), (wa, aI V n fwa), (Yw 4, aI V L fYw4), (Yw 5, aI V n fYw5), (Yw 6, aI V (n * 4) fYw6), (Yw 7, aI V n fYw7), (Yw 8, aI V 4 fYw8), (wb, aI V n fwb), (y 0, .inr (9, o9_rirrrrrrrrrviii (y 1) py0_1 (y 2) (y 10) (y 19) (y 25) (y 26) (y 30) (y 31) (y 32) (Yw 0) o11 py0_12 py0_13 py0_14)), (y 2, .inr (1, o1_iiiiiirrrrrrriiiii py2_0 py2_1 py2_2 py2_3 py2_4 py2_5 (y 3) (y 4) (y 5) (y 6) (y 7) (y 8) (y 9) py2_13 py2_14 py2_15 py2_16 py2_17)), (y 30, aT V 4 (va_up (va_up (va_up (va_up (fun _ => none) 0 (some (y 33))) 1 (some (y 35))) 2 (some (y 37))) 3 (some (y 39)))), (y 33, .inr (7, o7_rii (y 34) py33_1 py33_2)), (y 34, aJ V 40 fy34), (y 35, .inr (7, o7_rii (y 36) py35_1 py35_2)), (y 36, aJ V 40 fy36), (y 37, .inr (7, o7_rii (y 38) py37_1 py37_2)), (y 38, aJ V 40 fy38), (y 39, .inr (7, o7_rii (y 40) py39_1 py39_2)), (y 40, aJ V 40 fy40)] H := hP
    have hD := cpD hP hD
    have b_497 : iv 0 2147483647 a2 := iv_e2 (Int32.not_lt.mp c_170) (iv_c (0 : Int32) (a := 0) (b := 0) (by decide)) (iv_top a2) (by first | decide | omega)
    have b_498 : iv 0 3 a2 := iv_l1 (Int32.not_le.mp c_171) b_497 bpy2_1 (by first | decide | omega)
    have b_499 : iv 1 4 py2_1 := iv_l2 (Int32.not_le.mp c_171) b_497 bpy2_1 (by first | decide | omega)
    have b_500 : iv 3 3 a1 := iv_q c_172 (iv_c (3 : Int32) (a := 3) (b := 3) (by decide))
    have b_501 : iv 0 40 py39_1 := iv_e2 c_173 (iv_c (0 : Int32) (a := 0) (b := 0) (by decide)) bpy39_1 (by first | decide | omega)
    have b_502 : iv 1 40 py39_1 := iv_e2 (Int32.not_lt.mp c_174) (iv_c (1 : Int32) (a := 1) (b := 1) (by decide)) b_501 (by first | decide | omega)
    have b_503 : iv 9 40 py39_1 := iv_l2 (Int32.not_le.mp c_175) (iv_c (8 : Int32) (a := 8) (b := 8) (by decide)) b_502 (by first | decide | omega)
    refine lv_istore (lv' := [(4, .int (-4)), (0, .ref (y 0)), (1, .int a1), (2, .int a2), (3, .int a3)]) hx hb dX9_fogs_7 hl (by decide) rfl (fun ls hl => ?_)
    refine lv_iload hx hb dX9_fogs_9 (lv_at hl 0 rfl) ?_
    refine lv_if_eq (tgt := 17) hx hb dX9_fogs_11 (by decide) (fun c_505 => absurd c_505 (by decide)) (fun _ => ?_)
    refine lv_iload hx hb dX9_fogs_14 (lv_at hl 0 rfl) ?_
    have z_0 := Int32.lt_iff_toInt_lt.mp hq0
    have z_1 := Int32.le_iff_toInt_le.mp (Int32.not_lt.mp c_168)
    have z_2 := Int32.lt_iff_toInt_lt.mp (Int32.not_le.mp c_169)
    have z_3 := Int32.le_iff_toInt_le.mp (Int32.not_lt.mp c_170)
    have z_4 := Int32.lt_iff_toInt_lt.mp (Int32.not_le.mp c_171)
    have z_5 := congrArg Int32.toInt c_172
    have z_6 := Int32.le_iff_toInt_le.mp c_173
    have z_7 := Int32.le_iff_toInt_le.mp (Int32.not_lt.mp c_174)
    have z_8 := Int32.lt_iff_toInt_lt.mp (Int32.not_le.mp c_175)
    have k_0 : (0 : Int32).toInt = 0 := (by decide)
    have k_1 : (1 : Int32).toInt = 1 := (by decide)
    have k_3 : (3 : Int32).toInt = 3 := (by decide)
    have k_4 : (4 : Int32).toInt = 4 := (by decide)
    have k_8 : (8 : Int32).toInt = 8 := (by decide)
    exfalso
    have g_0 := hf3
    have g_1 := hf4
    have g_2 := hf5
    exact absurd (g_176.trans g_0) (by decide)
  · have hP : va_P V.1 vwCl [(y 3, aI V 4 fy3), (y 9, aI V 900 fy9), (y 19, .inr (4, o4_rrrrrr (y 2) (y 20) (y 21) (y 22) (y 23) (y 24))), (y 20, aI V 2000 fy20), (y 21, aI V 6 fy21), (y 22, aI V 64 fy22), (Yw 0, .inr (8, o8_iirrriirrrrrrriii pYw0_0 (nI n) (Yw 1) (Yw 2) wa pYw0_5 pYw0_6 (y 19) (Yw 4) (Yw 5) (Yw 6) (Yw 7) (Yw 8) wb pYw0_14 pYw0_15 pYw0_16)), (Yw 1, aI V n fYw1), (Yw 2, aI V n fYw2), (wa, aI V n fwa), (Yw 4, aI V L fYw4), (Yw 5, aI V n fYw5), (Yw 6, aI V (n * 4) fYw6), (Yw 7, aI V n fYw7), (Yw 8, aI V 4 fYw8), (wb, aI V n fwb), (y 0, .inr (9, o9_rirrrrrrrrrviii (y 1) py0_1 (y 2) (y 10) (y 19) (y 25) (y 26) (y 30) (y 31) (y 32) (Yw 0) o11 py0_12 py0_13 py0_14)), (y 2, .inr (1, o1_iiiiiirrrrrrriiiii py2_0 py2_1 py2_2 py2_3 py2_4 py2_5 (y 3) (y 4) (y 5) (y 6) (y 7) (y 8) (y 9) py2_13 py2_14 py2_15 py2_16 py2_17)), (y 30, aT V 4 (va_up (va_up (va_up (va_up (fun _ => none) 0 (some (y 33))) 1 (some (y 35))) 2 (some (y 37))) 3 (some (y 39)))), (y 33, .inr (7, o7_rii (y 34) py33_1 py33_2)), (y 34, aJ V 40 fy34), (y 35, .inr (7, o7_rii (y 36) py35_1 py35_2)), (y 36, aJ V 40 fy36), (y 37, .inr (7, o7_rii (y 38) py37_1 py37_2)), (y 38, aJ V 40 fy38), (y 39, .inr (7, o7_rii (y 40) py39_1 py39_2)), (y 40, aJ V 40 fy40)] H := hP
    have hD := cpD hP hD
    have b_506 : iv 0 2147483647 a2 := iv_e2 (Int32.not_lt.mp c_179) (iv_c (0 : Int32) (a := 0) (b := 0) (by decide)) (iv_top a2) (by first | decide | omega)
    have b_507 : iv 0 3 a2 := iv_l1 (Int32.not_le.mp c_180) b_506 bpy2_1 (by first | decide | omega)
    have b_508 : iv 1 4 py2_1 := iv_l2 (Int32.not_le.mp c_180) b_506 bpy2_1 (by first | decide | omega)
    have b_509 : iv 3 3 a1 := iv_q c_181 (iv_c (3 : Int32) (a := 3) (b := 3) (by decide))
    have b_510 : iv (-1) (-1) py39_1 := iv_l1 (Int32.not_le.mp c_182) bpy39_1 (iv_c (0 : Int32) (a := 0) (b := 0) (by decide)) (by first | decide | omega)
    refine lv_istore (lv' := [(4, .int (-6)), (0, .ref (y 0)), (1, .int a1), (2, .int a2), (3, .int a3)]) hx hb dX9_fogs_7 hl (by decide) rfl (fun ls hl => ?_)
    refine lv_iload hx hb dX9_fogs_9 (lv_at hl 0 rfl) ?_
    refine lv_if_eq (tgt := 17) hx hb dX9_fogs_11 (by decide) (fun c_512 => absurd c_512 (by decide)) (fun _ => ?_)
    refine lv_iload hx hb dX9_fogs_14 (lv_at hl 0 rfl) ?_
    have z_0 := Int32.lt_iff_toInt_lt.mp hq0
    have z_1 := Int32.le_iff_toInt_le.mp (Int32.not_lt.mp c_177)
    have z_2 := Int32.lt_iff_toInt_lt.mp (Int32.not_le.mp c_178)
    have z_3 := Int32.le_iff_toInt_le.mp (Int32.not_lt.mp c_179)
    have z_4 := Int32.lt_iff_toInt_lt.mp (Int32.not_le.mp c_180)
    have z_5 := congrArg Int32.toInt c_181
    have z_6 := Int32.lt_iff_toInt_lt.mp (Int32.not_le.mp c_182)
    have k_0 : (0 : Int32).toInt = 0 := (by decide)
    have k_3 : (3 : Int32).toInt = 3 := (by decide)
    have k_4 : (4 : Int32).toInt = 4 := (by decide)
    exfalso
    have g_0 := hf3
    have g_1 := hf4
    have g_2 := hf5
    exact absurd (g_183.trans g_0) (by decide)
