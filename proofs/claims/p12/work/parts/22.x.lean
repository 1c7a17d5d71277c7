set_option maxHeartbeats 4000000 in
set_option maxRecDepth 100000 in
theorem k_X9_high_2 (l : Launch) (V : GV) (y : Nat → Nat) (D9 : Nat → Int32) (a1 : Int32) (a2 : Int32) (py0_1 : Int32) (o11 : Value) (py0_12 : Int32) (py0_13 : Int32) (py0_14 : Int32) (py2_0 : Int32) (py2_1 : Int32) (py2_2 : Int32) (py2_3 : Int32) (py2_4 : Int32) (py2_5 : Int32) (py2_13 : Int32) (py2_14 : Int32) (py2_15 : Int32) (py2_16 : Int32) (py2_17 : Int32) (fy3 : Nat → Int32) (fy9 : Nat → Int32) (fy20 : Nat → Int32) (fy21 : Nat → Int32) (fy22 : Nat → Int32) (py33_1 : Int32) (py33_2 : Int32) (fy34 : Nat → Int64) (py35_1 : Int32) (py35_2 : Int32) (fy36 : Nat → Int64) (py37_1 : Int32) (py37_2 : Int32) (fy38 : Nat → Int64) (py39_1 : Int32) (py39_2 : Int32) (fy40 : Nat → Int64) (bpy0_1 : iv 0 900 py0_1) (bpy0_12 : iv 0 9999 py0_12) (bpy0_13 : iv 0 9 py0_13) (bpy2_1 : iv 0 4 py2_1) (bpy2_2 : iv 0 4 py2_2) (bpy2_3 : iv 0 8 py2_3) (bpy2_4 : iv 0 9999 py2_4) (bpy2_5 : iv 0 9 py2_5) (bpy2_13 : iv 0 900 py2_13) (bpy2_14 : iv 0 900 py2_14) (bpy2_15 : iv 0 900 py2_15) (bpy2_16 : iv 0 900 py2_16) (bpy2_17 : iv 0 900 py2_17) (tfy20 : ∀ j, iv 0 10 (fy20 j)) (bpy33_1 : iv (-1) 40 py33_1) (bpy35_1 : iv (-1) 40 py35_1) (bpy37_1 : iv (-1) 40 py37_1) (bpy39_1 : iv (-1) 40 py39_1) (hf0 : rfF a1 a2 (-1 : Int32) py2_1 py33_1 py35_1 py37_1 py39_1 fy34 fy36 fy38 fy40 = 0) (hL9 : LW D9 fy3 fy9 py2_14 py2_15 py2_16 py2_17) (hK9 : KN D9 fy20) : Ct l V yX9_high (.code yX9_high cX9_high 5 (some .long)) 8 [.ref (y 0), .int a1, .int a2] [(y 0, .inr (9, o9_rirrrrrrrrnviii (y 1) py0_1 (y 2) (y 10) (y 19) (y 25) (y 26) (y 30) (y 31) (y 32) o11 py0_12 py0_13 py0_14)), (y 2, .inr (1, o1_iiiiiirrrrrrriiiii py2_0 py2_1 py2_2 py2_3 py2_4 py2_5 (y 3) (y 4) (y 5) (y 6) (y 7) (y 8) (y 9) py2_13 py2_14 py2_15 py2_16 py2_17)), (y 3, aI V 4 fy3), (y 9, aI V 900 fy9), (y 19, .inr (4, o4_rrrrrr (y 2) (y 20) (y 21) (y 22) (y 23) (y 24))), (y 20, aI V 2000 fy20), (y 21, aI V 6 fy21), (y 22, aI V 64 fy22), (y 30, aT V 4 (va_up (va_up (va_up (va_up (fun _ => none) 0 (some (y 33))) 1 (some (y 35))) 2 (some (y 37))) 3 (some (y 39)))), (y 33, .inr (7, o7_rii (y 34) py33_1 py33_2)), (y 34, aJ V 40 fy34), (y 35, .inr (7, o7_rii (y 36) py35_1 py35_2)), (y 36, aJ V 40 fy36), (y 37, .inr (7, o7_rii (y 38) py37_1 py37_2)), (y 38, aJ V 40 fy38), (y 39, .inr (7, o7_rii (y 40) py39_1 py39_2)), (y 40, aJ V 40 fy40)] 10 46481 (QL V (fun (r : Int64) (w : va_W) => ∃ (n : Nat) (L : Nat) (Yw : Nat → Nat) (wa : Nat) (wb : Nat) (g0 : Nat → Int32) (g1 : Nat → Int32) (g2 : Nat → Int32) (ww0 : Int32) (ww5 : Int32) (ww6 : Int32) (ww14 : Int32) (ww15 : Int32) (ww16 : Int32) (wew1 : Nat → Int32) (wew2 : Nat → Int32) (wew3 : Nat → Int32) (wew4 : Nat → Int32) (wew5 : Nat → Int32) (wew6 : Nat → Int32) (wew7 : Nat → Int32) (wew8 : Nat → Int32) (wew9 : Nat → Int32), (1 ≤ n ∧ n ≤ 3646) ∧ (1 ≤ L ∧ L ≤ 10000) ∧ (∀ j, iv 0 10 (g0 j)) ∧ iv 0 4 ww0 ∧ iv 0 ((n : Int)) ww5 ∧ iv 0 4 ww6 ∧ iv 0 4 ww14 ∧ iv 0 9 ww15 ∧ iv 0 ((n : Int)) ww16 ∧ (∀ j, iv 0 ((L : Int) - 1) (wew1 j)) ∧ (∀ j, iv 0 ((n : Int)) (wew4 j)) ∧ (∀ j, iv 0 (4 * (n : Int) - 1) (wew5 j)) ∧ (∀ j, iv 0 ((n : Int) - 1) (wew6 j)) ∧ (∀ j, iv 0 ((n : Int) - 1) (wew7 j)) ∧ (WA ww5 wew4 wew1) ∧ (WB ww16 ww6 ww5 wew6) ∧ (WC ww5 wew2) ∧ (ww0 = py2_1) ∧ KN D9 g0 ∧ w = [(y 0, .inr (9, o9_rirrrrrrrrrviii (y 1) py0_1 (y 2) (y 10) (y 19) (y 25) (y 26) (y 30) (y 31) (y 32) (Yw 0) o11 py0_12 py0_13 py0_14)), (y 2, .inr (1, o1_iiiiiirrrrrrriiiii py2_0 py2_1 py2_2 py2_3 py2_4 py2_5 (y 3) (y 4) (y 5) (y 6) (y 7) (y 8) (y 9) py2_13 py2_14 py2_15 py2_16 py2_17)), (y 3, aI V 4 fy3), (y 9, aI V 900 fy9), (y 19, .inr (4, o4_rrrrrr (y 2) (y 20) (y 21) (y 22) (y 23) (y 24))), (y 20, aI V 2000 g0), (y 21, aI V 6 g1), (y 22, aI V 64 g2), (y 30, aT V 4 (va_up (va_up (va_up (va_up (fun _ => none) 0 (some (y 33))) 1 (some (y 35))) 2 (some (y 37))) 3 (some (y 39)))), (y 33, .inr (7, o7_rii (y 34) py33_1 py33_2)), (y 34, aJ V 40 fy34), (y 35, .inr (7, o7_rii (y 36) py35_1 py35_2)), (y 36, aJ V 40 fy36), (y 37, .inr (7, o7_rii (y 38) py37_1 py37_2)), (y 38, aJ V 40 fy38), (y 39, .inr (7, o7_rii (y 40) py39_1 py39_2)), (y 40, aJ V 40 fy40), (Yw 0, .inr (8, o8_iirrriirrrrrrriii ww0 (nI n) (Yw 1) (Yw 2) wa ww5 ww6 (y 19) (Yw 4) (Yw 5) (Yw 6) (Yw 7) (Yw 8) wb ww14 ww15 ww16)), (Yw 1, aI V n wew1), (Yw 2, aI V n wew2), (wa, aI V n wew3), (Yw 4, aI V L wew4), (Yw 5, aI V n wew5), (Yw 6, aI V (n * 4) wew6), (Yw 7, aI V n wew7), (Yw 8, aI V 4 wew8), (wb, aI V n wew9)])) := by
  refine Ct.of (by decide) (Nat.le_of_ble_eq_true rfl) (fun p e s m below meth c A ls hx hb hr hml hown hlk hnm hg hP hK hD hE hA hS hl => ?_)
  have hl : lv_has ls 5 [(0, .ref (y 0)), (1, .int a1), (2, .int a2)] := hl
  refine lv_aload_n hx hb dX9_high_0 rfl (lv_at hl 0 rfl) ?_
  refine lv_iload_n hx hb dX9_high_1 rfl (lv_at hl 1 rfl) ?_
  refine lv_iload_n hx hb dX9_high_2 rfl (lv_at hl 2 rfl) ?_
  refine lv_iconst (v := (-1)) hx hb dX9_high_3 (by decide) ?_
  refine jnI (wr := [(y 3, aI V 4 fy3), (y 9, aI V 900 fy9), (y 19, .inr (4, o4_rrrrrr (y 2) (y 20) (y 21) (y 22) (y 23) (y 24))), (y 20, aI V 2000 fy20), (y 21, aI V 6 fy21), (y 22, aI V 64 fy22)]) (rnV (rest := []) ⟨hx, hb, hml, hown, hg⟩ (k_X9_refusalOfTold_0 l V y a1 a2 (-1) py0_1 (.null) o11 py0_12 py0_13 py0_14 py2_0 py2_1 py2_2 py2_3 py2_4 py2_5 py2_13 py2_14 py2_15 py2_16 py2_17 py33_1 py33_2 fy34 py35_1 py35_2 fy36 py37_1 py37_2 fy38 py39_1 py39_2 fy40 bpy0_1 bpy0_12 bpy0_13 bpy2_1 bpy2_2 bpy2_3 bpy2_4 bpy2_5 bpy2_13 bpy2_14 bpy2_15 bpy2_16 bpy2_17 bpy33_1 bpy35_1 bpy37_1 bpy39_1) mt_X9_refusalOfTold q_5_21 ⟨Nat.le_of_ble_eq_true rfl, Nat.le_of_ble_eq_true rfl⟩ hK hP hD hS hA hE [0, 1, 8, 9, 10, 11, 12, 13, 14, 15, 16] rfl rfl 0 rfl rfl rfl rfl hl.1 rfl (Nat.le_of_ble_eq_true rfl) dX9_high_4 ⟨Nat.le_of_ble_eq_true rfl, Nat.le_of_ble_eq_true rfl⟩) hP hD hS hA [0, 1, 8, 9, 10, 11, 12, 13, 14, 15, 16] [2, 3, 4, 5, 6, 7] rfl rfl rfl (by decide) (fun r_1 w H locs hw hP hD hS => ?_)
  rcases hw with ⟨c_2, rfl, g_3, rfl⟩ | ⟨c_4, c_5, rfl, g_6, rfl⟩ | ⟨c_7, c_8, c_9, rfl, g_10, rfl⟩ | ⟨c_11, c_12, c_13, c_14, rfl, g_15, rfl⟩ | ⟨c_16, c_17, c_18, c_19, c_20, c_21, c_22, rfl, g_23, rfl⟩ | ⟨c_24, c_25, c_26, c_27, c_28, c_29, c_30, c_31, rfl, g_32, rfl⟩ | ⟨c_33, c_34, c_35, c_36, c_37, c_38, c_39, c_40, rfl, g_41, rfl⟩ | ⟨c_42, c_43, c_44, c_45, c_46, c_47, c_48, c_49, rfl, g_50, rfl⟩ | ⟨c_51, c_52, c_53, c_54, c_55, c_56, rfl, g_57, rfl⟩ | ⟨c_58, c_59, c_60, c_61, c_62, c_63, c_64, rfl, g_65, rfl⟩ | ⟨c_66, c_67, c_68, c_69, c_70, c_71, c_72, c_73, rfl, g_74, rfl⟩ | ⟨c_75, c_76, c_77, c_78, c_79, c_80, c_81, c_82, rfl, g_83, rfl⟩ | ⟨c_84, c_85, c_86, c_87, c_88, c_89, c_90, c_91, rfl, g_92, rfl⟩ | ⟨c_93, c_94, c_95, c_96, c_97, c_98, rfl, g_99, rfl⟩ | ⟨c_100, c_101, c_102, c_103, c_104, c_105, c_106, rfl, g_107, rfl⟩ | ⟨c_108, c_109, c_110, c_111, c_112, c_113, c_114, c_115, rfl, g_116, rfl⟩ | ⟨c_117, c_118, c_119, c_120, c_121, c_122, c_123, c_124, rfl, g_125, rfl⟩ | ⟨c_126, c_127, c_128, c_129, c_130, c_131, c_132, c_133, rfl, g_134, rfl⟩ | ⟨c_135, c_136, c_137, c_138, c_139, c_140, rfl, g_141, rfl⟩ | ⟨c_142, c_143, c_144, c_145, c_146, c_147, c_148, rfl, g_149, rfl⟩ | ⟨c_150, c_151, c_152, c_153, c_154, c_155, c_156, c_157, rfl, g_158, rfl⟩ | ⟨c_159, c_160, c_161, c_162, c_163, c_164, c_165, c_166, rfl, g_167, rfl⟩ | ⟨c_168, c_169, c_170, c_171, c_172, c_173, c_174, c_175, rfl, g_176, rfl⟩ | ⟨c_177, c_178, c_179, c_180, c_181, c_182, rfl, g_183, rfl⟩
  · have hP : va_P V.1 vwCl [(y 3, aI V 4 fy3), (y 9, aI V 900 fy9), (y 19, .inr (4, o4_rrrrrr (y 2) (y 20) (y 21) (y 22) (y 23) (y 24))), (y 20, aI V 2000 fy20), (y 21, aI V 6 fy21), (y 22, aI V 64 fy22), (y 0, .inr (9, o9_rirrrrrrrrnviii (y 1) py0_1 (y 2) (y 10) (y 19) (y 25) (y 26) (y 30) (y 31) (y 32) o11 py0_12 py0_13 py0_14)), (y 2, .inr (1, o1_iiiiiirrrrrrriiiii py2_0 py2_1 py2_2 py2_3 py2_4 py2_5 (y 3) (y 4) (y 5) (y 6) (y 7) (y 8) (y 9) py2_13 py2_14 py2_15 py2_16 py2_17)), (y 30, aT V 4 (va_up (va_up (va_up (va_up (fun _ => none) 0 (some (y 33))) 1 (some (y 35))) 2 (some (y 37))) 3 (some (y 39)))), (y 33, .inr (7, o7_rii (y 34) py33_1 py33_2)), (y 34, aJ V 40 fy34), (y 35, .inr (7, o7_rii (y 36) py35_1 py35_2)), (y 36, aJ V 40 fy36), (y 37, .inr (7, o7_rii (y 38) py37_1 py37_2)), (y 38, aJ V 40 fy38), (y 39, .inr (7, o7_rii (y 40) py39_1 py39_2)), (y 40, aJ V 40 fy40)] H := hP
    have hD := cpD hP hD
    have b_184 : iv (-2147483648) (-1) a1 := iv_l1 c_2 (iv_top a1) (iv_c (0 : Int32) (a := 0) (b := 0) (by decide)) (by first | decide | omega)
    refine lv_istore_n (lv' := [(3, .int (-2)), (0, .ref (y 0)), (1, .int a1), (2, .int a2)]) hx hb dX9_high_7 rfl hl (by decide) rfl (fun ls hl => ?_)
    refine lv_iload_n hx hb dX9_high_8 rfl (lv_at hl 0 rfl) ?_
    refine lv_if_eq (tgt := 15) hx hb dX9_high_9 (by decide) (fun c_186 => absurd c_186 (by decide)) (fun _ => ?_)
    refine lv_iload_n hx hb dX9_high_12 rfl (lv_at hl 0 rfl) ?_
    refine lv_i2l (v := (-2)) hx hb dX9_high_13 (by decide +kernel) ?_
    have z_0 := Int32.lt_iff_toInt_lt.mp c_2
    have k_0 : (0 : Int32).toInt = 0 := (by decide)
    exfalso
    have g_0 := hf0
    exact absurd (g_3.trans g_0) (by decide)
  · have hP : va_P V.1 vwCl [(y 3, aI V 4 fy3), (y 9, aI V 900 fy9), (y 19, .inr (4, o4_rrrrrr (y 2) (y 20) (y 21) (y 22) (y 23) (y 24))), (y 20, aI V 2000 fy20), (y 21, aI V 6 fy21), (y 22, aI V 64 fy22), (y 0, .inr (9, o9_rirrrrrrrrnviii (y 1) py0_1 (y 2) (y 10) (y 19) (y 25) (y 26) (y 30) (y 31) (y 32) o11 py0_12 py0_13 py0_14)), (y 2, .inr (1, o1_iiiiiirrrrrrriiiii py2_0 py2_1 py2_2 py2_3 py2_4 py2_5 (y 3) (y 4) (y 5) (y 6) (y 7) (y 8) (y 9) py2_13 py2_14 py2_15 py2_16 py2_17)), (y 30, aT V 4 (va_up (va_up (va_up (va_up (fun _ => none) 0 (some (y 33))) 1 (some (y 35))) 2 (some (y 37))) 3 (some (y 39)))), (y 33, .inr (7, o7_rii (y 34) py33_1 py33_2)), (y 34, aJ V 40 fy34), (y 35, .inr (7, o7_rii (y 36) py35_1 py35_2)), (y 36, aJ V 40 fy36), (y 37, .inr (7, o7_rii (y 38) py37_1 py37_2)), (y 38, aJ V 40 fy38), (y 39, .inr (7, o7_rii (y 40) py39_1 py39_2)), (y 40, aJ V 40 fy40)] H := hP
    have hD := cpD hP hD
    have b_187 : iv 0 2147483647 a1 := iv_e2 (Int32.not_lt.mp c_4) (iv_c (0 : Int32) (a := 0) (b := 0) (by decide)) (iv_top a1) (by first | decide | omega)
    have b_188 : iv 4 2147483647 a1 := iv_e2 c_5 (iv_c (4 : Int32) (a := 4) (b := 4) (by decide)) b_187 (by first | decide | omega)
    refine lv_istore_n (lv' := [(3, .int (-2)), (0, .ref (y 0)), (1, .int a1), (2, .int a2)]) hx hb dX9_high_7 rfl hl (by decide) rfl (fun ls hl => ?_)
    refine lv_iload_n hx hb dX9_high_8 rfl (lv_at hl 0 rfl) ?_
    refine lv_if_eq (tgt := 15) hx hb dX9_high_9 (by decide) (fun c_190 => absurd c_190 (by decide)) (fun _ => ?_)
    refine lv_iload_n hx hb dX9_high_12 rfl (lv_at hl 0 rfl) ?_
    refine lv_i2l (v := (-2)) hx hb dX9_high_13 (by decide +kernel) ?_
    have z_0 := Int32.le_iff_toInt_le.mp (Int32.not_lt.mp c_4)
    have z_1 := Int32.le_iff_toInt_le.mp c_5
    have k_0 : (0 : Int32).toInt = 0 := (by decide)
    have k_4 : (4 : Int32).toInt = 4 := (by decide)
    exfalso
    have g_0 := hf0
    exact absurd (g_6.trans g_0) (by decide)
  · have hP : va_P V.1 vwCl [(y 3, aI V 4 fy3), (y 9, aI V 900 fy9), (y 19, .inr (4, o4_rrrrrr (y 2) (y 20) (y 21) (y 22) (y 23) (y 24))), (y 20, aI V 2000 fy20), (y 21, aI V 6 fy21), (y 22, aI V 64 fy22), (y 0, .inr (9, o9_rirrrrrrrrnviii (y 1) py0_1 (y 2) (y 10) (y 19) (y 25) (y 26) (y 30) (y 31) (y 32) o11 py0_12 py0_13 py0_14)), (y 2, .inr (1, o1_iiiiiirrrrrrriiiii py2_0 py2_1 py2_2 py2_3 py2_4 py2_5 (y 3) (y 4) (y 5) (y 6) (y 7) (y 8) (y 9) py2_13 py2_14 py2_15 py2_16 py2_17)), (y 30, aT V 4 (va_up (va_up (va_up (va_up (fun _ => none) 0 (some (y 33))) 1 (some (y 35))) 2 (some (y 37))) 3 (some (y 39)))), (y 33, .inr (7, o7_rii (y 34) py33_1 py33_2)), (y 34, aJ V 40 fy34), (y 35, .inr (7, o7_rii (y 36) py35_1 py35_2)), (y 36, aJ V 40 fy36), (y 37, .inr (7, o7_rii (y 38) py37_1 py37_2)), (y 38, aJ V 40 fy38), (y 39, .inr (7, o7_rii (y 40) py39_1 py39_2)), (y 40, aJ V 40 fy40)] H := hP
    have hD := cpD hP hD
    have b_191 : iv 0 2147483647 a1 := iv_e2 (Int32.not_lt.mp c_7) (iv_c (0 : Int32) (a := 0) (b := 0) (by decide)) (iv_top a1) (by first | decide | omega)
    have b_192 : iv 0 3 a1 := iv_l1 (Int32.not_le.mp c_8) b_191 (iv_c (4 : Int32) (a := 4) (b := 4) (by decide)) (by first | decide | omega)
    have b_193 : iv (-2147483648) (-1) a2 := iv_l1 c_9 (iv_top a2) (iv_c (0 : Int32) (a := 0) (b := 0) (by decide)) (by first | decide | omega)
    refine lv_istore_n (lv' := [(3, .int (-2)), (0, .ref (y 0)), (1, .int a1), (2, .int a2)]) hx hb dX9_high_7 rfl hl (by decide) rfl (fun ls hl => ?_)
    refine lv_iload_n hx hb dX9_high_8 rfl (lv_at hl 0 rfl) ?_
    refine lv_if_eq (tgt := 15) hx hb dX9_high_9 (by decide) (fun c_195 => absurd c_195 (by decide)) (fun _ => ?_)
    refine lv_iload_n hx hb dX9_high_12 rfl (lv_at hl 0 rfl) ?_
    refine lv_i2l (v := (-2)) hx hb dX9_high_13 (by decide +kernel) ?_
    have z_0 := Int32.le_iff_toInt_le.mp (Int32.not_lt.mp c_7)
    have z_1 := Int32.lt_iff_toInt_lt.mp (Int32.not_le.mp c_8)
    have z_2 := Int32.lt_iff_toInt_lt.mp c_9
    have k_0 : (0 : Int32).toInt = 0 := (by decide)
    have k_4 : (4 : Int32).toInt = 4 := (by decide)
    exfalso
    have g_0 := hf0
    exact absurd (g_10.trans g_0) (by decide)
  · have hP : va_P V.1 vwCl [(y 3, aI V 4 fy3), (y 9, aI V 900 fy9), (y 19, .inr (4, o4_rrrrrr (y 2) (y 20) (y 21) (y 22) (y 23) (y 24))), (y 20, aI V 2000 fy20), (y 21, aI V 6 fy21), (y 22, aI V 64 fy22), (y 0, .inr (9, o9_rirrrrrrrrnviii (y 1) py0_1 (y 2) (y 10) (y 19) (y 25) (y 26) (y 30) (y 31) (y 32) o11 py0_12 py0_13 py0_14)), (y 2, .inr (1, o1_iiiiiirrrrrrriiiii py2_0 py2_1 py2_2 py2_3 py2_4 py2_5 (y 3) (y 4) (y 5) (y 6) (y 7) (y 8) (y 9) py2_13 py2_14 py2_15 py2_16 py2_17)), (y 30, aT V 4 (va_up (va_up (va_up (va_up (fun _ => none) 0 (some (y 33))) 1 (some (y 35))) 2 (some (y 37))) 3 (some (y 39)))), (y 33, .inr (7, o7_rii (y 34) py33_1 py33_2)), (y 34, aJ V 40 fy34), (y 35, .inr (7, o7_rii (y 36) py35_1 py35_2)), (y 36, aJ V 40 fy36), (y 37, .inr (7, o7_rii (y 38) py37_1 py37_2)), (y 38, aJ V 40 fy38), (y 39, .inr (7, o7_rii (y 40) py39_1 py39_2)), (y 40, aJ V 40 fy40)] H := hP
    have hD := cpD hP hD
    have b_196 : iv 0 2147483647 a1 := iv_e2 (Int32.not_lt.mp c_11) (iv_c (0 : Int32) (a := 0) (b := 0) (by decide)) (iv_top a1) (by first | decide | omega)
    have b_197 : iv 0 3 a1 := iv_l1 (Int32.not_le.mp c_12) b_196 (iv_c (4 : Int32) (a := 4) (b := 4) (by decide)) (by first | decide | omega)
    have b_198 : iv 0 2147483647 a2 := iv_e2 (Int32.not_lt.mp c_13) (iv_c (0 : Int32) (a := 0) (b := 0) (by decide)) (iv_top a2) (by first | decide | omega)
    refine lv_istore_n (lv' := [(3, .int (-2)), (0, .ref (y 0)), (1, .int a1), (2, .int a2)]) hx hb dX9_high_7 rfl hl (by decide) rfl (fun ls hl => ?_)
    refine lv_iload_n hx hb dX9_high_8 rfl (lv_at hl 0 rfl) ?_
    refine lv_if_eq (tgt := 15) hx hb dX9_high_9 (by decide) (fun c_200 => absurd c_200 (by decide)) (fun _ => ?_)
    refine lv_iload_n hx hb dX9_high_12 rfl (lv_at hl 0 rfl) ?_
    refine lv_i2l (v := (-2)) hx hb dX9_high_13 (by decide +kernel) ?_
    have z_0 := Int32.le_iff_toInt_le.mp (Int32.not_lt.mp c_11)
    have z_1 := Int32.lt_iff_toInt_lt.mp (Int32.not_le.mp c_12)
    have z_2 := Int32.le_iff_toInt_le.mp (Int32.not_lt.mp c_13)
    have z_3 := Int32.le_iff_toInt_le.mp c_14
    have k_0 : (0 : Int32).toInt = 0 := (by decide)
    have k_4 : (4 : Int32).toInt = 4 := (by decide)
    exfalso
    have g_0 := hf0
    exact absurd (g_15.trans g_0) (by decide)
  · have hP : va_P V.1 vwCl [(y 3, aI V 4 fy3), (y 9, aI V 900 fy9), (y 19, .inr (4, o4_rrrrrr (y 2) (y 20) (y 21) (y 22) (y 23) (y 24))), (y 20, aI V 2000 fy20), (y 21, aI V 6 fy21), (y 22, aI V 64 fy22), (y 0, .inr (9, o9_rirrrrrrrrnviii (y 1) py0_1 (y 2) (y 10) (y 19) (y 25) (y 26) (y 30) (y 31) (y 32) o11 py0_12 py0_13 py0_14)), (y 2, .inr (1, o1_iiiiiirrrrrrriiiii py2_0 py2_1 py2_2 py2_3 py2_4 py2_5 (y 3) (y 4) (y 5) (y 6) (y 7) (y 8) (y 9) py2_13 py2_14 py2_15 py2_16 py2_17)), (y 30, aT V 4 (va_up (va_up (va_up (va_up (fun _ => none) 0 (some (y 33))) 1 (some (y 35))) 2 (some (y 37))) 3 (some (y 39)))), (y 33, .inr (7, o7_rii (y 34) py33_1 py33_2)), (y 34, aJ V 40 fy34), (y 35, .inr (7, o7_rii (y 36) py35_1 py35_2)), (y 36, aJ V 40 fy36), (y 37, .inr (7, o7_rii (y 38) py37_1 py37_2)), (y 38, aJ V 40 fy38), (y 39, .inr (7, o7_rii (y 40) py39_1 py39_2)), (y 40, aJ V 40 fy40)] H := hP
    have hD := cpD hP hD
    have b_201 : iv 0 2147483647 a2 := iv_e2 (Int32.not_lt.mp c_18) (iv_c (0 : Int32) (a := 0) (b := 0) (by decide)) (iv_top a2) (by first | decide | omega)
    have b_202 : iv 0 3 a2 := iv_l1 (Int32.not_le.mp c_19) b_201 bpy2_1 (by first | decide | omega)
    have b_203 : iv 1 4 py2_1 := iv_l2 (Int32.not_le.mp c_19) b_201 bpy2_1 (by first | decide | omega)
    have b_204 : iv 0 0 a1 := iv_q c_20 (iv_c (0 : Int32) (a := 0) (b := 0) (by decide))
    have b_205 : iv 0 40 py33_1 := iv_e2 c_21 (iv_c (0 : Int32) (a := 0) (b := 0) (by decide)) bpy33_1 (by first | decide | omega)
    have b_206 : iv 0 0 py33_1 := iv_l1 c_22 b_205 (iv_c (1 : Int32) (a := 1) (b := 1) (by decide)) (by first | decide | omega)
    refine lv_istore_n (lv' := [(3, .int (-4)), (0, .ref (y 0)), (1, .int a1), (2, .int a2)]) hx hb dX9_high_7 rfl hl (by decide) rfl (fun ls hl => ?_)
    refine lv_iload_n hx hb dX9_high_8 rfl (lv_at hl 0 rfl) ?_
    refine lv_if_eq (tgt := 15) hx hb dX9_high_9 (by decide) (fun c_208 => absurd c_208 (by decide)) (fun _ => ?_)
    refine lv_iload_n hx hb dX9_high_12 rfl (lv_at hl 0 rfl) ?_
    refine lv_i2l (v := (-4)) hx hb dX9_high_13 (by decide +kernel) ?_
    have z_0 := Int32.le_iff_toInt_le.mp (Int32.not_lt.mp c_16)
    have z_1 := Int32.lt_iff_toInt_lt.mp (Int32.not_le.mp c_17)
    have z_2 := Int32.le_iff_toInt_le.mp (Int32.not_lt.mp c_18)
    have z_3 := Int32.lt_iff_toInt_lt.mp (Int32.not_le.mp c_19)
    have z_4 := congrArg Int32.toInt c_20
    have z_5 := Int32.le_iff_toInt_le.mp c_21
    have z_6 := Int32.lt_iff_toInt_lt.mp c_22
    have k_0 : (0 : Int32).toInt = 0 := (by decide)
    have k_1 : (1 : Int32).toInt = 1 := (by decide)
    have k_4 : (4 : Int32).toInt = 4 := (by decide)
    exfalso
    have g_0 := hf0
    exact absurd (g_23.trans g_0) (by decide)
  · have hP : va_P V.1 vwCl [(y 3, aI V 4 fy3), (y 9, aI V 900 fy9), (y 19, .inr (4, o4_rrrrrr (y 2) (y 20) (y 21) (y 22) (y 23) (y 24))), (y 20, aI V 2000 fy20), (y 21, aI V 6 fy21), (y 22, aI V 64 fy22), (y 0, .inr (9, o9_rirrrrrrrrnviii (y 1) py0_1 (y 2) (y 10) (y 19) (y 25) (y 26) (y 30) (y 31) (y 32) o11 py0_12 py0_13 py0_14)), (y 2, .inr (1, o1_iiiiiirrrrrrriiiii py2_0 py2_1 py2_2 py2_3 py2_4 py2_5 (y 3) (y 4) (y 5) (y 6) (y 7) (y 8) (y 9) py2_13 py2_14 py2_15 py2_16 py2_17)), (y 30, aT V 4 (va_up (va_up (va_up (va_up (fun _ => none) 0 (some (y 33))) 1 (some (y 35))) 2 (some (y 37))) 3 (some (y 39)))), (y 33, .inr (7, o7_rii (y 34) py33_1 py33_2)), (y 34, aJ V 40 fy34), (y 35, .inr (7, o7_rii (y 36) py35_1 py35_2)), (y 36, aJ V 40 fy36), (y 37, .inr (7, o7_rii (y 38) py37_1 py37_2)), (y 38, aJ V 40 fy38), (y 39, .inr (7, o7_rii (y 40) py39_1 py39_2)), (y 40, aJ V 40 fy40)] H := hP
    have hD := cpD hP hD
    have b_209 : iv 0 2147483647 a2 := iv_e2 (Int32.not_lt.mp c_26) (iv_c (0 : Int32) (a := 0) (b := 0) (by decide)) (iv_top a2) (by first | decide | omega)
    have b_210 : iv 0 3 a2 := iv_l1 (Int32.not_le.mp c_27) b_209 bpy2_1 (by first | decide | omega)
    have b_211 : iv 1 4 py2_1 := iv_l2 (Int32.not_le.mp c_27) b_209 bpy2_1 (by first | decide | omega)
    have b_212 : iv 0 0 a1 := iv_q c_28 (iv_c (0 : Int32) (a := 0) (b := 0) (by decide))
    have b_213 : iv 0 40 py33_1 := iv_e2 c_29 (iv_c (0 : Int32) (a := 0) (b := 0) (by decide)) bpy33_1 (by first | decide | omega)
    have b_214 : iv 1 40 py33_1 := iv_e2 (Int32.not_lt.mp c_30) (iv_c (1 : Int32) (a := 1) (b := 1) (by decide)) b_213 (by first | decide | omega)
    have b_215 : iv 1 8 py33_1 := iv_e1 c_31 b_214 (iv_c (8 : Int32) (a := 8) (b := 8) (by decide)) (by first | decide | omega)
    refine lv_istore_n (lv' := [(3, .int 0), (0, .ref (y 0)), (1, .int a1), (2, .int a2)]) hx hb dX9_high_7 rfl hl (by decide) rfl (fun ls hl => ?_)
    refine lv_iload_n hx hb dX9_high_8 rfl (lv_at hl 0 rfl) ?_
    refine lv_if_eq (tgt := 15) hx hb dX9_high_9 (by decide) (fun _ => ?_) (fun c_217 => absurd c_217 (by decide))
    refine lv_aload_n hx hb dX9_high_15 rfl (lv_at hl 1 rfl) ?_
    refine lv_aload_n hx hb dX9_high_16 rfl (lv_at hl 1 rfl) ?_
    refine va_get (ci := 9) (v := .ref (y 30)) (C := RX9) (T := TX9) (N := 15) hx hb hg inX9 hown hK hP 6 rfl rfl 7 (by decide) (hg _ q_2_43) (fun _ h9 => h9) rfl dX9_high_17 ?_
    refine lv_iload_n hx hb dX9_high_20 rfl (lv_at hl 2 rfl) ?_
    have c_218 : a1 = 0 := by have q9 := b_212; unfold iv at q9; simp only [tI_eq, (by decide : (0 : Int32).toInt = 0)]; omega
    rcases c_218 with rfl
    · refine va_aldq hx hb hK hP 8 4 rfl rfl (vin (by decide +kernel)) dX9_high_21 ?_
      refine W.eq (g2 := F0 m 22 ls (.ref (y 33) :: .ref (y 0) :: [])) rfl ?_
      refine va_get (ci := 7) (v := .int py33_1) (C := RX7) (T := TX7) (N := 3) hx hb hg inX7 hown hK hP 9 rfl rfl 1 (by decide) (hg _ q_2_2) (fun _ h9 => h9) rfl dX9_high_22 ?_
      refine jnR (wr := [(y 30, aT V 4 (va_up (va_up (va_up (va_up (fun _ => none) 0 (some (y 33))) 1 (some (y 35))) 2 (some (y 37))) 3 (some (y 39)))), (y 33, .inr (7, o7_rii (y 34) py33_1 py33_2)), (y 34, aJ V 40 fy34), (y 35, .inr (7, o7_rii (y 36) py35_1 py35_2)), (y 36, aJ V 40 fy36), (y 37, .inr (7, o7_rii (y 38) py37_1 py37_2)), (y 38, aJ V 40 fy38), (y 39, .inr (7, o7_rii (y 40) py39_1 py39_2)), (y 40, aJ V 40 fy40)]) (rnV (rest := []) ⟨hx, hb, hml, hown, hg⟩ (k_X9_waysFromNow_1 l V y D9 py33_1 fy3 fy9 fy20 fy21 fy22 py0_1 o11 py0_12 py0_13 py0_14 py2_0 py2_1 py2_2 py2_3 py2_4 py2_5 py2_13 py2_14 py2_15 py2_16 py2_17 tfy20 bpy0_1 bpy0_12 bpy0_13 (iv_w b_211 (by first | decide | omega)) bpy2_2 bpy2_3 bpy2_4 bpy2_5 bpy2_13 bpy2_14 bpy2_15 bpy2_16 bpy2_17 hL9 hK9) mt_X9_waysFromNow q_4_52 ⟨Nat.le_of_ble_eq_true rfl, Nat.le_of_ble_eq_true rfl⟩ hK hP hD hS hA hE [0, 1, 2, 3, 4, 5, 6, 7] rfl rfl 6 rfl rfl rfl rfl hl.1 rfl (Nat.le_of_ble_eq_true rfl) dX9_high_25 ⟨Nat.le_of_ble_eq_true rfl, Nat.le_of_ble_eq_true rfl⟩) hP hD hS hA [0, 1, 2, 3, 4, 5, 6, 7] [8, 9, 10, 11, 12, 13, 14, 15, 16] rfl rfl rfl (by decide) (fun r_219 w H locs hw hP hD hS => ?_)
      refine W.widen (k := 10) (n := 46481) (Nat.le_of_ble_eq_true rfl) (Nat.le_of_ble_eq_true rfl) ?_
      obtain ⟨n, L, Yw, wa_220, wb_221, f_222, f_223, f_224, v_225, v_226, v_227, v_228, v_229, v_230, f_231, f_232, f_233, f_234, f_235, f_236, f_237, f_238, f_239, hn, hL, tf_222, bv_225, bv_226, bv_227, bv_228, bv_229, bv_230, tf_231, tf_234, tf_235, tf_236, tf_237, eW, g_240, g_241, g_242, g_243, g_244, kn_245, rfl⟩ := hw
      have hP : va_P V.1 vwCl [(y 30, aT V 4 (va_up (va_up (va_up (va_up (fun _ => none) 0 (some (y 33))) 1 (some (y 35))) 2 (some (y 37))) 3 (some (y 39)))), (y 33, .inr (7, o7_rii (y 34) py33_1 py33_2)), (y 34, aJ V 40 fy34), (y 35, .inr (7, o7_rii (y 36) py35_1 py35_2)), (y 36, aJ V 40 fy36), (y 37, .inr (7, o7_rii (y 38) py37_1 py37_2)), (y 38, aJ V 40 fy38), (y 39, .inr (7, o7_rii (y 40) py39_1 py39_2)), (y 40, aJ V 40 fy40), (y 3, aI V 4 fy3), (y 9, aI V 900 fy9), (y 19, .inr (4, o4_rrrrrr (y 2) (y 20) (y 21) (y 22) (y 23) (y 24))), (y 20, aI V 2000 f_222), (y 21, aI V 6 f_223), (y 22, aI V 64 f_224), (y 0, .inr (9, o9_rirrrrrrrrrviii (y 1) py0_1 (y 2) (y 10) (y 19) (y 25) (y 26) (y 30) (y 31) (y 32) (Yw 0) o11 py0_12 py0_13 py0_14)), (y 2, .inr (1, o1_iiiiiirrrrrrriiiii py2_0 py2_1 py2_2 py2_3 py2_4 py2_5 (y 3) (y 4) (y 5) (y 6) (y 7) (y 8) (y 9) py2_13 py2_14 py2_15 py2_16 py2_17)), (Yw 0, .inr (8, o8_iirrriirrrrrrriii v_225 (nI n) (Yw 1) (Yw 2) wa_220 v_226 v_227 (y 19) (Yw 4) (Yw 5) (Yw 6) (Yw 7) (Yw 8) wb_221 v_228 v_229 v_230)), (Yw 1, aI V n f_231), (Yw 2, aI V n f_232), (wa_220, aI V n f_233), (Yw 4, aI V L f_234), (Yw 5, aI V n f_235), (Yw 6, aI V (n * 4) f_236), (Yw 7, aI V n f_237), (Yw 8, aI V 4 f_238), (wb_221, aI V n f_239)] H := hP
      have hD := cpD hP hD
      rw [← eW]
      refine lv_astore (lv' := [(4, .ref (Yw 0)), (3, .int 0), (0, .ref (y 0)), (1, .int 0), (2, .int a2)]) hx hb dX9_high_28 hl (by decide) rfl (fun ls hl => ?_)
      refine lv_aload hx hb dX9_high_30 (lv_at hl 0 rfl) ?_
      refine lv_aload_n hx hb dX9_high_32 rfl (lv_at hl 2 rfl) ?_
      refine va_get (ci := 9) (v := .ref (y 30)) (C := RX9) (T := TX9) (N := 15) hx hb hg inX9 hown hK hP 15 rfl rfl 7 (by decide) (hg _ q_2_43) (fun _ h9 => h9) rfl dX9_high_33 ?_
      refine lv_iload_n hx hb dX9_high_36 rfl (lv_at hl 3 rfl) ?_
      refine va_aldq hx hb hK hP 0 4 rfl rfl (vin (by decide +kernel)) dX9_high_37 ?_
      refine W.eq (g2 := F0 m 38 ls (.ref (y 33) :: .ref (Yw 0) :: [])) rfl ?_
      refine lv_iload_n hx hb dX9_high_38 rfl (lv_at hl 4 rfl) ?_
      refine jnV (wr := [(y 30, aT V 4 (va_up (va_up (va_up (va_up (fun _ => none) 0 (some (y 33))) 1 (some (y 35))) 2 (some (y 37))) 3 (some (y 39)))), (y 35, .inr (7, o7_rii (y 36) py35_1 py35_2)), (y 36, aJ V 40 fy36), (y 37, .inr (7, o7_rii (y 38) py37_1 py37_2)), (y 38, aJ V 40 fy38), (y 39, .inr (7, o7_rii (y 40) py39_1 py39_2)), (y 40, aJ V 40 fy40), (y 3, aI V 4 fy3), (y 9, aI V 900 fy9), (y 19, .inr (4, o4_rrrrrr (y 2) (y 20) (y 21) (y 22) (y 23) (y 24))), (y 20, aI V 2000 f_222), (y 21, aI V 6 f_223), (y 22, aI V 64 f_224), (y 0, .inr (9, o9_rirrrrrrrrrviii (y 1) py0_1 (y 2) (y 10) (y 19) (y 25) (y 26) (y 30) (y 31) (y 32) (Yw 0) o11 py0_12 py0_13 py0_14)), (y 2, .inr (1, o1_iiiiiirrrrrrriiiii py2_0 py2_1 py2_2 py2_3 py2_4 py2_5 (y 3) (y 4) (y 5) (y 6) (y 7) (y 8) (y 9) py2_13 py2_14 py2_15 py2_16 py2_17)), (Yw 4, aI V L f_234), (Yw 5, aI V n f_235), (Yw 7, aI V n f_237), (Yw 8, aI V 4 f_238)]) (rnV (rest := []) ⟨hx, hb, hml, hown, hg⟩ (k_X8_spreadAsTold_0 l V n L Yw y a2 py33_1 py33_2 fy34 v_225 wa_220 v_226 v_227 wb_221 v_228 v_229 v_230 f_231 f_232 f_233 f_236 f_239 hn hL b_210 (iv_w b_215 (by first | decide | omega)) bv_225 bv_226 bv_227 bv_228 bv_229 bv_230 tf_231 tf_236) mt_X8_spreadAsTold q_5_26 ⟨Nat.le_of_ble_eq_true rfl, Nat.le_of_ble_eq_true rfl⟩ hK hP hD hS hA hE [1, 2, 17, 18, 19, 20, 23, 26] rfl rfl 17 rfl rfl rfl rfl hl.1 rfl (Nat.le_of_ble_eq_true rfl) dX9_high_39 ⟨Nat.le_of_ble_eq_true rfl, Nat.le_of_ble_eq_true rfl⟩) hP hD hS hA [1, 2, 17, 18, 19, 20, 23, 26] [0, 3, 4, 5, 6, 7, 8, 9, 10, 11, 12, 13, 14, 15, 16, 21, 22, 24, 25] rfl rfl rfl (by decide) (fun  w H locs hw hP hD hS => ?_)
      obtain ⟨wa_246, wb_247, f_248, f_249, rfl⟩ := hw
      have hP : va_P V.1 vwCl [(y 30, aT V 4 (va_up (va_up (va_up (va_up (fun _ => none) 0 (some (y 33))) 1 (some (y 35))) 2 (some (y 37))) 3 (some (y 39)))), (y 35, .inr (7, o7_rii (y 36) py35_1 py35_2)), (y 36, aJ V 40 fy36), (y 37, .inr (7, o7_rii (y 38) py37_1 py37_2)), (y 38, aJ V 40 fy38), (y 39, .inr (7, o7_rii (y 40) py39_1 py39_2)), (y 40, aJ V 40 fy40), (y 3, aI V 4 fy3), (y 9, aI V 900 fy9), (y 19, .inr (4, o4_rrrrrr (y 2) (y 20) (y 21) (y 22) (y 23) (y 24))), (y 20, aI V 2000 f_222), (y 21, aI V 6 f_223), (y 22, aI V 64 f_224), (y 0, .inr (9, o9_rirrrrrrrrrviii (y 1) py0_1 (y 2) (y 10) (y 19) (y 25) (y 26) (y 30) (y 31) (y 32) (Yw 0) o11 py0_12 py0_13 py0_14)), (y 2, .inr (1, o1_iiiiiirrrrrrriiiii py2_0 py2_1 py2_2 py2_3 py2_4 py2_5 (y 3) (y 4) (y 5) (y 6) (y 7) (y 8) (y 9) py2_13 py2_14 py2_15 py2_16 py2_17)), (Yw 4, aI V L f_234), (Yw 5, aI V n f_235), (Yw 7, aI V n f_237), (Yw 8, aI V 4 f_238), (y 33, .inr (7, o7_rii (y 34) py33_1 py33_2)), (y 34, aJ V 40 fy34), (Yw 0, .inr (8, o8_iirrriirrrrrrriii v_225 (nI n) (Yw 1) (Yw 2) wa_246 v_226 v_227 (y 19) (Yw 4) (Yw 5) (Yw 6) (Yw 7) (Yw 8) wb_247 v_228 v_229 v_230)), (Yw 1, aI V n f_231), (Yw 2, aI V n f_232), (wa_246, aI V n f_248), (Yw 6, aI V (n * 4) f_236), (wb_247, aI V n f_249)] H := hP
      have hD := cpD hP hD
      refine lv_aload hx hb dX9_high_42 (lv_at hl 0 rfl) ?_
      refine lv_iload_n hx hb dX9_high_44 rfl (lv_at hl 4 rfl) ?_
      refine lv_iconst (v := 0) hx hb dX9_high_45 (by decide) ?_
      refine lv_iconst (v := 4) hx hb dX9_high_46 (by decide) ?_
      refine jnI (wr := [(y 30, aT V 4 (va_up (va_up (va_up (va_up (fun _ => none) 0 (some (y 33))) 1 (some (y 35))) 2 (some (y 37))) 3 (some (y 39)))), (y 35, .inr (7, o7_rii (y 36) py35_1 py35_2)), (y 36, aJ V 40 fy36), (y 37, .inr (7, o7_rii (y 38) py37_1 py37_2)), (y 38, aJ V 40 fy38), (y 39, .inr (7, o7_rii (y 40) py39_1 py39_2)), (y 40, aJ V 40 fy40), (y 3, aI V 4 fy3), (y 9, aI V 900 fy9), (y 19, .inr (4, o4_rrrrrr (y 2) (y 20) (y 21) (y 22) (y 23) (y 24))), (y 20, aI V 2000 f_222), (y 21, aI V 6 f_223), (y 22, aI V 64 f_224), (y 0, .inr (9, o9_rirrrrrrrrrviii (y 1) py0_1 (y 2) (y 10) (y 19) (y 25) (y 26) (y 30) (y 31) (y 32) (Yw 0) o11 py0_12 py0_13 py0_14)), (y 2, .inr (1, o1_iiiiiirrrrrrriiiii py2_0 py2_1 py2_2 py2_3 py2_4 py2_5 (y 3) (y 4) (y 5) (y 6) (y 7) (y 8) (y 9) py2_13 py2_14 py2_15 py2_16 py2_17)), (Yw 4, aI V L f_234), (Yw 5, aI V n f_235), (Yw 7, aI V n f_237), (Yw 8, aI V 4 f_238), (y 33, .inr (7, o7_rii (y 34) py33_1 py33_2)), (y 34, aJ V 40 fy34), (Yw 2, aI V n f_232), (Yw 6, aI V (n * 4) f_236), (wb_247, aI V n f_249)]) (rnV (rest := []) ⟨hx, hb, hml, hown, hg⟩ (k_X8_weightOf_0 l V n L Yw y a2 0 4 v_225 wa_246 v_226 v_227 wb_247 v_228 v_229 v_230 f_231 f_248 hn hL b_210 bv_225 bv_226 bv_227 bv_228 bv_229 bv_230 tf_231) mt_X8_weightOf q_4_186 ⟨Nat.le_of_ble_eq_true rfl, Nat.le_of_ble_eq_true rfl⟩ hK hP hD hS hA hE [21, 22, 24] rfl rfl 21 rfl rfl rfl rfl hl.1 rfl (Nat.le_of_ble_eq_true rfl) dX9_high_47 ⟨Nat.le_of_ble_eq_true rfl, Nat.le_of_ble_eq_true rfl⟩) hP hD hS hA [21, 22, 24] [0, 1, 2, 3, 4, 5, 6, 7, 8, 9, 10, 11, 12, 13, 14, 15, 16, 17, 18, 19, 20, 23, 25, 26] rfl rfl rfl (by decide) (fun r_250 w H locs hw hP hD hS => ?_)
      subst hw
      have hP : va_P V.1 vwCl [(y 30, aT V 4 (va_up (va_up (va_up (va_up (fun _ => none) 0 (some (y 33))) 1 (some (y 35))) 2 (some (y 37))) 3 (some (y 39)))), (y 35, .inr (7, o7_rii (y 36) py35_1 py35_2)), (y 36, aJ V 40 fy36), (y 37, .inr (7, o7_rii (y 38) py37_1 py37_2)), (y 38, aJ V 40 fy38), (y 39, .inr (7, o7_rii (y 40) py39_1 py39_2)), (y 40, aJ V 40 fy40), (y 3, aI V 4 fy3), (y 9, aI V 900 fy9), (y 19, .inr (4, o4_rrrrrr (y 2) (y 20) (y 21) (y 22) (y 23) (y 24))), (y 20, aI V 2000 f_222), (y 21, aI V 6 f_223), (y 22, aI V 64 f_224), (y 0, .inr (9, o9_rirrrrrrrrrviii (y 1) py0_1 (y 2) (y 10) (y 19) (y 25) (y 26) (y 30) (y 31) (y 32) (Yw 0) o11 py0_12 py0_13 py0_14)), (y 2, .inr (1, o1_iiiiiirrrrrrriiiii py2_0 py2_1 py2_2 py2_3 py2_4 py2_5 (y 3) (y 4) (y 5) (y 6) (y 7) (y 8) (y 9) py2_13 py2_14 py2_15 py2_16 py2_17)), (Yw 4, aI V L f_234), (Yw 5, aI V n f_235), (Yw 7, aI V n f_237), (Yw 8, aI V 4 f_238), (y 33, .inr (7, o7_rii (y 34) py33_1 py33_2)), (y 34, aJ V 40 fy34), (Yw 2, aI V n f_232), (Yw 6, aI V (n * 4) f_236), (wb_247, aI V n f_249), (Yw 0, .inr (8, o8_iirrriirrrrrrriii v_225 (nI n) (Yw 1) (Yw 2) wa_246 v_226 v_227 (y 19) (Yw 4) (Yw 5) (Yw 6) (Yw 7) (Yw 8) wb_247 v_228 v_229 v_230)), (Yw 1, aI V n f_231), (wa_246, aI V n f_248)] H := hP
      have hD := cpD hP hD
      refine lv_i2l hx hb dX9_high_50 rfl ?_
      refine lv_topl (fun j_251 ej_251 => ?_)
      have hP := subP (ws' := [(y 0, .inr (9, o9_rirrrrrrrrrviii (y 1) py0_1 (y 2) (y 10) (y 19) (y 25) (y 26) (y 30) (y 31) (y 32) (Yw 0) o11 py0_12 py0_13 py0_14)), (y 2, .inr (1, o1_iiiiiirrrrrrriiiii py2_0 py2_1 py2_2 py2_3 py2_4 py2_5 (y 3) (y 4) (y 5) (y 6) (y 7) (y 8) (y 9) py2_13 py2_14 py2_15 py2_16 py2_17)), (y 3, aI V 4 fy3), (y 9, aI V 900 fy9), (y 19, .inr (4, o4_rrrrrr (y 2) (y 20) (y 21) (y 22) (y 23) (y 24))), (y 20, aI V 2000 f_222), (y 21, aI V 6 f_223), (y 22, aI V 64 f_224), (y 30, aT V 4 (va_up (va_up (va_up (va_up (fun _ => none) 0 (some (y 33))) 1 (some (y 35))) 2 (some (y 37))) 3 (some (y 39)))), (y 33, .inr (7, o7_rii (y 34) py33_1 py33_2)), (y 34, aJ V 40 fy34), (y 35, .inr (7, o7_rii (y 36) py35_1 py35_2)), (y 36, aJ V 40 fy36), (y 37, .inr (7, o7_rii (y 38) py37_1 py37_2)), (y 38, aJ V 40 fy38), (y 39, .inr (7, o7_rii (y 40) py39_1 py39_2)), (y 40, aJ V 40 fy40), (Yw 4, aI V L f_234), (Yw 5, aI V n f_235), (Yw 7, aI V n f_237), (Yw 8, aI V 4 f_238), (Yw 2, aI V n f_232), (Yw 6, aI V (n * 4) f_236), (wb_247, aI V n f_249), (Yw 0, .inr (8, o8_iirrriirrrrrrriii v_225 (nI n) (Yw 1) (Yw 2) wa_246 v_226 v_227 (y 19) (Yw 4) (Yw 5) (Yw 6) (Yw 7) (Yw 8) wb_247 v_228 v_229 v_230)), (Yw 1, aI V n f_231), (wa_246, aI V n f_248)]) hP [13, 14, 7, 8, 9, 10, 11, 12, 0, 19, 20, 1, 2, 3, 4, 5, 6, 15, 16, 17, 18, 21, 22, 23, 24, 25, 26] rfl
      have hD := subD hP hD [13, 14, 7, 8, 9, 10, 11, 12, 0, 19, 20, 1, 2, 3, 4, 5, 6, 15, 16, 17, 18, 21, 22, 23, 24, 25, 26] rfl rfl
      exact fiL hx hb hr hlk hK (subP (ws' := [(y 0, .inr (9, o9_rirrrrrrrrrviii (y 1) py0_1 (y 2) (y 10) (y 19) (y 25) (y 26) (y 30) (y 31) (y 32) (Yw 0) o11 py0_12 py0_13 py0_14)), (y 2, .inr (1, o1_iiiiiirrrrrrriiiii py2_0 py2_1 py2_2 py2_3 py2_4 py2_5 (y 3) (y 4) (y 5) (y 6) (y 7) (y 8) (y 9) py2_13 py2_14 py2_15 py2_16 py2_17)), (y 3, aI V 4 fy3), (y 9, aI V 900 fy9), (y 19, .inr (4, o4_rrrrrr (y 2) (y 20) (y 21) (y 22) (y 23) (y 24))), (y 20, aI V 2000 f_222), (y 21, aI V 6 f_223), (y 22, aI V 64 f_224), (y 30, aT V 4 (va_up (va_up (va_up (va_up (fun _ => none) 0 (some (y 33))) 1 (some (y 35))) 2 (some (y 37))) 3 (some (y 39)))), (y 33, .inr (7, o7_rii (y 34) py33_1 py33_2)), (y 34, aJ V 40 fy34), (y 35, .inr (7, o7_rii (y 36) py35_1 py35_2)), (y 36, aJ V 40 fy36), (y 37, .inr (7, o7_rii (y 38) py37_1 py37_2)), (y 38, aJ V 40 fy38), (y 39, .inr (7, o7_rii (y 40) py39_1 py39_2)), (y 40, aJ V 40 fy40), (Yw 0, .inr (8, o8_iirrriirrrrrrriii v_225 (nI n) (Yw 1) (Yw 2) wa_246 v_226 v_227 (y 19) (Yw 4) (Yw 5) (Yw 6) (Yw 7) (Yw 8) wb_247 v_228 v_229 v_230)), (Yw 1, aI V n f_231), (Yw 2, aI V n f_232), (wa_246, aI V n f_248), (Yw 4, aI V L f_234), (Yw 5, aI V n f_235), (Yw 6, aI V (n * 4) f_236), (Yw 7, aI V n f_237), (Yw 8, aI V 4 f_238), (wb_247, aI V n f_249)]) hP [0, 1, 2, 3, 4, 5, 6, 7, 8, 9, 10, 11, 12, 13, 14, 15, 16, 24, 25, 21, 26, 17, 18, 22, 19, 20, 23] rfl) (hD.sub [0, 1, 2, 3, 4, 5, 6, 7, 8, 9, 10, 11, 12, 13, 14, 15, 16, 24, 25, 21, 26, 17, 18, 22, 19, 20, 23] rfl rfl) hS dX9_high_51 (Nat.le_of_ble_eq_true rfl) (Nat.le_of_ble_eq_true rfl) (⟨n, L, Yw, wa_246, wb_247, f_222, f_223, f_224, v_225, v_226, v_227, v_228, v_229, v_230, f_231, f_232, f_248, f_234, f_235, f_236, f_237, f_238, f_249, hn, hL, tf_222, bv_225, bv_226, bv_227, bv_228, bv_229, bv_230, tf_231, tf_234, tf_235, tf_236, tf_237, g_240, g_241, g_242, g_244, kn_245, rfl⟩)
  · have hP : va_P V.1 vwCl [(y 3, aI V 4 fy3), (y 9, aI V 900 fy9), (y 19, .inr (4, o4_rrrrrr (y 2) (y 20) (y 21) (y 22) (y 23) (y 24))), (y 20, aI V 2000 fy20), (y 21, aI V 6 fy21), (y 22, aI V 64 fy22), (y 0, .inr (9, o9_rirrrrrrrrnviii (y 1) py0_1 (y 2) (y 10) (y 19) (y 25) (y 26) (y 30) (y 31) (y 32) o11 py0_12 py0_13 py0_14)), (y 2, .inr (1, o1_iiiiiirrrrrrriiiii py2_0 py2_1 py2_2 py2_3 py2_4 py2_5 (y 3) (y 4) (y 5) (y 6) (y 7) (y 8) (y 9) py2_13 py2_14 py2_15 py2_16 py2_17)), (y 30, aT V 4 (va_up (va_up (va_up (va_up (fun _ => none) 0 (some (y 33))) 1 (some (y 35))) 2 (some (y 37))) 3 (some (y 39)))), (y 33, .inr (7, o7_rii (y 34) py33_1 py33_2)), (y 34, aJ V 40 fy34), (y 35, .inr (7, o7_rii (y 36) py35_1 py35_2)), (y 36, aJ V 40 fy36), (y 37, .inr (7, o7_rii (y 38) py37_1 py37_2)), (y 38, aJ V 40 fy38), (y 39, .inr (7, o7_rii (y 40) py39_1 py39_2)), (y 40, aJ V 40 fy40)] H := hP
    have hD := cpD hP hD
    have b_252 : iv 0 2147483647 a2 := iv_e2 (Int32.not_lt.mp c_35) (iv_c (0 : Int32) (a := 0) (b := 0) (by decide)) (iv_top a2) (by first | decide | omega)
    have b_253 : iv 0 3 a2 := iv_l1 (Int32.not_le.mp c_36) b_252 bpy2_1 (by first | decide | omega)
    have b_254 : iv 1 4 py2_1 := iv_l2 (Int32.not_le.mp c_36) b_252 bpy2_1 (by first | decide | omega)
    have b_255 : iv 0 0 a1 := iv_q c_37 (iv_c (0 : Int32) (a := 0) (b := 0) (by decide))
    have b_256 : iv 0 40 py33_1 := iv_e2 c_38 (iv_c (0 : Int32) (a := 0) (b := 0) (by decide)) bpy33_1 (by first | decide | omega)
    have b_257 : iv 1 40 py33_1 := iv_e2 (Int32.not_lt.mp c_39) (iv_c (1 : Int32) (a := 1) (b := 1) (by decide)) b_256 (by first | decide | omega)
    have b_258 : iv 1 8 py33_1 := iv_e1 c_40 b_257 (iv_c (8 : Int32) (a := 8) (b := 8) (by decide)) (by first | decide | omega)
    refine lv_istore_n (lv' := [(3, .int (-3)), (0, .ref (y 0)), (1, .int a1), (2, .int a2)]) hx hb dX9_high_7 rfl hl (by decide) rfl (fun ls hl => ?_)
    refine lv_iload_n hx hb dX9_high_8 rfl (lv_at hl 0 rfl) ?_
    refine lv_if_eq (tgt := 15) hx hb dX9_high_9 (by decide) (fun c_260 => absurd c_260 (by decide)) (fun _ => ?_)
    refine lv_iload_n hx hb dX9_high_12 rfl (lv_at hl 0 rfl) ?_
    refine lv_i2l (v := (-3)) hx hb dX9_high_13 (by decide +kernel) ?_
    have z_0 := Int32.le_iff_toInt_le.mp (Int32.not_lt.mp c_33)
    have z_1 := Int32.lt_iff_toInt_lt.mp (Int32.not_le.mp c_34)
    have z_2 := Int32.le_iff_toInt_le.mp (Int32.not_lt.mp c_35)
    have z_3 := Int32.lt_iff_toInt_lt.mp (Int32.not_le.mp c_36)
    have z_4 := congrArg Int32.toInt c_37
    have z_5 := Int32.le_iff_toInt_le.mp c_38
    have z_6 := Int32.le_iff_toInt_le.mp (Int32.not_lt.mp c_39)
    have z_7 := Int32.le_iff_toInt_le.mp c_40
    have k_0 : (0 : Int32).toInt = 0 := (by decide)
    have k_1 : (1 : Int32).toInt = 1 := (by decide)
    have k_4 : (4 : Int32).toInt = 4 := (by decide)
    have k_8 : (8 : Int32).toInt = 8 := (by decide)
    exfalso
    have g_0 := hf0
    exact absurd (g_41.trans g_0) (by decide)
  · have hP : va_P V.1 vwCl [(y 3, aI V 4 fy3), (y 9, aI V 900 fy9), (y 19, .inr (4, o4_rrrrrr (y 2) (y 20) (y 21) (y 22) (y 23) (y 24))), (y 20, aI V 2000 fy20), (y 21, aI V 6 fy21), (y 22, aI V 64 fy22), (y 0, .inr (9, o9_rirrrrrrrrnviii (y 1) py0_1 (y 2) (y 10) (y 19) (y 25) (y 26) (y 30) (y 31) (y 32) o11 py0_12 py0_13 py0_14)), (y 2, .inr (1, o1_iiiiiirrrrrrriiiii py2_0 py2_1 py2_2 py2_3 py2_4 py2_5 (y 3) (y 4) (y 5) (y 6) (y 7) (y 8) (y 9) py2_13 py2_14 py2_15 py2_16 py2_17)), (y 30, aT V 4 (va_up (va_up (va_up (va_up (fun _ => none) 0 (some (y 33))) 1 (some (y 35))) 2 (some (y 37))) 3 (some (y 39)))), (y 33, .inr (7, o7_rii (y 34) py33_1 py33_2)), (y 34, aJ V 40 fy34), (y 35, .inr (7, o7_rii (y 36) py35_1 py35_2)), (y 36, aJ V 40 fy36), (y 37, .inr (7, o7_rii (y 38) py37_1 py37_2)), (y 38, aJ V 40 fy38), (y 39, .inr (7, o7_rii (y 40) py39_1 py39_2)), (y 40, aJ V 40 fy40)] H := hP
    have hD := cpD hP hD
    have b_261 : iv 0 2147483647 a2 := iv_e2 (Int32.not_lt.mp c_44) (iv_c (0 : Int32) (a := 0) (b := 0) (by decide)) (iv_top a2) (by first | decide | omega)
    have b_262 : iv 0 3 a2 := iv_l1 (Int32.not_le.mp c_45) b_261 bpy2_1 (by first | decide | omega)
    have b_263 : iv 1 4 py2_1 := iv_l2 (Int32.not_le.mp c_45) b_261 bpy2_1 (by first | decide | omega)
    have b_264 : iv 0 0 a1 := iv_q c_46 (iv_c (0 : Int32) (a := 0) (b := 0) (by decide))
    have b_265 : iv 0 40 py33_1 := iv_e2 c_47 (iv_c (0 : Int32) (a := 0) (b := 0) (by decide)) bpy33_1 (by first | decide | omega)
    have b_266 : iv 1 40 py33_1 := iv_e2 (Int32.not_lt.mp c_48) (iv_c (1 : Int32) (a := 1) (b := 1) (by decide)) b_265 (by first | decide | omega)
    have b_267 : iv 9 40 py33_1 := iv_l2 (Int32.not_le.mp c_49) (iv_c (8 : Int32) (a := 8) (b := 8) (by decide)) b_266 (by first | decide | omega)
    refine lv_istore_n (lv' := [(3, .int (-4)), (0, .ref (y 0)), (1, .int a1), (2, .int a2)]) hx hb dX9_high_7 rfl hl (by decide) rfl (fun ls hl => ?_)
    refine lv_iload_n hx hb dX9_high_8 rfl (lv_at hl 0 rfl) ?_
    refine lv_if_eq (tgt := 15) hx hb dX9_high_9 (by decide) (fun c_269 => absurd c_269 (by decide)) (fun _ => ?_)
    refine lv_iload_n hx hb dX9_high_12 rfl (lv_at hl 0 rfl) ?_
    refine lv_i2l (v := (-4)) hx hb dX9_high_13 (by decide +kernel) ?_
    have z_0 := Int32.le_iff_toInt_le.mp (Int32.not_lt.mp c_42)
    have z_1 := Int32.lt_iff_toInt_lt.mp (Int32.not_le.mp c_43)
    have z_2 := Int32.le_iff_toInt_le.mp (Int32.not_lt.mp c_44)
    have z_3 := Int32.lt_iff_toInt_lt.mp (Int32.not_le.mp c_45)
    have z_4 := congrArg Int32.toInt c_46
    have z_5 := Int32.le_iff_toInt_le.mp c_47
    have z_6 := Int32.le_iff_toInt_le.mp (Int32.not_lt.mp c_48)
    have z_7 := Int32.lt_iff_toInt_lt.mp (Int32.not_le.mp c_49)
    have k_0 : (0 : Int32).toInt = 0 := (by decide)
    have k_1 : (1 : Int32).toInt = 1 := (by decide)
    have k_4 : (4 : Int32).toInt = 4 := (by decide)
    have k_8 : (8 : Int32).toInt = 8 := (by decide)
    exfalso
    have g_0 := hf0
    exact absurd (g_50.trans g_0) (by decide)
  · have hP : va_P V.1 vwCl [(y 3, aI V 4 fy3), (y 9, aI V 900 fy9), (y 19, .inr (4, o4_rrrrrr (y 2) (y 20) (y 21) (y 22) (y 23) (y 24))), (y 20, aI V 2000 fy20), (y 21, aI V 6 fy21), (y 22, aI V 64 fy22), (y 0, .inr (9, o9_rirrrrrrrrnviii (y 1) py0_1 (y 2) (y 10) (y 19) (y 25) (y 26) (y 30) (y 31) (y 32) o11 py0_12 py0_13 py0_14)), (y 2, .inr (1, o1_iiiiiirrrrrrriiiii py2_0 py2_1 py2_2 py2_3 py2_4 py2_5 (y 3) (y 4) (y 5) (y 6) (y 7) (y 8) (y 9) py2_13 py2_14 py2_15 py2_16 py2_17)), (y 30, aT V 4 (va_up (va_up (va_up (va_up (fun _ => none) 0 (some (y 33))) 1 (some (y 35))) 2 (some (y 37))) 3 (some (y 39)))), (y 33, .inr (7, o7_rii (y 34) py33_1 py33_2)), (y 34, aJ V 40 fy34), (y 35, .inr (7, o7_rii (y 36) py35_1 py35_2)), (y 36, aJ V 40 fy36), (y 37, .inr (7, o7_rii (y 38) py37_1 py37_2)), (y 38, aJ V 40 fy38), (y 39, .inr (7, o7_rii (y 40) py39_1 py39_2)), (y 40, aJ V 40 fy40)] H := hP
    have hD := cpD hP hD
    have b_270 : iv 0 2147483647 a2 := iv_e2 (Int32.not_lt.mp c_53) (iv_c (0 : Int32) (a := 0) (b := 0) (by decide)) (iv_top a2) (by first | decide | omega)
    have b_271 : iv 0 3 a2 := iv_l1 (Int32.not_le.mp c_54) b_270 bpy2_1 (by first | decide | omega)
    have b_272 : iv 1 4 py2_1 := iv_l2 (Int32.not_le.mp c_54) b_270 bpy2_1 (by first | decide | omega)
    have b_273 : iv 0 0 a1 := iv_q c_55 (iv_c (0 : Int32) (a := 0) (b := 0) (by decide))
    have b_274 : iv (-1) (-1) py33_1 := iv_l1 (Int32.not_le.mp c_56) bpy33_1 (iv_c (0 : Int32) (a := 0) (b := 0) (by decide)) (by first | decide | omega)
    refine lv_istore_n (lv' := [(3, .int (-6)), (0, .ref (y 0)), (1, .int a1), (2, .int a2)]) hx hb dX9_high_7 rfl hl (by decide) rfl (fun ls hl => ?_)
    refine lv_iload_n hx hb dX9_high_8 rfl (lv_at hl 0 rfl) ?_
    refine lv_if_eq (tgt := 15) hx hb dX9_high_9 (by decide) (fun c_276 => absurd c_276 (by decide)) (fun _ => ?_)
    refine lv_iload_n hx hb dX9_high_12 rfl (lv_at hl 0 rfl) ?_
    refine lv_i2l (v := (-6)) hx hb dX9_high_13 (by decide +kernel) ?_
    have z_0 := Int32.le_iff_toInt_le.mp (Int32.not_lt.mp c_51)
    have z_1 := Int32.lt_iff_toInt_lt.mp (Int32.not_le.mp c_52)
    have z_2 := Int32.le_iff_toInt_le.mp (Int32.not_lt.mp c_53)
    have z_3 := Int32.lt_iff_toInt_lt.mp (Int32.not_le.mp c_54)
    have z_4 := congrArg Int32.toInt c_55
    have z_5 := Int32.lt_iff_toInt_lt.mp (Int32.not_le.mp c_56)
    have k_0 : (0 : Int32).toInt = 0 := (by decide)
    have k_4 : (4 : Int32).toInt = 4 := (by decide)
    exfalso
    have g_0 := hf0
    exact absurd (g_57.trans g_0) (by decide)
  · have hP : va_P V.1 vwCl [(y 3, aI V 4 fy3), (y 9, aI V 900 fy9), (y 19, .inr (4, o4_rrrrrr (y 2) (y 20) (y 21) (y 22) (y 23) (y 24))), (y 20, aI V 2000 fy20), (y 21, aI V 6 fy21), (y 22, aI V 64 fy22), (y 0, .inr (9, o9_rirrrrrrrrnviii (y 1) py0_1 (y 2) (y 10) (y 19) (y 25) (y 26) (y 30) (y 31) (y 32) o11 py0_12 py0_13 py0_14)), (y 2, .inr (1, o1_iiiiiirrrrrrriiiii py2_0 py2_1 py2_2 py2_3 py2_4 py2_5 (y 3) (y 4) (y 5) (y 6) (y 7) (y 8) (y 9) py2_13 py2_14 py2_15 py2_16 py2_17)), (y 30, aT V 4 (va_up (va_up (va_up (va_up (fun _ => none) 0 (some (y 33))) 1 (some (y 35))) 2 (some (y 37))) 3 (some (y 39)))), (y 33, .inr (7, o7_rii (y 34) py33_1 py33_2)), (y 34, aJ V 40 fy34), (y 35, .inr (7, o7_rii (y 36) py35_1 py35_2)), (y 36, aJ V 40 fy36), (y 37, .inr (7, o7_rii (y 38) py37_1 py37_2)), (y 38, aJ V 40 fy38), (y 39, .inr (7, o7_rii (y 40) py39_1 py39_2)), (y 40, aJ V 40 fy40)] H := hP
    have hD := cpD hP hD
    have b_277 : iv 0 2147483647 a2 := iv_e2 (Int32.not_lt.mp c_60) (iv_c (0 : Int32) (a := 0) (b := 0) (by decide)) (iv_top a2) (by first | decide | omega)
    have b_278 : iv 0 3 a2 := iv_l1 (Int32.not_le.mp c_61) b_277 bpy2_1 (by first | decide | omega)
    have b_279 : iv 1 4 py2_1 := iv_l2 (Int32.not_le.mp c_61) b_277 bpy2_1 (by first | decide | omega)
    have b_280 : iv 1 1 a1 := iv_q c_62 (iv_c (1 : Int32) (a := 1) (b := 1) (by decide))
    have b_281 : iv 0 40 py35_1 := iv_e2 c_63 (iv_c (0 : Int32) (a := 0) (b := 0) (by decide)) bpy35_1 (by first | decide | omega)
    have b_282 : iv 0 0 py35_1 := iv_l1 c_64 b_281 (iv_c (1 : Int32) (a := 1) (b := 1) (by decide)) (by first | decide | omega)
    refine lv_istore_n (lv' := [(3, .int (-4)), (0, .ref (y 0)), (1, .int a1), (2, .int a2)]) hx hb dX9_high_7 rfl hl (by decide) rfl (fun ls hl => ?_)
    refine lv_iload_n hx hb dX9_high_8 rfl (lv_at hl 0 rfl) ?_
    refine lv_if_eq (tgt := 15) hx hb dX9_high_9 (by decide) (fun c_284 => absurd c_284 (by decide)) (fun _ => ?_)
    refine lv_iload_n hx hb dX9_high_12 rfl (lv_at hl 0 rfl) ?_
    refine lv_i2l (v := (-4)) hx hb dX9_high_13 (by decide +kernel) ?_
    have z_0 := Int32.le_iff_toInt_le.mp (Int32.not_lt.mp c_58)
    have z_1 := Int32.lt_iff_toInt_lt.mp (Int32.not_le.mp c_59)
    have z_2 := Int32.le_iff_toInt_le.mp (Int32.not_lt.mp c_60)
    have z_3 := Int32.lt_iff_toInt_lt.mp (Int32.not_le.mp c_61)
    have z_4 := congrArg Int32.toInt c_62
    have z_5 := Int32.le_iff_toInt_le.mp c_63
    have z_6 := Int32.lt_iff_toInt_lt.mp c_64
    have k_0 : (0 : Int32).toInt = 0 := (by decide)
    have k_1 : (1 : Int32).toInt = 1 := (by decide)
    have k_4 : (4 : Int32).toInt = 4 := (by decide)
    exfalso
    have g_0 := hf0
    exact absurd (g_65.trans g_0) (by decide)
  · have hP : va_P V.1 vwCl [(y 3, aI V 4 fy3), (y 9, aI V 900 fy9), (y 19, .inr (4, o4_rrrrrr (y 2) (y 20) (y 21) (y 22) (y 23) (y 24))), (y 20, aI V 2000 fy20), (y 21, aI V 6 fy21), (y 22, aI V 64 fy22), (y 0, .inr (9, o9_rirrrrrrrrnviii (y 1) py0_1 (y 2) (y 10) (y 19) (y 25) (y 26) (y 30) (y 31) (y 32) o11 py0_12 py0_13 py0_14)), (y 2, .inr (1, o1_iiiiiirrrrrrriiiii py2_0 py2_1 py2_2 py2_3 py2_4 py2_5 (y 3) (y 4) (y 5) (y 6) (y 7) (y 8) (y 9) py2_13 py2_14 py2_15 py2_16 py2_17)), (y 30, aT V 4 (va_up (va_up (va_up (va_up (fun _ => none) 0 (some (y 33))) 1 (some (y 35))) 2 (some (y 37))) 3 (some (y 39)))), (y 33, .inr (7, o7_rii (y 34) py33_1 py33_2)), (y 34, aJ V 40 fy34), (y 35, .inr (7, o7_rii (y 36) py35_1 py35_2)), (y 36, aJ V 40 fy36), (y 37, .inr (7, o7_rii (y 38) py37_1 py37_2)), (y 38, aJ V 40 fy38), (y 39, .inr (7, o7_rii (y 40) py39_1 py39_2)), (y 40, aJ V 40 fy40)] H := hP
    have hD := cpD hP hD
    have b_285 : iv 0 2147483647 a2 := iv_e2 (Int32.not_lt.mp c_68) (iv_c (0 : Int32) (a := 0) (b := 0) (by decide)) (iv_top a2) (by first | decide | omega)
    have b_286 : iv 0 3 a2 := iv_l1 (Int32.not_le.mp c_69) b_285 bpy2_1 (by first | decide | omega)
    have b_287 : iv 1 4 py2_1 := iv_l2 (Int32.not_le.mp c_69) b_285 bpy2_1 (by first | decide | omega)
    have b_288 : iv 1 1 a1 := iv_q c_70 (iv_c (1 : Int32) (a := 1) (b := 1) (by decide))
    have b_289 : iv 0 40 py35_1 := iv_e2 c_71 (iv_c (0 : Int32) (a := 0) (b := 0) (by decide)) bpy35_1 (by first | decide | omega)
    have b_290 : iv 1 40 py35_1 := iv_e2 (Int32.not_lt.mp c_72) (iv_c (1 : Int32) (a := 1) (b := 1) (by decide)) b_289 (by first | decide | omega)
    have b_291 : iv 1 8 py35_1 := iv_e1 c_73 b_290 (iv_c (8 : Int32) (a := 8) (b := 8) (by decide)) (by first | decide | omega)
    refine lv_istore_n (lv' := [(3, .int 0), (0, .ref (y 0)), (1, .int a1), (2, .int a2)]) hx hb dX9_high_7 rfl hl (by decide) rfl (fun ls hl => ?_)
    refine lv_iload_n hx hb dX9_high_8 rfl (lv_at hl 0 rfl) ?_
    refine lv_if_eq (tgt := 15) hx hb dX9_high_9 (by decide) (fun _ => ?_) (fun c_293 => absurd c_293 (by decide))
    refine lv_aload_n hx hb dX9_high_15 rfl (lv_at hl 1 rfl) ?_
    refine lv_aload_n hx hb dX9_high_16 rfl (lv_at hl 1 rfl) ?_
    refine va_get (ci := 9) (v := .ref (y 30)) (C := RX9) (T := TX9) (N := 15) hx hb hg inX9 hown hK hP 6 rfl rfl 7 (by decide) (hg _ q_2_43) (fun _ h9 => h9) rfl dX9_high_17 ?_
    refine lv_iload_n hx hb dX9_high_20 rfl (lv_at hl 2 rfl) ?_
    have c_294 : a1 = 1 := by have q9 := b_288; unfold iv at q9; simp only [tI_eq, (by decide : (1 : Int32).toInt = 1)]; omega
    rcases c_294 with rfl
    · refine va_aldq hx hb hK hP 8 4 rfl rfl (vin (by decide +kernel)) dX9_high_21 ?_
      refine W.eq (g2 := F0 m 22 ls (.ref (y 35) :: .ref (y 0) :: [])) rfl ?_
      refine va_get (ci := 7) (v := .int py35_1) (C := RX7) (T := TX7) (N := 3) hx hb hg inX7 hown hK hP 11 rfl rfl 1 (by decide) (hg _ q_2_2) (fun _ h9 => h9) rfl dX9_high_22 ?_
      refine jnR (wr := [(y 30, aT V 4 (va_up (va_up (va_up (va_up (fun _ => none) 0 (some (y 33))) 1 (some (y 35))) 2 (some (y 37))) 3 (some (y 39)))), (y 33, .inr (7, o7_rii (y 34) py33_1 py33_2)), (y 34, aJ V 40 fy34), (y 35, .inr (7, o7_rii (y 36) py35_1 py35_2)), (y 36, aJ V 40 fy36), (y 37, .inr (7, o7_rii (y 38) py37_1 py37_2)), (y 38, aJ V 40 fy38), (y 39, .inr (7, o7_rii (y 40) py39_1 py39_2)), (y 40, aJ V 40 fy40)]) (rnV (rest := []) ⟨hx, hb, hml, hown, hg⟩ (k_X9_waysFromNow_1 l V y D9 py35_1 fy3 fy9 fy20 fy21 fy22 py0_1 o11 py0_12 py0_13 py0_14 py2_0 py2_1 py2_2 py2_3 py2_4 py2_5 py2_13 py2_14 py2_15 py2_16 py2_17 tfy20 bpy0_1 bpy0_12 bpy0_13 (iv_w b_287 (by first | decide | omega)) bpy2_2 bpy2_3 bpy2_4 bpy2_5 bpy2_13 bpy2_14 bpy2_15 bpy2_16 bpy2_17 hL9 hK9) mt_X9_waysFromNow q_4_52 ⟨Nat.le_of_ble_eq_true rfl, Nat.le_of_ble_eq_true rfl⟩ hK hP hD hS hA hE [0, 1, 2, 3, 4, 5, 6, 7] rfl rfl 6 rfl rfl rfl rfl hl.1 rfl (Nat.le_of_ble_eq_true rfl) dX9_high_25 ⟨Nat.le_of_ble_eq_true rfl, Nat.le_of_ble_eq_true rfl⟩) hP hD hS hA [0, 1, 2, 3, 4, 5, 6, 7] [8, 9, 10, 11, 12, 13, 14, 15, 16] rfl rfl rfl (by decide) (fun r_295 w H locs hw hP hD hS => ?_)
      refine W.widen (k := 10) (n := 46481) (Nat.le_of_ble_eq_true rfl) (Nat.le_of_ble_eq_true rfl) ?_
      obtain ⟨n, L, Yw, wa_296, wb_297, f_298, f_299, f_300, v_301, v_302, v_303, v_304, v_305, v_306, f_307, f_308, f_309, f_310, f_311, f_312, f_313, f_314, f_315, hn, hL, tf_298, bv_301, bv_302, bv_303, bv_304, bv_305, bv_306, tf_307, tf_310, tf_311, tf_312, tf_313, eW, g_316, g_317, g_318, g_319, g_320, kn_321, rfl⟩ := hw
      have hP : va_P V.1 vwCl [(y 30, aT V 4 (va_up (va_up (va_up (va_up (fun _ => none) 0 (some (y 33))) 1 (some (y 35))) 2 (some (y 37))) 3 (some (y 39)))), (y 33, .inr (7, o7_rii (y 34) py33_1 py33_2)), (y 34, aJ V 40 fy34), (y 35, .inr (7, o7_rii (y 36) py35_1 py35_2)), (y 36, aJ V 40 fy36), (y 37, .inr (7, o7_rii (y 38) py37_1 py37_2)), (y 38, aJ V 40 fy38), (y 39, .inr (7, o7_rii (y 40) py39_1 py39_2)), (y 40, aJ V 40 fy40), (y 3, aI V 4 fy3), (y 9, aI V 900 fy9), (y 19, .inr (4, o4_rrrrrr (y 2) (y 20) (y 21) (y 22) (y 23) (y 24))), (y 20, aI V 2000 f_298), (y 21, aI V 6 f_299), (y 22, aI V 64 f_300), (y 0, .inr (9, o9_rirrrrrrrrrviii (y 1) py0_1 (y 2) (y 10) (y 19) (y 25) (y 26) (y 30) (y 31) (y 32) (Yw 0) o11 py0_12 py0_13 py0_14)), (y 2, .inr (1, o1_iiiiiirrrrrrriiiii py2_0 py2_1 py2_2 py2_3 py2_4 py2_5 (y 3) (y 4) (y 5) (y 6) (y 7) (y 8) (y 9) py2_13 py2_14 py2_15 py2_16 py2_17)), (Yw 0, .inr (8, o8_iirrriirrrrrrriii v_301 (nI n) (Yw 1) (Yw 2) wa_296 v_302 v_303 (y 19) (Yw 4) (Yw 5) (Yw 6) (Yw 7) (Yw 8) wb_297 v_304 v_305 v_306)), (Yw 1, aI V n f_307), (Yw 2, aI V n f_308), (wa_296, aI V n f_309), (Yw 4, aI V L f_310), (Yw 5, aI V n f_311), (Yw 6, aI V (n * 4) f_312), (Yw 7, aI V n f_313), (Yw 8, aI V 4 f_314), (wb_297, aI V n f_315)] H := hP
      have hD := cpD hP hD
      rw [← eW]
      refine lv_astore (lv' := [(4, .ref (Yw 0)), (3, .int 0), (0, .ref (y 0)), (1, .int 1), (2, .int a2)]) hx hb dX9_high_28 hl (by decide) rfl (fun ls hl => ?_)
      refine lv_aload hx hb dX9_high_30 (lv_at hl 0 rfl) ?_
      refine lv_aload_n hx hb dX9_high_32 rfl (lv_at hl 2 rfl) ?_
      refine va_get (ci := 9) (v := .ref (y 30)) (C := RX9) (T := TX9) (N := 15) hx hb hg inX9 hown hK hP 15 rfl rfl 7 (by decide) (hg _ q_2_43) (fun _ h9 => h9) rfl dX9_high_33 ?_
      refine lv_iload_n hx hb dX9_high_36 rfl (lv_at hl 3 rfl) ?_
      refine va_aldq hx hb hK hP 0 4 rfl rfl (vin (by decide +kernel)) dX9_high_37 ?_
      refine W.eq (g2 := F0 m 38 ls (.ref (y 35) :: .ref (Yw 0) :: [])) rfl ?_
      refine lv_iload_n hx hb dX9_high_38 rfl (lv_at hl 4 rfl) ?_
      refine jnV (wr := [(y 30, aT V 4 (va_up (va_up (va_up (va_up (fun _ => none) 0 (some (y 33))) 1 (some (y 35))) 2 (some (y 37))) 3 (some (y 39)))), (y 33, .inr (7, o7_rii (y 34) py33_1 py33_2)), (y 34, aJ V 40 fy34), (y 37, .inr (7, o7_rii (y 38) py37_1 py37_2)), (y 38, aJ V 40 fy38), (y 39, .inr (7, o7_rii (y 40) py39_1 py39_2)), (y 40, aJ V 40 fy40), (y 3, aI V 4 fy3), (y 9, aI V 900 fy9), (y 19, .inr (4, o4_rrrrrr (y 2) (y 20) (y 21) (y 22) (y 23) (y 24))), (y 20, aI V 2000 f_298), (y 21, aI V 6 f_299), (y 22, aI V 64 f_300), (y 0, .inr (9, o9_rirrrrrrrrrviii (y 1) py0_1 (y 2) (y 10) (y 19) (y 25) (y 26) (y 30) (y 31) (y 32) (Yw 0) o11 py0_12 py0_13 py0_14)), (y 2, .inr (1, o1_iiiiiirrrrrrriiiii py2_0 py2_1 py2_2 py2_3 py2_4 py2_5 (y 3) (y 4) (y 5) (y 6) (y 7) (y 8) (y 9) py2_13 py2_14 py2_15 py2_16 py2_17)), (Yw 4, aI V L f_310), (Yw 5, aI V n f_311), (Yw 7, aI V n f_313), (Yw 8, aI V 4 f_314)]) (rnV (rest := []) ⟨hx, hb, hml, hown, hg⟩ (k_X8_spreadAsTold_1 l V n L Yw y a2 f_309 f_315 py35_1 py35_2 fy36 v_301 wa_296 v_302 v_303 wb_297 v_304 v_305 v_306 f_307 f_308 f_312 hn hL b_286 (iv_w b_291 (by first | decide | omega)) bv_301 bv_302 bv_303 bv_304 bv_305 bv_306 tf_307 tf_312) mt_X8_spreadAsTold q_5_26 ⟨Nat.le_of_ble_eq_true rfl, Nat.le_of_ble_eq_true rfl⟩ hK hP hD hS hA hE [20, 26, 3, 4, 17, 18, 19, 23] rfl rfl 17 rfl rfl rfl rfl hl.1 rfl (Nat.le_of_ble_eq_true rfl) dX9_high_39 ⟨Nat.le_of_ble_eq_true rfl, Nat.le_of_ble_eq_true rfl⟩) hP hD hS hA [20, 26, 3, 4, 17, 18, 19, 23] [0, 1, 2, 5, 6, 7, 8, 9, 10, 11, 12, 13, 14, 15, 16, 21, 22, 24, 25] rfl rfl rfl (by decide) (fun  w H locs hw hP hD hS => ?_)
      obtain ⟨f_322, f_323, wa_324, wb_325, rfl⟩ := hw
      have hP : va_P V.1 vwCl [(y 30, aT V 4 (va_up (va_up (va_up (va_up (fun _ => none) 0 (some (y 33))) 1 (some (y 35))) 2 (some (y 37))) 3 (some (y 39)))), (y 33, .inr (7, o7_rii (y 34) py33_1 py33_2)), (y 34, aJ V 40 fy34), (y 37, .inr (7, o7_rii (y 38) py37_1 py37_2)), (y 38, aJ V 40 fy38), (y 39, .inr (7, o7_rii (y 40) py39_1 py39_2)), (y 40, aJ V 40 fy40), (y 3, aI V 4 fy3), (y 9, aI V 900 fy9), (y 19, .inr (4, o4_rrrrrr (y 2) (y 20) (y 21) (y 22) (y 23) (y 24))), (y 20, aI V 2000 f_298), (y 21, aI V 6 f_299), (y 22, aI V 64 f_300), (y 0, .inr (9, o9_rirrrrrrrrrviii (y 1) py0_1 (y 2) (y 10) (y 19) (y 25) (y 26) (y 30) (y 31) (y 32) (Yw 0) o11 py0_12 py0_13 py0_14)), (y 2, .inr (1, o1_iiiiiirrrrrrriiiii py2_0 py2_1 py2_2 py2_3 py2_4 py2_5 (y 3) (y 4) (y 5) (y 6) (y 7) (y 8) (y 9) py2_13 py2_14 py2_15 py2_16 py2_17)), (Yw 4, aI V L f_310), (Yw 5, aI V n f_311), (Yw 7, aI V n f_313), (Yw 8, aI V 4 f_314), (wa_324, aI V n f_322), (wb_325, aI V n f_323), (y 35, .inr (7, o7_rii (y 36) py35_1 py35_2)), (y 36, aJ V 40 fy36), (Yw 0, .inr (8, o8_iirrriirrrrrrriii v_301 (nI n) (Yw 1) (Yw 2) wa_324 v_302 v_303 (y 19) (Yw 4) (Yw 5) (Yw 6) (Yw 7) (Yw 8) wb_325 v_304 v_305 v_306)), (Yw 1, aI V n f_307), (Yw 2, aI V n f_308), (Yw 6, aI V (n * 4) f_312)] H := hP
      have hD := cpD hP hD
      refine lv_aload hx hb dX9_high_42 (lv_at hl 0 rfl) ?_
      refine lv_iload_n hx hb dX9_high_44 rfl (lv_at hl 4 rfl) ?_
      refine lv_iconst (v := 0) hx hb dX9_high_45 (by decide) ?_
      refine lv_iconst (v := 4) hx hb dX9_high_46 (by decide) ?_
      refine jnI (wr := [(y 30, aT V 4 (va_up (va_up (va_up (va_up (fun _ => none) 0 (some (y 33))) 1 (some (y 35))) 2 (some (y 37))) 3 (some (y 39)))), (y 33, .inr (7, o7_rii (y 34) py33_1 py33_2)), (y 34, aJ V 40 fy34), (y 37, .inr (7, o7_rii (y 38) py37_1 py37_2)), (y 38, aJ V 40 fy38), (y 39, .inr (7, o7_rii (y 40) py39_1 py39_2)), (y 40, aJ V 40 fy40), (y 3, aI V 4 fy3), (y 9, aI V 900 fy9), (y 19, .inr (4, o4_rrrrrr (y 2) (y 20) (y 21) (y 22) (y 23) (y 24))), (y 20, aI V 2000 f_298), (y 21, aI V 6 f_299), (y 22, aI V 64 f_300), (y 0, .inr (9, o9_rirrrrrrrrrviii (y 1) py0_1 (y 2) (y 10) (y 19) (y 25) (y 26) (y 30) (y 31) (y 32) (Yw 0) o11 py0_12 py0_13 py0_14)), (y 2, .inr (1, o1_iiiiiirrrrrrriiiii py2_0 py2_1 py2_2 py2_3 py2_4 py2_5 (y 3) (y 4) (y 5) (y 6) (y 7) (y 8) (y 9) py2_13 py2_14 py2_15 py2_16 py2_17)), (Yw 4, aI V L f_310), (Yw 5, aI V n f_311), (Yw 7, aI V n f_313), (Yw 8, aI V 4 f_314), (wb_325, aI V n f_323), (y 35, .inr (7, o7_rii (y 36) py35_1 py35_2)), (y 36, aJ V 40 fy36), (Yw 2, aI V n f_308), (Yw 6, aI V (n * 4) f_312)]) (rnV (rest := []) ⟨hx, hb, hml, hown, hg⟩ (k_X8_weightOf_0 l V n L Yw y a2 0 4 v_301 wa_324 v_302 v_303 wb_325 v_304 v_305 v_306 f_307 f_322 hn hL b_286 bv_301 bv_302 bv_303 bv_304 bv_305 bv_306 tf_307) mt_X8_weightOf q_4_186 ⟨Nat.le_of_ble_eq_true rfl, Nat.le_of_ble_eq_true rfl⟩ hK hP hD hS hA hE [23, 24, 19] rfl rfl 23 rfl rfl rfl rfl hl.1 rfl (Nat.le_of_ble_eq_true rfl) dX9_high_47 ⟨Nat.le_of_ble_eq_true rfl, Nat.le_of_ble_eq_true rfl⟩) hP hD hS hA [23, 24, 19] [0, 1, 2, 3, 4, 5, 6, 7, 8, 9, 10, 11, 12, 13, 14, 15, 16, 17, 18, 20, 21, 22, 25, 26] rfl rfl rfl (by decide) (fun r_326 w H locs hw hP hD hS => ?_)
      subst hw
      have hP : va_P V.1 vwCl [(y 30, aT V 4 (va_up (va_up (va_up (va_up (fun _ => none) 0 (some (y 33))) 1 (some (y 35))) 2 (some (y 37))) 3 (some (y 39)))), (y 33, .inr (7, o7_rii (y 34) py33_1 py33_2)), (y 34, aJ V 40 fy34), (y 37, .inr (7, o7_rii (y 38) py37_1 py37_2)), (y 38, aJ V 40 fy38), (y 39, .inr (7, o7_rii (y 40) py39_1 py39_2)), (y 40, aJ V 40 fy40), (y 3, aI V 4 fy3), (y 9, aI V 900 fy9), (y 19, .inr (4, o4_rrrrrr (y 2) (y 20) (y 21) (y 22) (y 23) (y 24))), (y 20, aI V 2000 f_298), (y 21, aI V 6 f_299), (y 22, aI V 64 f_300), (y 0, .inr (9, o9_rirrrrrrrrrviii (y 1) py0_1 (y 2) (y 10) (y 19) (y 25) (y 26) (y 30) (y 31) (y 32) (Yw 0) o11 py0_12 py0_13 py0_14)), (y 2, .inr (1, o1_iiiiiirrrrrrriiiii py2_0 py2_1 py2_2 py2_3 py2_4 py2_5 (y 3) (y 4) (y 5) (y 6) (y 7) (y 8) (y 9) py2_13 py2_14 py2_15 py2_16 py2_17)), (Yw 4, aI V L f_310), (Yw 5, aI V n f_311), (Yw 7, aI V n f_313), (Yw 8, aI V 4 f_314), (wb_325, aI V n f_323), (y 35, .inr (7, o7_rii (y 36) py35_1 py35_2)), (y 36, aJ V 40 fy36), (Yw 2, aI V n f_308), (Yw 6, aI V (n * 4) f_312), (Yw 0, .inr (8, o8_iirrriirrrrrrriii v_301 (nI n) (Yw 1) (Yw 2) wa_324 v_302 v_303 (y 19) (Yw 4) (Yw 5) (Yw 6) (Yw 7) (Yw 8) wb_325 v_304 v_305 v_306)), (Yw 1, aI V n f_307), (wa_324, aI V n f_322)] H := hP
      have hD := cpD hP hD
      refine lv_i2l hx hb dX9_high_50 rfl ?_
      refine lv_topl (fun j_327 ej_327 => ?_)
      have hP := subP (ws' := [(y 0, .inr (9, o9_rirrrrrrrrrviii (y 1) py0_1 (y 2) (y 10) (y 19) (y 25) (y 26) (y 30) (y 31) (y 32) (Yw 0) o11 py0_12 py0_13 py0_14)), (y 2, .inr (1, o1_iiiiiirrrrrrriiiii py2_0 py2_1 py2_2 py2_3 py2_4 py2_5 (y 3) (y 4) (y 5) (y 6) (y 7) (y 8) (y 9) py2_13 py2_14 py2_15 py2_16 py2_17)), (y 3, aI V 4 fy3), (y 9, aI V 900 fy9), (y 19, .inr (4, o4_rrrrrr (y 2) (y 20) (y 21) (y 22) (y 23) (y 24))), (y 20, aI V 2000 f_298), (y 21, aI V 6 f_299), (y 22, aI V 64 f_300), (y 30, aT V 4 (va_up (va_up (va_up (va_up (fun _ => none) 0 (some (y 33))) 1 (some (y 35))) 2 (some (y 37))) 3 (some (y 39)))), (y 33, .inr (7, o7_rii (y 34) py33_1 py33_2)), (y 34, aJ V 40 fy34), (y 35, .inr (7, o7_rii (y 36) py35_1 py35_2)), (y 36, aJ V 40 fy36), (y 37, .inr (7, o7_rii (y 38) py37_1 py37_2)), (y 38, aJ V 40 fy38), (y 39, .inr (7, o7_rii (y 40) py39_1 py39_2)), (y 40, aJ V 40 fy40), (Yw 4, aI V L f_310), (Yw 5, aI V n f_311), (Yw 7, aI V n f_313), (Yw 8, aI V 4 f_314), (wb_325, aI V n f_323), (Yw 2, aI V n f_308), (Yw 6, aI V (n * 4) f_312), (Yw 0, .inr (8, o8_iirrriirrrrrrriii v_301 (nI n) (Yw 1) (Yw 2) wa_324 v_302 v_303 (y 19) (Yw 4) (Yw 5) (Yw 6) (Yw 7) (Yw 8) wb_325 v_304 v_305 v_306)), (Yw 1, aI V n f_307), (wa_324, aI V n f_322)]) hP [13, 14, 7, 8, 9, 10, 11, 12, 0, 1, 2, 20, 21, 3, 4, 5, 6, 15, 16, 17, 18, 19, 22, 23, 24, 25, 26] rfl
      have hD := subD hP hD [13, 14, 7, 8, 9, 10, 11, 12, 0, 1, 2, 20, 21, 3, 4, 5, 6, 15, 16, 17, 18, 19, 22, 23, 24, 25, 26] rfl rfl
      exact fiL hx hb hr hlk hK (subP (ws' := [(y 0, .inr (9, o9_rirrrrrrrrrviii (y 1) py0_1 (y 2) (y 10) (y 19) (y 25) (y 26) (y 30) (y 31) (y 32) (Yw 0) o11 py0_12 py0_13 py0_14)), (y 2, .inr (1, o1_iiiiiirrrrrrriiiii py2_0 py2_1 py2_2 py2_3 py2_4 py2_5 (y 3) (y 4) (y 5) (y 6) (y 7) (y 8) (y 9) py2_13 py2_14 py2_15 py2_16 py2_17)), (y 3, aI V 4 fy3), (y 9, aI V 900 fy9), (y 19, .inr (4, o4_rrrrrr (y 2) (y 20) (y 21) (y 22) (y 23) (y 24))), (y 20, aI V 2000 f_298), (y 21, aI V 6 f_299), (y 22, aI V 64 f_300), (y 30, aT V 4 (va_up (va_up (va_up (va_up (fun _ => none) 0 (some (y 33))) 1 (some (y 35))) 2 (some (y 37))) 3 (some (y 39)))), (y 33, .inr (7, o7_rii (y 34) py33_1 py33_2)), (y 34, aJ V 40 fy34), (y 35, .inr (7, o7_rii (y 36) py35_1 py35_2)), (y 36, aJ V 40 fy36), (y 37, .inr (7, o7_rii (y 38) py37_1 py37_2)), (y 38, aJ V 40 fy38), (y 39, .inr (7, o7_rii (y 40) py39_1 py39_2)), (y 40, aJ V 40 fy40), (Yw 0, .inr (8, o8_iirrriirrrrrrriii v_301 (nI n) (Yw 1) (Yw 2) wa_324 v_302 v_303 (y 19) (Yw 4) (Yw 5) (Yw 6) (Yw 7) (Yw 8) wb_325 v_304 v_305 v_306)), (Yw 1, aI V n f_307), (Yw 2, aI V n f_308), (wa_324, aI V n f_322), (Yw 4, aI V L f_310), (Yw 5, aI V n f_311), (Yw 6, aI V (n * 4) f_312), (Yw 7, aI V n f_313), (Yw 8, aI V 4 f_314), (wb_325, aI V n f_323)]) hP [0, 1, 2, 3, 4, 5, 6, 7, 8, 9, 10, 11, 12, 13, 14, 15, 16, 24, 25, 22, 26, 17, 18, 23, 19, 20, 21] rfl) (hD.sub [0, 1, 2, 3, 4, 5, 6, 7, 8, 9, 10, 11, 12, 13, 14, 15, 16, 24, 25, 22, 26, 17, 18, 23, 19, 20, 21] rfl rfl) hS dX9_high_51 (Nat.le_of_ble_eq_true rfl) (Nat.le_of_ble_eq_true rfl) (⟨n, L, Yw, wa_324, wb_325, f_298, f_299, f_300, v_301, v_302, v_303, v_304, v_305, v_306, f_307, f_308, f_322, f_310, f_311, f_312, f_313, f_314, f_323, hn, hL, tf_298, bv_301, bv_302, bv_303, bv_304, bv_305, bv_306, tf_307, tf_310, tf_311, tf_312, tf_313, g_316, g_317, g_318, g_320, kn_321, rfl⟩)
  · have hP : va_P V.1 vwCl [(y 3, aI V 4 fy3), (y 9, aI V 900 fy9), (y 19, .inr (4, o4_rrrrrr (y 2) (y 20) (y 21) (y 22) (y 23) (y 24))), (y 20, aI V 2000 fy20), (y 21, aI V 6 fy21), (y 22, aI V 64 fy22), (y 0, .inr (9, o9_rirrrrrrrrnviii (y 1) py0_1 (y 2) (y 10) (y 19) (y 25) (y 26) (y 30) (y 31) (y 32) o11 py0_12 py0_13 py0_14)), (y 2, .inr (1, o1_iiiiiirrrrrrriiiii py2_0 py2_1 py2_2 py2_3 py2_4 py2_5 (y 3) (y 4) (y 5) (y 6) (y 7) (y 8) (y 9) py2_13 py2_14 py2_15 py2_16 py2_17)), (y 30, aT V 4 (va_up (va_up (va_up (va_up (fun _ => none) 0 (some (y 33))) 1 (some (y 35))) 2 (some (y 37))) 3 (some (y 39)))), (y 33, .inr (7, o7_rii (y 34) py33_1 py33_2)), (y 34, aJ V 40 fy34), (y 35, .inr (7, o7_rii (y 36) py35_1 py35_2)), (y 36, aJ V 40 fy36), (y 37, .inr (7, o7_rii (y 38) py37_1 py37_2)), (y 38, aJ V 40 fy38), (y 39, .inr (7, o7_rii (y 40) py39_1 py39_2)), (y 40, aJ V 40 fy40)] H := hP
    have hD := cpD hP hD
    have b_328 : iv 0 2147483647 a2 := iv_e2 (Int32.not_lt.mp c_77) (iv_c (0 : Int32) (a := 0) (b := 0) (by decide)) (iv_top a2) (by first | decide | omega)
    have b_329 : iv 0 3 a2 := iv_l1 (Int32.not_le.mp c_78) b_328 bpy2_1 (by first | decide | omega)
    have b_330 : iv 1 4 py2_1 := iv_l2 (Int32.not_le.mp c_78) b_328 bpy2_1 (by first | decide | omega)
    have b_331 : iv 1 1 a1 := iv_q c_79 (iv_c (1 : Int32) (a := 1) (b := 1) (by decide))
    have b_332 : iv 0 40 py35_1 := iv_e2 c_80 (iv_c (0 : Int32) (a := 0) (b := 0) (by decide)) bpy35_1 (by first | decide | omega)
    have b_333 : iv 1 40 py35_1 := iv_e2 (Int32.not_lt.mp c_81) (iv_c (1 : Int32) (a := 1) (b := 1) (by decide)) b_332 (by first | decide | omega)
    have b_334 : iv 1 8 py35_1 := iv_e1 c_82 b_333 (iv_c (8 : Int32) (a := 8) (b := 8) (by decide)) (by first | decide | omega)
    refine lv_istore_n (lv' := [(3, .int (-3)), (0, .ref (y 0)), (1, .int a1), (2, .int a2)]) hx hb dX9_high_7 rfl hl (by decide) rfl (fun ls hl => ?_)
    refine lv_iload_n hx hb dX9_high_8 rfl (lv_at hl 0 rfl) ?_
    refine lv_if_eq (tgt := 15) hx hb dX9_high_9 (by decide) (fun c_336 => absurd c_336 (by decide)) (fun _ => ?_)
    refine lv_iload_n hx hb dX9_high_12 rfl (lv_at hl 0 rfl) ?_
    refine lv_i2l (v := (-3)) hx hb dX9_high_13 (by decide +kernel) ?_
    have z_0 := Int32.le_iff_toInt_le.mp (Int32.not_lt.mp c_75)
    have z_1 := Int32.lt_iff_toInt_lt.mp (Int32.not_le.mp c_76)
    have z_2 := Int32.le_iff_toInt_le.mp (Int32.not_lt.mp c_77)
    have z_3 := Int32.lt_iff_toInt_lt.mp (Int32.not_le.mp c_78)
    have z_4 := congrArg Int32.toInt c_79
    have z_5 := Int32.le_iff_toInt_le.mp c_80
    have z_6 := Int32.le_iff_toInt_le.mp (Int32.not_lt.mp c_81)
    have z_7 := Int32.le_iff_toInt_le.mp c_82
    have k_0 : (0 : Int32).toInt = 0 := (by decide)
    have k_1 : (1 : Int32).toInt = 1 := (by decide)
    have k_4 : (4 : Int32).toInt = 4 := (by decide)
    have k_8 : (8 : Int32).toInt = 8 := (by decide)
    exfalso
    have g_0 := hf0
    exact absurd (g_83.trans g_0) (by decide)
  · have hP : va_P V.1 vwCl [(y 3, aI V 4 fy3), (y 9, aI V 900 fy9), (y 19, .inr (4, o4_rrrrrr (y 2) (y 20) (y 21) (y 22) (y 23) (y 24))), (y 20, aI V 2000 fy20), (y 21, aI V 6 fy21), (y 22, aI V 64 fy22), (y 0, .inr (9, o9_rirrrrrrrrnviii (y 1) py0_1 (y 2) (y 10) (y 19) (y 25) (y 26) (y 30) (y 31) (y 32) o11 py0_12 py0_13 py0_14)), (y 2, .inr (1, o1_iiiiiirrrrrrriiiii py2_0 py2_1 py2_2 py2_3 py2_4 py2_5 (y 3) (y 4) (y 5) (y 6) (y 7) (y 8) (y 9) py2_13 py2_14 py2_15 py2_16 py2_17)), (y 30, aT V 4 (va_up (va_up (va_up (va_up (fun _ => none) 0 (some (y 33))) 1 (some (y 35))) 2 (some (y 37))) 3 (some (y 39)))), (y 33, .inr (7, o7_rii (y 34) py33_1 py33_2)), (y 34, aJ V 40 fy34), (y 35, .inr (7, o7_rii (y 36) py35_1 py35_2)), (y 36, aJ V 40 fy36), (y 37, .inr (7, o7_rii (y 38) py37_1 py37_2)), (y 38, aJ V 40 fy38), (y 39, .inr (7, o7_rii (y 40) py39_1 py39_2)), (y 40, aJ V 40 fy40)] H := hP
    have hD := cpD hP hD
    have b_337 : iv 0 2147483647 a2 := iv_e2 (Int32.not_lt.mp c_86) (iv_c (0 : Int32) (a := 0) (b := 0) (by decide)) (iv_top a2) (by first | decide | omega)
    have b_338 : iv 0 3 a2 := iv_l1 (Int32.not_le.mp c_87) b_337 bpy2_1 (by first | decide | omega)
    have b_339 : iv 1 4 py2_1 := iv_l2 (Int32.not_le.mp c_87) b_337 bpy2_1 (by first | decide | omega)
    have b_340 : iv 1 1 a1 := iv_q c_88 (iv_c (1 : Int32) (a := 1) (b := 1) (by decide))
    have b_341 : iv 0 40 py35_1 := iv_e2 c_89 (iv_c (0 : Int32) (a := 0) (b := 0) (by decide)) bpy35_1 (by first | decide | omega)
    have b_342 : iv 1 40 py35_1 := iv_e2 (Int32.not_lt.mp c_90) (iv_c (1 : Int32) (a := 1) (b := 1) (by decide)) b_341 (by first | decide | omega)
    have b_343 : iv 9 40 py35_1 := iv_l2 (Int32.not_le.mp c_91) (iv_c (8 : Int32) (a := 8) (b := 8) (by decide)) b_342 (by first | decide | omega)
    refine lv_istore_n (lv' := [(3, .int (-4)), (0, .ref (y 0)), (1, .int a1), (2, .int a2)]) hx hb dX9_high_7 rfl hl (by decide) rfl (fun ls hl => ?_)
    refine lv_iload_n hx hb dX9_high_8 rfl (lv_at hl 0 rfl) ?_
    refine lv_if_eq (tgt := 15) hx hb dX9_high_9 (by decide) (fun c_345 => absurd c_345 (by decide)) (fun _ => ?_)
    refine lv_iload_n hx hb dX9_high_12 rfl (lv_at hl 0 rfl) ?_
    refine lv_i2l (v := (-4)) hx hb dX9_high_13 (by decide +kernel) ?_
    have z_0 := Int32.le_iff_toInt_le.mp (Int32.not_lt.mp c_84)
    have z_1 := Int32.lt_iff_toInt_lt.mp (Int32.not_le.mp c_85)
    have z_2 := Int32.le_iff_toInt_le.mp (Int32.not_lt.mp c_86)
    have z_3 := Int32.lt_iff_toInt_lt.mp (Int32.not_le.mp c_87)
    have z_4 := congrArg Int32.toInt c_88
    have z_5 := Int32.le_iff_toInt_le.mp c_89
    have z_6 := Int32.le_iff_toInt_le.mp (Int32.not_lt.mp c_90)
    have z_7 := Int32.lt_iff_toInt_lt.mp (Int32.not_le.mp c_91)
    have k_0 : (0 : Int32).toInt = 0 := (by decide)
    have k_1 : (1 : Int32).toInt = 1 := (by decide)
    have k_4 : (4 : Int32).toInt = 4 := (by decide)
    have k_8 : (8 : Int32).toInt = 8 := (by decide)
    exfalso
    have g_0 := hf0
    exact absurd (g_92.trans g_0) (by decide)
  · have hP : va_P V.1 vwCl [(y 3, aI V 4 fy3), (y 9, aI V 900 fy9), (y 19, .inr (4, o4_rrrrrr (y 2) (y 20) (y 21) (y 22) (y 23) (y 24))), (y 20, aI V 2000 fy20), (y 21, aI V 6 fy21), (y 22, aI V 64 fy22), (y 0, .inr (9, o9_rirrrrrrrrnviii (y 1) py0_1 (y 2) (y 10) (y 19) (y 25) (y 26) (y 30) (y 31) (y 32) o11 py0_12 py0_13 py0_14)), (y 2, .inr (1, o1_iiiiiirrrrrrriiiii py2_0 py2_1 py2_2 py2_3 py2_4 py2_5 (y 3) (y 4) (y 5) (y 6) (y 7) (y 8) (y 9) py2_13 py2_14 py2_15 py2_16 py2_17)), (y 30, aT V 4 (va_up (va_up (va_up (va_up (fun _ => none) 0 (some (y 33))) 1 (some (y 35))) 2 (some (y 37))) 3 (some (y 39)))), (y 33, .inr (7, o7_rii (y 34) py33_1 py33_2)), (y 34, aJ V 40 fy34), (y 35, .inr (7, o7_rii (y 36) py35_1 py35_2)), (y 36, aJ V 40 fy36), (y 37, .inr (7, o7_rii (y 38) py37_1 py37_2)), (y 38, aJ V 40 fy38), (y 39, .inr (7, o7_rii (y 40) py39_1 py39_2)), (y 40, aJ V 40 fy40)] H := hP
    have hD := cpD hP hD
    have b_346 : iv 0 2147483647 a2 := iv_e2 (Int32.not_lt.mp c_95) (iv_c (0 : Int32) (a := 0) (b := 0) (by decide)) (iv_top a2) (by first | decide | omega)
    have b_347 : iv 0 3 a2 := iv_l1 (Int32.not_le.mp c_96) b_346 bpy2_1 (by first | decide | omega)
    have b_348 : iv 1 4 py2_1 := iv_l2 (Int32.not_le.mp c_96) b_346 bpy2_1 (by first | decide | omega)
    have b_349 : iv 1 1 a1 := iv_q c_97 (iv_c (1 : Int32) (a := 1) (b := 1) (by decide))
    have b_350 : iv (-1) (-1) py35_1 := iv_l1 (Int32.not_le.mp c_98) bpy35_1 (iv_c (0 : Int32) (a := 0) (b := 0) (by decide)) (by first | decide | omega)
    refine lv_istore_n (lv' := [(3, .int (-6)), (0, .ref (y 0)), (1, .int a1), (2, .int a2)]) hx hb dX9_high_7 rfl hl (by decide) rfl (fun ls hl => ?_)
    refine lv_iload_n hx hb dX9_high_8 rfl (lv_at hl 0 rfl) ?_
    refine lv_if_eq (tgt := 15) hx hb dX9_high_9 (by decide) (fun c_352 => absurd c_352 (by decide)) (fun _ => ?_)
    refine lv_iload_n hx hb dX9_high_12 rfl (lv_at hl 0 rfl) ?_
    refine lv_i2l (v := (-6)) hx hb dX9_high_13 (by decide +kernel) ?_
    have z_0 := Int32.le_iff_toInt_le.mp (Int32.not_lt.mp c_93)
    have z_1 := Int32.lt_iff_toInt_lt.mp (Int32.not_le.mp c_94)
    have z_2 := Int32.le_iff_toInt_le.mp (Int32.not_lt.mp c_95)
    have z_3 := Int32.lt_iff_toInt_lt.mp (Int32.not_le.mp c_96)
    have z_4 := congrArg Int32.toInt c_97
    have z_5 := Int32.lt_iff_toInt_lt.mp (Int32.not_le.mp c_98)
    have k_0 : (0 : Int32).toInt = 0 := (by decide)
    have k_1 : (1 : Int32).toInt = 1 := (by decide)
    have k_4 : (4 : Int32).toInt = 4 := (by decide)
    exfalso
    have g_0 := hf0
    exact absurd (g_99.trans g_0) (by decide)
  · have hP : va_P V.1 vwCl [(y 3, aI V 4 fy3), (y 9, aI V 900 fy9), (y 19, .inr (4, o4_rrrrrr (y 2) (y 20) (y 21) (y 22) (y 23) (y 24))), (y 20, aI V 2000 fy20), (y 21, aI V 6 fy21), (y 22, aI V 64 fy22), (y 0, .inr (9, o9_rirrrrrrrrnviii (y 1) py0_1 (y 2) (y 10) (y 19) (y 25) (y 26) (y 30) (y 31) (y 32) o11 py0_12 py0_13 py0_14)), (y 2, .inr (1, o1_iiiiiirrrrrrriiiii py2_0 py2_1 py2_2 py2_3 py2_4 py2_5 (y 3) (y 4) (y 5) (y 6) (y 7) (y 8) (y 9) py2_13 py2_14 py2_15 py2_16 py2_17)), (y 30, aT V 4 (va_up (va_up (va_up (va_up (fun _ => none) 0 (some (y 33))) 1 (some (y 35))) 2 (some (y 37))) 3 (some (y 39)))), (y 33, .inr (7, o7_rii (y 34) py33_1 py33_2)), (y 34, aJ V 40 fy34), (y 35, .inr (7, o7_rii (y 36) py35_1 py35_2)), (y 36, aJ V 40 fy36), (y 37, .inr (7, o7_rii (y 38) py37_1 py37_2)), (y 38, aJ V 40 fy38), (y 39, .inr (7, o7_rii (y 40) py39_1 py39_2)), (y 40, aJ V 40 fy40)] H := hP
    have hD := cpD hP hD
    have b_353 : iv 0 2147483647 a2 := iv_e2 (Int32.not_lt.mp c_102) (iv_c (0 : Int32) (a := 0) (b := 0) (by decide)) (iv_top a2) (by first | decide | omega)
    have b_354 : iv 0 3 a2 := iv_l1 (Int32.not_le.mp c_103) b_353 bpy2_1 (by first | decide | omega)
    have b_355 : iv 1 4 py2_1 := iv_l2 (Int32.not_le.mp c_103) b_353 bpy2_1 (by first | decide | omega)
    have b_356 : iv 2 2 a1 := iv_q c_104 (iv_c (2 : Int32) (a := 2) (b := 2) (by decide))
    have b_357 : iv 0 40 py37_1 := iv_e2 c_105 (iv_c (0 : Int32) (a := 0) (b := 0) (by decide)) bpy37_1 (by first | decide | omega)
    have b_358 : iv 0 0 py37_1 := iv_l1 c_106 b_357 (iv_c (1 : Int32) (a := 1) (b := 1) (by decide)) (by first | decide | omega)
    refine lv_istore_n (lv' := [(3, .int (-4)), (0, .ref (y 0)), (1, .int a1), (2, .int a2)]) hx hb dX9_high_7 rfl hl (by decide) rfl (fun ls hl => ?_)
    refine lv_iload_n hx hb dX9_high_8 rfl (lv_at hl 0 rfl) ?_
    refine lv_if_eq (tgt := 15) hx hb dX9_high_9 (by decide) (fun c_360 => absurd c_360 (by decide)) (fun _ => ?_)
    refine lv_iload_n hx hb dX9_high_12 rfl (lv_at hl 0 rfl) ?_
    refine lv_i2l (v := (-4)) hx hb dX9_high_13 (by decide +kernel) ?_
    have z_0 := Int32.le_iff_toInt_le.mp (Int32.not_lt.mp c_100)
    have z_1 := Int32.lt_iff_toInt_lt.mp (Int32.not_le.mp c_101)
    have z_2 := Int32.le_iff_toInt_le.mp (Int32.not_lt.mp c_102)
    have z_3 := Int32.lt_iff_toInt_lt.mp (Int32.not_le.mp c_103)
    have z_4 := congrArg Int32.toInt c_104
    have z_5 := Int32.le_iff_toInt_le.mp c_105
    have z_6 := Int32.lt_iff_toInt_lt.mp c_106
    have k_0 : (0 : Int32).toInt = 0 := (by decide)
    have k_1 : (1 : Int32).toInt = 1 := (by decide)
    have k_2 : (2 : Int32).toInt = 2 := (by decide)
    have k_4 : (4 : Int32).toInt = 4 := (by decide)
    exfalso
    have g_0 := hf0
    exact absurd (g_107.trans g_0) (by decide)
  · have hP : va_P V.1 vwCl [(y 3, aI V 4 fy3), (y 9, aI V 900 fy9), (y 19, .inr (4, o4_rrrrrr (y 2) (y 20) (y 21) (y 22) (y 23) (y 24))), (y 20, aI V 2000 fy20), (y 21, aI V 6 fy21), (y 22, aI V 64 fy22), (y 0, .inr (9, o9_rirrrrrrrrnviii (y 1) py0_1 (y 2) (y 10) (y 19) (y 25) (y 26) (y 30) (y 31) (y 32) o11 py0_12 py0_13 py0_14)), (y 2, .inr (1, o1_iiiiiirrrrrrriiiii py2_0 py2_1 py2_2 py2_3 py2_4 py2_5 (y 3) (y 4) (y 5) (y 6) (y 7) (y 8) (y 9) py2_13 py2_14 py2_15 py2_16 py2_17)), (y 30, aT V 4 (va_up (va_up (va_up (va_up (fun _ => none) 0 (some (y 33))) 1 (some (y 35))) 2 (some (y 37))) 3 (some (y 39)))), (y 33, .inr (7, o7_rii (y 34) py33_1 py33_2)), (y 34, aJ V 40 fy34), (y 35, .inr (7, o7_rii (y 36) py35_1 py35_2)), (y 36, aJ V 40 fy36), (y 37, .inr (7, o7_rii (y 38) py37_1 py37_2)), (y 38, aJ V 40 fy38), (y 39, .inr (7, o7_rii (y 40) py39_1 py39_2)), (y 40, aJ V 40 fy40)] H := hP
    have hD := cpD hP hD
    have b_361 : iv 0 2147483647 a2 := iv_e2 (Int32.not_lt.mp c_110) (iv_c (0 : Int32) (a := 0) (b := 0) (by decide)) (iv_top a2) (by first | decide | omega)
    have b_362 : iv 0 3 a2 := iv_l1 (Int32.not_le.mp c_111) b_361 bpy2_1 (by first | decide | omega)
    have b_363 : iv 1 4 py2_1 := iv_l2 (Int32.not_le.mp c_111) b_361 bpy2_1 (by first | decide | omega)
    have b_364 : iv 2 2 a1 := iv_q c_112 (iv_c (2 : Int32) (a := 2) (b := 2) (by decide))
    have b_365 : iv 0 40 py37_1 := iv_e2 c_113 (iv_c (0 : Int32) (a := 0) (b := 0) (by decide)) bpy37_1 (by first | decide | omega)
    have b_366 : iv 1 40 py37_1 := iv_e2 (Int32.not_lt.mp c_114) (iv_c (1 : Int32) (a := 1) (b := 1) (by decide)) b_365 (by first | decide | omega)
    have b_367 : iv 1 8 py37_1 := iv_e1 c_115 b_366 (iv_c (8 : Int32) (a := 8) (b := 8) (by decide)) (by first | decide | omega)
    refine lv_istore_n (lv' := [(3, .int 0), (0, .ref (y 0)), (1, .int a1), (2, .int a2)]) hx hb dX9_high_7 rfl hl (by decide) rfl (fun ls hl => ?_)
    refine lv_iload_n hx hb dX9_high_8 rfl (lv_at hl 0 rfl) ?_
    refine lv_if_eq (tgt := 15) hx hb dX9_high_9 (by decide) (fun _ => ?_) (fun c_369 => absurd c_369 (by decide))
    refine lv_aload_n hx hb dX9_high_15 rfl (lv_at hl 1 rfl) ?_
    refine lv_aload_n hx hb dX9_high_16 rfl (lv_at hl 1 rfl) ?_
    refine va_get (ci := 9) (v := .ref (y 30)) (C := RX9) (T := TX9) (N := 15) hx hb hg inX9 hown hK hP 6 rfl rfl 7 (by decide) (hg _ q_2_43) (fun _ h9 => h9) rfl dX9_high_17 ?_
    refine lv_iload_n hx hb dX9_high_20 rfl (lv_at hl 2 rfl) ?_
    have c_370 : a1 = 2 := by have q9 := b_364; unfold iv at q9; simp only [tI_eq, (by decide : (2 : Int32).toInt = 2)]; omega
    rcases c_370 with rfl
    · refine va_aldq hx hb hK hP 8 4 rfl rfl (vin (by decide +kernel)) dX9_high_21 ?_
      refine W.eq (g2 := F0 m 22 ls (.ref (y 37) :: .ref (y 0) :: [])) rfl ?_
      refine va_get (ci := 7) (v := .int py37_1) (C := RX7) (T := TX7) (N := 3) hx hb hg inX7 hown hK hP 13 rfl rfl 1 (by decide) (hg _ q_2_2) (fun _ h9 => h9) rfl dX9_high_22 ?_
      refine jnR (wr := [(y 30, aT V 4 (va_up (va_up (va_up (va_up (fun _ => none) 0 (some (y 33))) 1 (some (y 35))) 2 (some (y 37))) 3 (some (y 39)))), (y 33, .inr (7, o7_rii (y 34) py33_1 py33_2)), (y 34, aJ V 40 fy34), (y 35, .inr (7, o7_rii (y 36) py35_1 py35_2)), (y 36, aJ V 40 fy36), (y 37, .inr (7, o7_rii (y 38) py37_1 py37_2)), (y 38, aJ V 40 fy38), (y 39, .inr (7, o7_rii (y 40) py39_1 py39_2)), (y 40, aJ V 40 fy40)]) (rnV (rest := []) ⟨hx, hb, hml, hown, hg⟩ (k_X9_waysFromNow_1 l V y D9 py37_1 fy3 fy9 fy20 fy21 fy22 py0_1 o11 py0_12 py0_13 py0_14 py2_0 py2_1 py2_2 py2_3 py2_4 py2_5 py2_13 py2_14 py2_15 py2_16 py2_17 tfy20 bpy0_1 bpy0_12 bpy0_13 (iv_w b_363 (by first | decide | omega)) bpy2_2 bpy2_3 bpy2_4 bpy2_5 bpy2_13 bpy2_14 bpy2_15 bpy2_16 bpy2_17 hL9 hK9) mt_X9_waysFromNow q_4_52 ⟨Nat.le_of_ble_eq_true rfl, Nat.le_of_ble_eq_true rfl⟩ hK hP hD hS hA hE [0, 1, 2, 3, 4, 5, 6, 7] rfl rfl 6 rfl rfl rfl rfl hl.1 rfl (Nat.le_of_ble_eq_true rfl) dX9_high_25 ⟨Nat.le_of_ble_eq_true rfl, Nat.le_of_ble_eq_true rfl⟩) hP hD hS hA [0, 1, 2, 3, 4, 5, 6, 7] [8, 9, 10, 11, 12, 13, 14, 15, 16] rfl rfl rfl (by decide) (fun r_371 w H locs hw hP hD hS => ?_)
      refine W.widen (k := 10) (n := 46481) (Nat.le_of_ble_eq_true rfl) (Nat.le_of_ble_eq_true rfl) ?_
      obtain ⟨n, L, Yw, wa_372, wb_373, f_374, f_375, f_376, v_377, v_378, v_379, v_380, v_381, v_382, f_383, f_384, f_385, f_386, f_387, f_388, f_389, f_390, f_391, hn, hL, tf_374, bv_377, bv_378, bv_379, bv_380, bv_381, bv_382, tf_383, tf_386, tf_387, tf_388, tf_389, eW, g_392, g_393, g_394, g_395, g_396, kn_397, rfl⟩ := hw
      have hP : va_P V.1 vwCl [(y 30, aT V 4 (va_up (va_up (va_up (va_up (fun _ => none) 0 (some (y 33))) 1 (some (y 35))) 2 (some (y 37))) 3 (some (y 39)))), (y 33, .inr (7, o7_rii (y 34) py33_1 py33_2)), (y 34, aJ V 40 fy34), (y 35, .inr (7, o7_rii (y 36) py35_1 py35_2)), (y 36, aJ V 40 fy36), (y 37, .inr (7, o7_rii (y 38) py37_1 py37_2)), (y 38, aJ V 40 fy38), (y 39, .inr (7, o7_rii (y 40) py39_1 py39_2)), (y 40, aJ V 40 fy40), (y 3, aI V 4 fy3), (y 9, aI V 900 fy9), (y 19, .inr (4, o4_rrrrrr (y 2) (y 20) (y 21) (y 22) (y 23) (y 24))), (y 20, aI V 2000 f_374), (y 21, aI V 6 f_375), (y 22, aI V 64 f_376), (y 0, .inr (9, o9_rirrrrrrrrrviii (y 1) py0_1 (y 2) (y 10) (y 19) (y 25) (y 26) (y 30) (y 31) (y 32) (Yw 0) o11 py0_12 py0_13 py0_14)), (y 2, .inr (1, o1_iiiiiirrrrrrriiiii py2_0 py2_1 py2_2 py2_3 py2_4 py2_5 (y 3) (y 4) (y 5) (y 6) (y 7) (y 8) (y 9) py2_13 py2_14 py2_15 py2_16 py2_17)), (Yw 0, .inr (8, o8_iirrriirrrrrrriii v_377 (nI n) (Yw 1) (Yw 2) wa_372 v_378 v_379 (y 19) (Yw 4) (Yw 5) (Yw 6) (Yw 7) (Yw 8) wb_373 v_380 v_381 v_382)), (Yw 1, aI V n f_383), (Yw 2, aI V n f_384), (wa_372, aI V n f_385), (Yw 4, aI V L f_386), (Yw 5, aI V n f_387), (Yw 6, aI V (n * 4) f_388), (Yw 7, aI V n f_389), (Yw 8, aI V 4 f_390), (wb_373, aI V n f_391)] H := hP
      have hD := cpD hP hD
      rw [← eW]
      refine lv_astore (lv' := [(4, .ref (Yw 0)), (3, .int 0), (0, .ref (y 0)), (1, .int 2), (2, .int a2)]) hx hb dX9_high_28 hl (by decide) rfl (fun ls hl => ?_)
      refine lv_aload hx hb dX9_high_30 (lv_at hl 0 rfl) ?_
      refine lv_aload_n hx hb dX9_high_32 rfl (lv_at hl 2 rfl) ?_
      refine va_get (ci := 9) (v := .ref (y 30)) (C := RX9) (T := TX9) (N := 15) hx hb hg inX9 hown hK hP 15 rfl rfl 7 (by decide) (hg _ q_2_43) (fun _ h9 => h9) rfl dX9_high_33 ?_
      refine lv_iload_n hx hb dX9_high_36 rfl (lv_at hl 3 rfl) ?_
      refine va_aldq hx hb hK hP 0 4 rfl rfl (vin (by decide +kernel)) dX9_high_37 ?_
      refine W.eq (g2 := F0 m 38 ls (.ref (y 37) :: .ref (Yw 0) :: [])) rfl ?_
      refine lv_iload_n hx hb dX9_high_38 rfl (lv_at hl 4 rfl) ?_
      refine jnV (wr := [(y 30, aT V 4 (va_up (va_up (va_up (va_up (fun _ => none) 0 (some (y 33))) 1 (some (y 35))) 2 (some (y 37))) 3 (some (y 39)))), (y 33, .inr (7, o7_rii (y 34) py33_1 py33_2)), (y 34, aJ V 40 fy34), (y 35, .inr (7, o7_rii (y 36) py35_1 py35_2)), (y 36, aJ V 40 fy36), (y 39, .inr (7, o7_rii (y 40) py39_1 py39_2)), (y 40, aJ V 40 fy40), (y 3, aI V 4 fy3), (y 9, aI V 900 fy9), (y 19, .inr (4, o4_rrrrrr (y 2) (y 20) (y 21) (y 22) (y 23) (y 24))), (y 20, aI V 2000 f_374), (y 21, aI V 6 f_375), (y 22, aI V 64 f_376), (y 0, .inr (9, o9_rirrrrrrrrrviii (y 1) py0_1 (y 2) (y 10) (y 19) (y 25) (y 26) (y 30) (y 31) (y 32) (Yw 0) o11 py0_12 py0_13 py0_14)), (y 2, .inr (1, o1_iiiiiirrrrrrriiiii py2_0 py2_1 py2_2 py2_3 py2_4 py2_5 (y 3) (y 4) (y 5) (y 6) (y 7) (y 8) (y 9) py2_13 py2_14 py2_15 py2_16 py2_17)), (Yw 4, aI V L f_386), (Yw 5, aI V n f_387), (Yw 7, aI V n f_389), (Yw 8, aI V 4 f_390)]) (rnV (rest := []) ⟨hx, hb, hml, hown, hg⟩ (k_X8_spreadAsTold_2 l V n L Yw y a2 f_385 f_391 py37_1 py37_2 fy38 v_377 wa_372 v_378 v_379 wb_373 v_380 v_381 v_382 f_383 f_384 f_388 hn hL b_362 (iv_w b_367 (by first | decide | omega)) bv_377 bv_378 bv_379 bv_380 bv_381 bv_382 tf_383 tf_388) mt_X8_spreadAsTold q_5_26 ⟨Nat.le_of_ble_eq_true rfl, Nat.le_of_ble_eq_true rfl⟩ hK hP hD hS hA hE [20, 26, 5, 6, 17, 18, 19, 23] rfl rfl 17 rfl rfl rfl rfl hl.1 rfl (Nat.le_of_ble_eq_true rfl) dX9_high_39 ⟨Nat.le_of_ble_eq_true rfl, Nat.le_of_ble_eq_true rfl⟩) hP hD hS hA [20, 26, 5, 6, 17, 18, 19, 23] [0, 1, 2, 3, 4, 7, 8, 9, 10, 11, 12, 13, 14, 15, 16, 21, 22, 24, 25] rfl rfl rfl (by decide) (fun  w H locs hw hP hD hS => ?_)
      obtain ⟨f_398, f_399, wa_400, wb_401, rfl⟩ := hw
      have hP : va_P V.1 vwCl [(y 30, aT V 4 (va_up (va_up (va_up (va_up (fun _ => none) 0 (some (y 33))) 1 (some (y 35))) 2 (some (y 37))) 3 (some (y 39)))), (y 33, .inr (7, o7_rii (y 34) py33_1 py33_2)), (y 34, aJ V 40 fy34), (y 35, .inr (7, o7_rii (y 36) py35_1 py35_2)), (y 36, aJ V 40 fy36), (y 39, .inr (7, o7_rii (y 40) py39_1 py39_2)), (y 40, aJ V 40 fy40), (y 3, aI V 4 fy3), (y 9, aI V 900 fy9), (y 19, .inr (4, o4_rrrrrr (y 2) (y 20) (y 21) (y 22) (y 23) (y 24))), (y 20, aI V 2000 f_374), (y 21, aI V 6 f_375), (y 22, aI V 64 f_376), (y 0, .inr (9, o9_rirrrrrrrrrviii (y 1) py0_1 (y 2) (y 10) (y 19) (y 25) (y 26) (y 30) (y 31) (y 32) (Yw 0) o11 py0_12 py0_13 py0_14)), (y 2, .inr (1, o1_iiiiiirrrrrrriiiii py2_0 py2_1 py2_2 py2_3 py2_4 py2_5 (y 3) (y 4) (y 5) (y 6) (y 7) (y 8) (y 9) py2_13 py2_14 py2_15 py2_16 py2_17)), (Yw 4, aI V L f_386), (Yw 5, aI V n f_387), (Yw 7, aI V n f_389), (Yw 8, aI V 4 f_390), (wa_400, aI V n f_398), (wb_401, aI V n f_399), (y 37, .inr (7, o7_rii (y 38) py37_1 py37_2)), (y 38, aJ V 40 fy38), (Yw 0, .inr (8, o8_iirrriirrrrrrriii v_377 (nI n) (Yw 1) (Yw 2) wa_400 v_378 v_379 (y 19) (Yw 4) (Yw 5) (Yw 6) (Yw 7) (Yw 8) wb_401 v_380 v_381 v_382)), (Yw 1, aI V n f_383), (Yw 2, aI V n f_384), (Yw 6, aI V (n * 4) f_388)] H := hP
      have hD := cpD hP hD
      refine lv_aload hx hb dX9_high_42 (lv_at hl 0 rfl) ?_
      refine lv_iload_n hx hb dX9_high_44 rfl (lv_at hl 4 rfl) ?_
      refine lv_iconst (v := 0) hx hb dX9_high_45 (by decide) ?_
      refine lv_iconst (v := 4) hx hb dX9_high_46 (by decide) ?_
      refine jnI (wr := [(y 30, aT V 4 (va_up (va_up (va_up (va_up (fun _ => none) 0 (some (y 33))) 1 (some (y 35))) 2 (some (y 37))) 3 (some (y 39)))), (y 33, .inr (7, o7_rii (y 34) py33_1 py33_2)), (y 34, aJ V 40 fy34), (y 35, .inr (7, o7_rii (y 36) py35_1 py35_2)), (y 36, aJ V 40 fy36), (y 39, .inr (7, o7_rii (y 40) py39_1 py39_2)), (y 40, aJ V 40 fy40), (y 3, aI V 4 fy3), (y 9, aI V 900 fy9), (y 19, .inr (4, o4_rrrrrr (y 2) (y 20) (y 21) (y 22) (y 23) (y 24))), (y 20, aI V 2000 f_374), (y 21, aI V 6 f_375), (y 22, aI V 64 f_376), (y 0, .inr (9, o9_rirrrrrrrrrviii (y 1) py0_1 (y 2) (y 10) (y 19) (y 25) (y 26) (y 30) (y 31) (y 32) (Yw 0) o11 py0_12 py0_13 py0_14)), (y 2, .inr (1, o1_iiiiiirrrrrrriiiii py2_0 py2_1 py2_2 py2_3 py2_4 py2_5 (y 3) (y 4) (y 5) (y 6) (y 7) (y 8) (y 9) py2_13 py2_14 py2_15 py2_16 py2_17)), (Yw 4, aI V L f_386), (Yw 5, aI V n f_387), (Yw 7, aI V n f_389), (Yw 8, aI V 4 f_390), (wb_401, aI V n f_399), (y 37, .inr (7, o7_rii (y 38) py37_1 py37_2)), (y 38, aJ V 40 fy38), (Yw 2, aI V n f_384), (Yw 6, aI V (n * 4) f_388)]) (rnV (rest := []) ⟨hx, hb, hml, hown, hg⟩ (k_X8_weightOf_0 l V n L Yw y a2 0 4 v_377 wa_400 v_378 v_379 wb_401 v_380 v_381 v_382 f_383 f_398 hn hL b_362 bv_377 bv_378 bv_379 bv_380 bv_381 bv_382 tf_383) mt_X8_weightOf q_4_186 ⟨Nat.le_of_ble_eq_true rfl, Nat.le_of_ble_eq_true rfl⟩ hK hP hD hS hA hE [23, 24, 19] rfl rfl 23 rfl rfl rfl rfl hl.1 rfl (Nat.le_of_ble_eq_true rfl) dX9_high_47 ⟨Nat.le_of_ble_eq_true rfl, Nat.le_of_ble_eq_true rfl⟩) hP hD hS hA [23, 24, 19] [0, 1, 2, 3, 4, 5, 6, 7, 8, 9, 10, 11, 12, 13, 14, 15, 16, 17, 18, 20, 21, 22, 25, 26] rfl rfl rfl (by decide) (fun r_402 w H locs hw hP hD hS => ?_)
      subst hw
      have hP : va_P V.1 vwCl [(y 30, aT V 4 (va_up (va_up (va_up (va_up (fun _ => none) 0 (some (y 33))) 1 (some (y 35))) 2 (some (y 37))) 3 (some (y 39)))), (y 33, .inr (7, o7_rii (y 34) py33_1 py33_2)), (y 34, aJ V 40 fy34), (y 35, .inr (7, o7_rii (y 36) py35_1 py35_2)), (y 36, aJ V 40 fy36), (y 39, .inr (7, o7_rii (y 40) py39_1 py39_2)), (y 40, aJ V 40 fy40), (y 3, aI V 4 fy3), (y 9, aI V 900 fy9), (y 19, .inr (4, o4_rrrrrr (y 2) (y 20) (y 21) (y 22) (y 23) (y 24))), (y 20, aI V 2000 f_374), (y 21, aI V 6 f_375), (y 22, aI V 64 f_376), (y 0, .inr (9, o9_rirrrrrrrrrviii (y 1) py0_1 (y 2) (y 10) (y 19) (y 25) (y 26) (y 30) (y 31) (y 32) (Yw 0) o11 py0_12 py0_13 py0_14)), (y 2, .inr (1, o1_iiiiiirrrrrrriiiii py2_0 py2_1 py2_2 py2_3 py2_4 py2_5 (y 3) (y 4) (y 5) (y 6) (y 7) (y 8) (y 9) py2_13 py2_14 py2_15 py2_16 py2_17)), (Yw 4, aI V L f_386), (Yw 5, aI V n f_387), (Yw 7, aI V n f_389), (Yw 8, aI V 4 f_390), (wb_401, aI V n f_399), (y 37, .inr (7, o7_rii (y 38) py37_1 py37_2)), (y 38, aJ V 40 fy38), (Yw 2, aI V n f_384), (Yw 6, aI V (n * 4) f_388), (Yw 0, .inr (8, o8_iirrriirrrrrrriii v_377 (nI n) (Yw 1) (Yw 2) wa_400 v_378 v_379 (y 19) (Yw 4) (Yw 5) (Yw 6) (Yw 7) (Yw 8) wb_401 v_380 v_381 v_382)), (Yw 1, aI V n f_383), (wa_400, aI V n f_398)] H := hP
      have hD := cpD hP hD
      refine lv_i2l hx hb dX9_high_50 rfl ?_
      refine lv_topl (fun j_403 ej_403 => ?_)
      have hP := subP (ws' := [(y 0, .inr (9, o9_rirrrrrrrrrviii (y 1) py0_1 (y 2) (y 10) (y 19) (y 25) (y 26) (y 30) (y 31) (y 32) (Yw 0) o11 py0_12 py0_13 py0_14)), (y 2, .inr (1, o1_iiiiiirrrrrrriiiii py2_0 py2_1 py2_2 py2_3 py2_4 py2_5 (y 3) (y 4) (y 5) (y 6) (y 7) (y 8) (y 9) py2_13 py2_14 py2_15 py2_16 py2_17)), (y 3, aI V 4 fy3), (y 9, aI V 900 fy9), (y 19, .inr (4, o4_rrrrrr (y 2) (y 20) (y 21) (y 22) (y 23) (y 24))), (y 20, aI V 2000 f_374), (y 21, aI V 6 f_375), (y 22, aI V 64 f_376), (y 30, aT V 4 (va_up (va_up (va_up (va_up (fun _ => none) 0 (some (y 33))) 1 (some (y 35))) 2 (some (y 37))) 3 (some (y 39)))), (y 33, .inr (7, o7_rii (y 34) py33_1 py33_2)), (y 34, aJ V 40 fy34), (y 35, .inr (7, o7_rii (y 36) py35_1 py35_2)), (y 36, aJ V 40 fy36), (y 37, .inr (7, o7_rii (y 38) py37_1 py37_2)), (y 38, aJ V 40 fy38), (y 39, .inr (7, o7_rii (y 40) py39_1 py39_2)), (y 40, aJ V 40 fy40), (Yw 4, aI V L f_386), (Yw 5, aI V n f_387), (Yw 7, aI V n f_389), (Yw 8, aI V 4 f_390), (wb_401, aI V n f_399), (Yw 2, aI V n f_384), (Yw 6, aI V (n * 4) f_388), (Yw 0, .inr (8, o8_iirrriirrrrrrriii v_377 (nI n) (Yw 1) (Yw 2) wa_400 v_378 v_379 (y 19) (Yw 4) (Yw 5) (Yw 6) (Yw 7) (Yw 8) wb_401 v_380 v_381 v_382)), (Yw 1, aI V n f_383), (wa_400, aI V n f_398)]) hP [13, 14, 7, 8, 9, 10, 11, 12, 0, 1, 2, 3, 4, 20, 21, 5, 6, 15, 16, 17, 18, 19, 22, 23, 24, 25, 26] rfl
      have hD := subD hP hD [13, 14, 7, 8, 9, 10, 11, 12, 0, 1, 2, 3, 4, 20, 21, 5, 6, 15, 16, 17, 18, 19, 22, 23, 24, 25, 26] rfl rfl
      exact fiL hx hb hr hlk hK (subP (ws' := [(y 0, .inr (9, o9_rirrrrrrrrrviii (y 1) py0_1 (y 2) (y 10) (y 19) (y 25) (y 26) (y 30) (y 31) (y 32) (Yw 0) o11 py0_12 py0_13 py0_14)), (y 2, .inr (1, o1_iiiiiirrrrrrriiiii py2_0 py2_1 py2_2 py2_3 py2_4 py2_5 (y 3) (y 4) (y 5) (y 6) (y 7) (y 8) (y 9) py2_13 py2_14 py2_15 py2_16 py2_17)), (y 3, aI V 4 fy3), (y 9, aI V 900 fy9), (y 19, .inr (4, o4_rrrrrr (y 2) (y 20) (y 21) (y 22) (y 23) (y 24))), (y 20, aI V 2000 f_374), (y 21, aI V 6 f_375), (y 22, aI V 64 f_376), (y 30, aT V 4 (va_up (va_up (va_up (va_up (fun _ => none) 0 (some (y 33))) 1 (some (y 35))) 2 (some (y 37))) 3 (some (y 39)))), (y 33, .inr (7, o7_rii (y 34) py33_1 py33_2)), (y 34, aJ V 40 fy34), (y 35, .inr (7, o7_rii (y 36) py35_1 py35_2)), (y 36, aJ V 40 fy36), (y 37, .inr (7, o7_rii (y 38) py37_1 py37_2)), (y 38, aJ V 40 fy38), (y 39, .inr (7, o7_rii (y 40) py39_1 py39_2)), (y 40, aJ V 40 fy40), (Yw 0, .inr (8, o8_iirrriirrrrrrriii v_377 (nI n) (Yw 1) (Yw 2) wa_400 v_378 v_379 (y 19) (Yw 4) (Yw 5) (Yw 6) (Yw 7) (Yw 8) wb_401 v_380 v_381 v_382)), (Yw 1, aI V n f_383), (Yw 2, aI V n f_384), (wa_400, aI V n f_398), (Yw 4, aI V L f_386), (Yw 5, aI V n f_387), (Yw 6, aI V (n * 4) f_388), (Yw 7, aI V n f_389), (Yw 8, aI V 4 f_390), (wb_401, aI V n f_399)]) hP [0, 1, 2, 3, 4, 5, 6, 7, 8, 9, 10, 11, 12, 13, 14, 15, 16, 24, 25, 22, 26, 17, 18, 23, 19, 20, 21] rfl) (hD.sub [0, 1, 2, 3, 4, 5, 6, 7, 8, 9, 10, 11, 12, 13, 14, 15, 16, 24, 25, 22, 26, 17, 18, 23, 19, 20, 21] rfl rfl) hS dX9_high_51 (Nat.le_of_ble_eq_true rfl) (Nat.le_of_ble_eq_true rfl) (⟨n, L, Yw, wa_400, wb_401, f_374, f_375, f_376, v_377, v_378, v_379, v_380, v_381, v_382, f_383, f_384, f_398, f_386, f_387, f_388, f_389, f_390, f_399, hn, hL, tf_374, bv_377, bv_378, bv_379, bv_380, bv_381, bv_382, tf_383, tf_386, tf_387, tf_388, tf_389, g_392, g_393, g_394, g_396, kn_397, rfl⟩)
  · have hP : va_P V.1 vwCl [(y 3, aI V 4 fy3), (y 9, aI V 900 fy9), (y 19, .inr (4, o4_rrrrrr (y 2) (y 20) (y 21) (y 22) (y 23) (y 24))), (y 20, aI V 2000 fy20), (y 21, aI V 6 fy21), (y 22, aI V 64 fy22), (y 0, .inr (9, o9_rirrrrrrrrnviii (y 1) py0_1 (y 2) (y 10) (y 19) (y 25) (y 26) (y 30) (y 31) (y 32) o11 py0_12 py0_13 py0_14)), (y 2, .inr (1, o1_iiiiiirrrrrrriiiii py2_0 py2_1 py2_2 py2_3 py2_4 py2_5 (y 3) (y 4) (y 5) (y 6) (y 7) (y 8) (y 9) py2_13 py2_14 py2_15 py2_16 py2_17)), (y 30, aT V 4 (va_up (va_up (va_up (va_up (fun _ => none) 0 (some (y 33))) 1 (some (y 35))) 2 (some (y 37))) 3 (some (y 39)))), (y 33, .inr (7, o7_rii (y 34) py33_1 py33_2)), (y 34, aJ V 40 fy34), (y 35, .inr (7, o7_rii (y 36) py35_1 py35_2)), (y 36, aJ V 40 fy36), (y 37, .inr (7, o7_rii (y 38) py37_1 py37_2)), (y 38, aJ V 40 fy38), (y 39, .inr (7, o7_rii (y 40) py39_1 py39_2)), (y 40, aJ V 40 fy40)] H := hP
    have hD := cpD hP hD
    have b_404 : iv 0 2147483647 a2 := iv_e2 (Int32.not_lt.mp c_119) (iv_c (0 : Int32) (a := 0) (b := 0) (by decide)) (iv_top a2) (by first | decide | omega)
    have b_405 : iv 0 3 a2 := iv_l1 (Int32.not_le.mp c_120) b_404 bpy2_1 (by first | decide | omega)
    have b_406 : iv 1 4 py2_1 := iv_l2 (Int32.not_le.mp c_120) b_404 bpy2_1 (by first | decide | omega)
    have b_407 : iv 2 2 a1 := iv_q c_121 (iv_c (2 : Int32) (a := 2) (b := 2) (by decide))
    have b_408 : iv 0 40 py37_1 := iv_e2 c_122 (iv_c (0 : Int32) (a := 0) (b := 0) (by decide)) bpy37_1 (by first | decide | omega)
    have b_409 : iv 1 40 py37_1 := iv_e2 (Int32.not_lt.mp c_123) (iv_c (1 : Int32) (a := 1) (b := 1) (by decide)) b_408 (by first | decide | omega)
    have b_410 : iv 1 8 py37_1 := iv_e1 c_124 b_409 (iv_c (8 : Int32) (a := 8) (b := 8) (by decide)) (by first | decide | omega)
    refine lv_istore_n (lv' := [(3, .int (-3)), (0, .ref (y 0)), (1, .int a1), (2, .int a2)]) hx hb dX9_high_7 rfl hl (by decide) rfl (fun ls hl => ?_)
    refine lv_iload_n hx hb dX9_high_8 rfl (lv_at hl 0 rfl) ?_
    refine lv_if_eq (tgt := 15) hx hb dX9_high_9 (by decide) (fun c_412 => absurd c_412 (by decide)) (fun _ => ?_)
    refine lv_iload_n hx hb dX9_high_12 rfl (lv_at hl 0 rfl) ?_
    refine lv_i2l (v := (-3)) hx hb dX9_high_13 (by decide +kernel) ?_
    have z_0 := Int32.le_iff_toInt_le.mp (Int32.not_lt.mp c_117)
    have z_1 := Int32.lt_iff_toInt_lt.mp (Int32.not_le.mp c_118)
    have z_2 := Int32.le_iff_toInt_le.mp (Int32.not_lt.mp c_119)
    have z_3 := Int32.lt_iff_toInt_lt.mp (Int32.not_le.mp c_120)
    have z_4 := congrArg Int32.toInt c_121
    have z_5 := Int32.le_iff_toInt_le.mp c_122
    have z_6 := Int32.le_iff_toInt_le.mp (Int32.not_lt.mp c_123)
    have z_7 := Int32.le_iff_toInt_le.mp c_124
    have k_0 : (0 : Int32).toInt = 0 := (by decide)
    have k_1 : (1 : Int32).toInt = 1 := (by decide)
    have k_2 : (2 : Int32).toInt = 2 := (by decide)
    have k_4 : (4 : Int32).toInt = 4 := (by decide)
    have k_8 : (8 : Int32).toInt = 8 := (by decide)
    exfalso
    have g_0 := hf0
    exact absurd (g_125.trans g_0) (by decide)
  · have hP : va_P V.1 vwCl [(y 3, aI V 4 fy3), (y 9, aI V 900 fy9), (y 19, .inr (4, o4_rrrrrr (y 2) (y 20) (y 21) (y 22) (y 23) (y 24))), (y 20, aI V 2000 fy20), (y 21, aI V 6 fy21), (y 22, aI V 64 fy22), (y 0, .inr (9, o9_rirrrrrrrrnviii (y 1) py0_1 (y 2) (y 10) (y 19) (y 25) (y 26) (y 30) (y 31) (y 32) o11 py0_12 py0_13 py0_14)), (y 2, .inr (1, o1_iiiiiirrrrrrriiiii py2_0 py2_1 py2_2 py2_3 py2_4 py2_5 (y 3) (y 4) (y 5) (y 6) (y 7) (y 8) (y 9) py2_13 py2_14 py2_15 py2_16 py2_17)), (y 30, aT V 4 (va_up (va_up (va_up (va_up (fun _ => none) 0 (some (y 33))) 1 (some (y 35))) 2 (some (y 37))) 3 (some (y 39)))), (y 33, .inr (7, o7_rii (y 34) py33_1 py33_2)), (y 34, aJ V 40 fy34), (y 35, .inr (7, o7_rii (y 36) py35_1 py35_2)), (y 36, aJ V 40 fy36), (y 37, .inr (7, o7_rii (y 38) py37_1 py37_2)), (y 38, aJ V 40 fy38), (y 39, .inr (7, o7_rii (y 40) py39_1 py39_2)), (y 40, aJ V 40 fy40)] H := hP
    have hD := cpD hP hD
    have b_413 : iv 0 2147483647 a2 := iv_e2 (Int32.not_lt.mp c_128) (iv_c (0 : Int32) (a := 0) (b := 0) (by decide)) (iv_top a2) (by first | decide | omega)
    have b_414 : iv 0 3 a2 := iv_l1 (Int32.not_le.mp c_129) b_413 bpy2_1 (by first | decide | omega)
    have b_415 : iv 1 4 py2_1 := iv_l2 (Int32.not_le.mp c_129) b_413 bpy2_1 (by first | decide | omega)
    have b_416 : iv 2 2 a1 := iv_q c_130 (iv_c (2 : Int32) (a := 2) (b := 2) (by decide))
    have b_417 : iv 0 40 py37_1 := iv_e2 c_131 (iv_c (0 : Int32) (a := 0) (b := 0) (by decide)) bpy37_1 (by first | decide | omega)
    have b_418 : iv 1 40 py37_1 := iv_e2 (Int32.not_lt.mp c_132) (iv_c (1 : Int32) (a := 1) (b := 1) (by decide)) b_417 (by first | decide | omega)
    have b_419 : iv 9 40 py37_1 := iv_l2 (Int32.not_le.mp c_133) (iv_c (8 : Int32) (a := 8) (b := 8) (by decide)) b_418 (by first | decide | omega)
    refine lv_istore_n (lv' := [(3, .int (-4)), (0, .ref (y 0)), (1, .int a1), (2, .int a2)]) hx hb dX9_high_7 rfl hl (by decide) rfl (fun ls hl => ?_)
    refine lv_iload_n hx hb dX9_high_8 rfl (lv_at hl 0 rfl) ?_
    refine lv_if_eq (tgt := 15) hx hb dX9_high_9 (by decide) (fun c_421 => absurd c_421 (by decide)) (fun _ => ?_)
    refine lv_iload_n hx hb dX9_high_12 rfl (lv_at hl 0 rfl) ?_
    refine lv_i2l (v := (-4)) hx hb dX9_high_13 (by decide +kernel) ?_
    have z_0 := Int32.le_iff_toInt_le.mp (Int32.not_lt.mp c_126)
    have z_1 := Int32.lt_iff_toInt_lt.mp (Int32.not_le.mp c_127)
    have z_2 := Int32.le_iff_toInt_le.mp (Int32.not_lt.mp c_128)
    have z_3 := Int32.lt_iff_toInt_lt.mp (Int32.not_le.mp c_129)
    have z_4 := congrArg Int32.toInt c_130
    have z_5 := Int32.le_iff_toInt_le.mp c_131
    have z_6 := Int32.le_iff_toInt_le.mp (Int32.not_lt.mp c_132)
    have z_7 := Int32.lt_iff_toInt_lt.mp (Int32.not_le.mp c_133)
    have k_0 : (0 : Int32).toInt = 0 := (by decide)
    have k_1 : (1 : Int32).toInt = 1 := (by decide)
    have k_2 : (2 : Int32).toInt = 2 := (by decide)
    have k_4 : (4 : Int32).toInt = 4 := (by decide)
    have k_8 : (8 : Int32).toInt = 8 := (by decide)
    exfalso
    have g_0 := hf0
    exact absurd (g_134.trans g_0) (by decide)
  · have hP : va_P V.1 vwCl [(y 3, aI V 4 fy3), (y 9, aI V 900 fy9), (y 19, .inr (4, o4_rrrrrr (y 2) (y 20) (y 21) (y 22) (y 23) (y 24))), (y 20, aI V 2000 fy20), (y 21, aI V 6 fy21), (y 22, aI V 64 fy22), (y 0, .inr (9, o9_rirrrrrrrrnviii (y 1) py0_1 (y 2) (y 10) (y 19) (y 25) (y 26) (y 30) (y 31) (y 32) o11 py0_12 py0_13 py0_14)), (y 2, .inr (1, o1_iiiiiirrrrrrriiiii py2_0 py2_1 py2_2 py2_3 py2_4 py2_5 (y 3) (y 4) (y 5) (y 6) (y 7) (y 8) (y 9) py2_13 py2_14 py2_15 py2_16 py2_17)), (y 30, aT V 4 (va_up (va_up (va_up (va_up (fun _ => none) 0 (some (y 33))) 1 (some (y 35))) 2 (some (y 37))) 3 (some (y 39)))), (y 33, .inr (7, o7_rii (y 34) py33_1 py33_2)), (y 34, aJ V 40 fy34), (y 35, .inr (7, o7_rii (y 36) py35_1 py35_2)), (y 36, aJ V 40 fy36), (y 37, .inr (7, o7_rii (y 38) py37_1 py37_2)), (y 38, aJ V 40 fy38), (y 39, .inr (7, o7_rii (y 40) py39_1 py39_2)), (y 40, aJ V 40 fy40)] H := hP
    have hD := cpD hP hD
    have b_422 : iv 0 2147483647 a2 := iv_e2 (Int32.not_lt.mp c_137) (iv_c (0 : Int32) (a := 0) (b := 0) (by decide)) (iv_top a2) (by first | decide | omega)
    have b_423 : iv 0 3 a2 := iv_l1 (Int32.not_le.mp c_138) b_422 bpy2_1 (by first | decide | omega)
    have b_424 : iv 1 4 py2_1 := iv_l2 (Int32.not_le.mp c_138) b_422 bpy2_1 (by first | decide | omega)
    have b_425 : iv 2 2 a1 := iv_q c_139 (iv_c (2 : Int32) (a := 2) (b := 2) (by decide))
    have b_426 : iv (-1) (-1) py37_1 := iv_l1 (Int32.not_le.mp c_140) bpy37_1 (iv_c (0 : Int32) (a := 0) (b := 0) (by decide)) (by first | decide | omega)
    refine lv_istore_n (lv' := [(3, .int (-6)), (0, .ref (y 0)), (1, .int a1), (2, .int a2)]) hx hb dX9_high_7 rfl hl (by decide) rfl (fun ls hl => ?_)
    refine lv_iload_n hx hb dX9_high_8 rfl (lv_at hl 0 rfl) ?_
    refine lv_if_eq (tgt := 15) hx hb dX9_high_9 (by decide) (fun c_428 => absurd c_428 (by decide)) (fun _ => ?_)
    refine lv_iload_n hx hb dX9_high_12 rfl (lv_at hl 0 rfl) ?_
    refine lv_i2l (v := (-6)) hx hb dX9_high_13 (by decide +kernel) ?_
    have z_0 := Int32.le_iff_toInt_le.mp (Int32.not_lt.mp c_135)
    have z_1 := Int32.lt_iff_toInt_lt.mp (Int32.not_le.mp c_136)
    have z_2 := Int32.le_iff_toInt_le.mp (Int32.not_lt.mp c_137)
    have z_3 := Int32.lt_iff_toInt_lt.mp (Int32.not_le.mp c_138)
    have z_4 := congrArg Int32.toInt c_139
    have z_5 := Int32.lt_iff_toInt_lt.mp (Int32.not_le.mp c_140)
    have k_0 : (0 : Int32).toInt = 0 := (by decide)
    have k_2 : (2 : Int32).toInt = 2 := (by decide)
    have k_4 : (4 : Int32).toInt = 4 := (by decide)
    exfalso
    have g_0 := hf0
    exact absurd (g_141.trans g_0) (by decide)
  · have hP : va_P V.1 vwCl [(y 3, aI V 4 fy3), (y 9, aI V 900 fy9), (y 19, .inr (4, o4_rrrrrr (y 2) (y 20) (y 21) (y 22) (y 23) (y 24))), (y 20, aI V 2000 fy20), (y 21, aI V 6 fy21), (y 22, aI V 64 fy22), (y 0, .inr (9, o9_rirrrrrrrrnviii (y 1) py0_1 (y 2) (y 10) (y 19) (y 25) (y 26) (y 30) (y 31) (y 32) o11 py0_12 py0_13 py0_14)), (y 2, .inr (1, o1_iiiiiirrrrrrriiiii py2_0 py2_1 py2_2 py2_3 py2_4 py2_5 (y 3) (y 4) (y 5) (y 6) (y 7) (y 8) (y 9) py2_13 py2_14 py2_15 py2_16 py2_17)), (y 30, aT V 4 (va_up (va_up (va_up (va_up (fun _ => none) 0 (some (y 33))) 1 (some (y 35))) 2 (some (y 37))) 3 (some (y 39)))), (y 33, .inr (7, o7_rii (y 34) py33_1 py33_2)), (y 34, aJ V 40 fy34), (y 35, .inr (7, o7_rii (y 36) py35_1 py35_2)), (y 36, aJ V 40 fy36), (y 37, .inr (7, o7_rii (y 38) py37_1 py37_2)), (y 38, aJ V 40 fy38), (y 39, .inr (7, o7_rii (y 40) py39_1 py39_2)), (y 40, aJ V 40 fy40)] H := hP
    have hD := cpD hP hD
    have b_429 : iv 0 2147483647 a2 := iv_e2 (Int32.not_lt.mp c_144) (iv_c (0 : Int32) (a := 0) (b := 0) (by decide)) (iv_top a2) (by first | decide | omega)
    have b_430 : iv 0 3 a2 := iv_l1 (Int32.not_le.mp c_145) b_429 bpy2_1 (by first | decide | omega)
    have b_431 : iv 1 4 py2_1 := iv_l2 (Int32.not_le.mp c_145) b_429 bpy2_1 (by first | decide | omega)
    have b_432 : iv 3 3 a1 := iv_q c_146 (iv_c (3 : Int32) (a := 3) (b := 3) (by decide))
    have b_433 : iv 0 40 py39_1 := iv_e2 c_147 (iv_c (0 : Int32) (a := 0) (b := 0) (by decide)) bpy39_1 (by first | decide | omega)
    have b_434 : iv 0 0 py39_1 := iv_l1 c_148 b_433 (iv_c (1 : Int32) (a := 1) (b := 1) (by decide)) (by first | decide | omega)
    refine lv_istore_n (lv' := [(3, .int (-4)), (0, .ref (y 0)), (1, .int a1), (2, .int a2)]) hx hb dX9_high_7 rfl hl (by decide) rfl (fun ls hl => ?_)
    refine lv_iload_n hx hb dX9_high_8 rfl (lv_at hl 0 rfl) ?_
    refine lv_if_eq (tgt := 15) hx hb dX9_high_9 (by decide) (fun c_436 => absurd c_436 (by decide)) (fun _ => ?_)
    refine lv_iload_n hx hb dX9_high_12 rfl (lv_at hl 0 rfl) ?_
    refine lv_i2l (v := (-4)) hx hb dX9_high_13 (by decide +kernel) ?_
    have z_0 := Int32.le_iff_toInt_le.mp (Int32.not_lt.mp c_142)
    have z_1 := Int32.lt_iff_toInt_lt.mp (Int32.not_le.mp c_143)
    have z_2 := Int32.le_iff_toInt_le.mp (Int32.not_lt.mp c_144)
    have z_3 := Int32.lt_iff_toInt_lt.mp (Int32.not_le.mp c_145)
    have z_4 := congrArg Int32.toInt c_146
    have z_5 := Int32.le_iff_toInt_le.mp c_147
    have z_6 := Int32.lt_iff_toInt_lt.mp c_148
    have k_0 : (0 : Int32).toInt = 0 := (by decide)
    have k_1 : (1 : Int32).toInt = 1 := (by decide)
    have k_3 : (3 : Int32).toInt = 3 := (by decide)
    have k_4 : (4 : Int32).toInt = 4 := (by decide)
    exfalso
    have g_0 := hf0
    exact absurd (g_149.trans g_0) (by decide)
  · have hP : va_P V.1 vwCl [(y 3, aI V 4 fy3), (y 9, aI V 900 fy9), (y 19, .inr (4, o4_rrrrrr (y 2) (y 20) (y 21) (y 22) (y 23) (y 24))), (y 20, aI V 2000 fy20), (y 21, aI V 6 fy21), (y 22, aI V 64 fy22), (y 0, .inr (9, o9_rirrrrrrrrnviii (y 1) py0_1 (y 2) (y 10) (y 19) (y 25) (y 26) (y 30) (y 31) (y 32) o11 py0_12 py0_13 py0_14)), (y 2, .inr (1, o1_iiiiiirrrrrrriiiii py2_0 py2_1 py2_2 py2_3 py2_4 py2_5 (y 3) (y 4) (y 5) (y 6) (y 7) (y 8) (y 9) py2_13 py2_14 py2_15 py2_16 py2_17)), (y 30, aT V 4 (va_up (va_up (va_up (va_up (fun _ => none) 0 (some (y 33))) 1 (some (y 35))) 2 (some (y 37))) 3 (some (y 39)))), (y 33, .inr (7, o7_rii (y 34) py33_1 py33_2)), (y 34, aJ V 40 fy34), (y 35, .inr (7, o7_rii (y 36) py35_1 py35_2)), (y 36, aJ V 40 fy36), (y 37, .inr (7, o7_rii (y 38) py37_1 py37_2)), (y 38, aJ V 40 fy38), (y 39, .inr (7, o7_rii (y 40) py39_1 py39_2)), (y 40, aJ V 40 fy40)] H := hP
    have hD := cpD hP hD
    have b_437 : iv 0 2147483647 a2 := iv_e2 (Int32.not_lt.mp c_152) (iv_c (0 : Int32) (a := 0) (b := 0) (by decide)) (iv_top a2) (by first | decide | omega)
    have b_438 : iv 0 3 a2 := iv_l1 (Int32.not_le.mp c_153) b_437 bpy2_1 (by first | decide | omega)
    have b_439 : iv 1 4 py2_1 := iv_l2 (Int32.not_le.mp c_153) b_437 bpy2_1 (by first | decide | omega)
    have b_440 : iv 3 3 a1 := iv_q c_154 (iv_c (3 : Int32) (a := 3) (b := 3) (by decide))
    have b_441 : iv 0 40 py39_1 := iv_e2 c_155 (iv_c (0 : Int32) (a := 0) (b := 0) (by decide)) bpy39_1 (by first | decide | omega)
    have b_442 : iv 1 40 py39_1 := iv_e2 (Int32.not_lt.mp c_156) (iv_c (1 : Int32) (a := 1) (b := 1) (by decide)) b_441 (by first | decide | omega)
    have b_443 : iv 1 8 py39_1 := iv_e1 c_157 b_442 (iv_c (8 : Int32) (a := 8) (b := 8) (by decide)) (by first | decide | omega)
    refine lv_istore_n (lv' := [(3, .int 0), (0, .ref (y 0)), (1, .int a1), (2, .int a2)]) hx hb dX9_high_7 rfl hl (by decide) rfl (fun ls hl => ?_)
    refine lv_iload_n hx hb dX9_high_8 rfl (lv_at hl 0 rfl) ?_
    refine lv_if_eq (tgt := 15) hx hb dX9_high_9 (by decide) (fun _ => ?_) (fun c_445 => absurd c_445 (by decide))
    refine lv_aload_n hx hb dX9_high_15 rfl (lv_at hl 1 rfl) ?_
    refine lv_aload_n hx hb dX9_high_16 rfl (lv_at hl 1 rfl) ?_
    refine va_get (ci := 9) (v := .ref (y 30)) (C := RX9) (T := TX9) (N := 15) hx hb hg inX9 hown hK hP 6 rfl rfl 7 (by decide) (hg _ q_2_43) (fun _ h9 => h9) rfl dX9_high_17 ?_
    refine lv_iload_n hx hb dX9_high_20 rfl (lv_at hl 2 rfl) ?_
    have c_446 : a1 = 3 := by have q9 := b_440; unfold iv at q9; simp only [tI_eq, (by decide : (3 : Int32).toInt = 3)]; omega
    rcases c_446 with rfl
    · refine va_aldq hx hb hK hP 8 4 rfl rfl (vin (by decide +kernel)) dX9_high_21 ?_
      refine W.eq (g2 := F0 m 22 ls (.ref (y 39) :: .ref (y 0) :: [])) rfl ?_
      refine va_get (ci := 7) (v := .int py39_1) (C := RX7) (T := TX7) (N := 3) hx hb hg inX7 hown hK hP 15 rfl rfl 1 (by decide) (hg _ q_2_2) (fun _ h9 => h9) rfl dX9_high_22 ?_
      refine jnR (wr := [(y 30, aT V 4 (va_up (va_up (va_up (va_up (fun _ => none) 0 (some (y 33))) 1 (some (y 35))) 2 (some (y 37))) 3 (some (y 39)))), (y 33, .inr (7, o7_rii (y 34) py33_1 py33_2)), (y 34, aJ V 40 fy34), (y 35, .inr (7, o7_rii (y 36) py35_1 py35_2)), (y 36, aJ V 40 fy36), (y 37, .inr (7, o7_rii (y 38) py37_1 py37_2)), (y 38, aJ V 40 fy38), (y 39, .inr (7, o7_rii (y 40) py39_1 py39_2)), (y 40, aJ V 40 fy40)]) (rnV (rest := []) ⟨hx, hb, hml, hown, hg⟩ (k_X9_waysFromNow_1 l V y D9 py39_1 fy3 fy9 fy20 fy21 fy22 py0_1 o11 py0_12 py0_13 py0_14 py2_0 py2_1 py2_2 py2_3 py2_4 py2_5 py2_13 py2_14 py2_15 py2_16 py2_17 tfy20 bpy0_1 bpy0_12 bpy0_13 (iv_w b_439 (by first | decide | omega)) bpy2_2 bpy2_3 bpy2_4 bpy2_5 bpy2_13 bpy2_14 bpy2_15 bpy2_16 bpy2_17 hL9 hK9) mt_X9_waysFromNow q_4_52 ⟨Nat.le_of_ble_eq_true rfl, Nat.le_of_ble_eq_true rfl⟩ hK hP hD hS hA hE [0, 1, 2, 3, 4, 5, 6, 7] rfl rfl 6 rfl rfl rfl rfl hl.1 rfl (Nat.le_of_ble_eq_true rfl) dX9_high_25 ⟨Nat.le_of_ble_eq_true rfl, Nat.le_of_ble_eq_true rfl⟩) hP hD hS hA [0, 1, 2, 3, 4, 5, 6, 7] [8, 9, 10, 11, 12, 13, 14, 15, 16] rfl rfl rfl (by decide) (fun r_447 w H locs hw hP hD hS => ?_)
      refine W.widen (k := 10) (n := 46481) (Nat.le_of_ble_eq_true rfl) (Nat.le_of_ble_eq_true rfl) ?_
      obtain ⟨n, L, Yw, wa_448, wb_449, f_450, f_451, f_452, v_453, v_454, v_455, v_456, v_457, v_458, f_459, f_460, f_461, f_462, f_463, f_464, f_465, f_466, f_467, hn, hL, tf_450, bv_453, bv_454, bv_455, bv_456, bv_457, bv_458, tf_459, tf_462, tf_463, tf_464, tf_465, eW, g_468, g_469, g_470, g_471, g_472, kn_473, rfl⟩ := hw
      have hP : va_P V.1 vwCl [(y 30, aT V 4 (va_up (va_up (va_up (va_up (fun _ => none) 0 (some (y 33))) 1 (some (y 35))) 2 (some (y 37))) 3 (some (y 39)))), (y 33, .inr (7, o7_rii (y 34) py33_1 py33_2)), (y 34, aJ V 40 fy34), (y 35, .inr (7, o7_rii (y 36) py35_1 py35_2)), (y 36, aJ V 40 fy36), (y 37, .inr (7, o7_rii (y 38) py37_1 py37_2)), (y 38, aJ V 40 fy38), (y 39, .inr (7, o7_rii (y 40) py39_1 py39_2)), (y 40, aJ V 40 fy40), (y 3, aI V 4 fy3), (y 9, aI V 900 fy9), (y 19, .inr (4, o4_rrrrrr (y 2) (y 20) (y 21) (y 22) (y 23) (y 24))), (y 20, aI V 2000 f_450), (y 21, aI V 6 f_451), (y 22, aI V 64 f_452), (y 0, .inr (9, o9_rirrrrrrrrrviii (y 1) py0_1 (y 2) (y 10) (y 19) (y 25) (y 26) (y 30) (y 31) (y 32) (Yw 0) o11 py0_12 py0_13 py0_14)), (y 2, .inr (1, o1_iiiiiirrrrrrriiiii py2_0 py2_1 py2_2 py2_3 py2_4 py2_5 (y 3) (y 4) (y 5) (y 6) (y 7) (y 8) (y 9) py2_13 py2_14 py2_15 py2_16 py2_17)), (Yw 0, .inr (8, o8_iirrriirrrrrrriii v_453 (nI n) (Yw 1) (Yw 2) wa_448 v_454 v_455 (y 19) (Yw 4) (Yw 5) (Yw 6) (Yw 7) (Yw 8) wb_449 v_456 v_457 v_458)), (Yw 1, aI V n f_459), (Yw 2, aI V n f_460), (wa_448, aI V n f_461), (Yw 4, aI V L f_462), (Yw 5, aI V n f_463), (Yw 6, aI V (n * 4) f_464), (Yw 7, aI V n f_465), (Yw 8, aI V 4 f_466), (wb_449, aI V n f_467)] H := hP
      have hD := cpD hP hD
      rw [← eW]
      refine lv_astore (lv' := [(4, .ref (Yw 0)), (3, .int 0), (0, .ref (y 0)), (1, .int 3), (2, .int a2)]) hx hb dX9_high_28 hl (by decide) rfl (fun ls hl => ?_)
      refine lv_aload hx hb dX9_high_30 (lv_at hl 0 rfl) ?_
      refine lv_aload_n hx hb dX9_high_32 rfl (lv_at hl 2 rfl) ?_
      refine va_get (ci := 9) (v := .ref (y 30)) (C := RX9) (T := TX9) (N := 15) hx hb hg inX9 hown hK hP 15 rfl rfl 7 (by decide) (hg _ q_2_43) (fun _ h9 => h9) rfl dX9_high_33 ?_
      refine lv_iload_n hx hb dX9_high_36 rfl (lv_at hl 3 rfl) ?_
      refine va_aldq hx hb hK hP 0 4 rfl rfl (vin (by decide +kernel)) dX9_high_37 ?_
      refine W.eq (g2 := F0 m 38 ls (.ref (y 39) :: .ref (Yw 0) :: [])) rfl ?_
      refine lv_iload_n hx hb dX9_high_38 rfl (lv_at hl 4 rfl) ?_
      refine jnV (wr := [(y 30, aT V 4 (va_up (va_up (va_up (va_up (fun _ => none) 0 (some (y 33))) 1 (some (y 35))) 2 (some (y 37))) 3 (some (y 39)))), (y 33, .inr (7, o7_rii (y 34) py33_1 py33_2)), (y 34, aJ V 40 fy34), (y 35, .inr (7, o7_rii (y 36) py35_1 py35_2)), (y 36, aJ V 40 fy36), (y 37, .inr (7, o7_rii (y 38) py37_1 py37_2)), (y 38, aJ V 40 fy38), (y 3, aI V 4 fy3), (y 9, aI V 900 fy9), (y 19, .inr (4, o4_rrrrrr (y 2) (y 20) (y 21) (y 22) (y 23) (y 24))), (y 20, aI V 2000 f_450), (y 21, aI V 6 f_451), (y 22, aI V 64 f_452), (y 0, .inr (9, o9_rirrrrrrrrrviii (y 1) py0_1 (y 2) (y 10) (y 19) (y 25) (y 26) (y 30) (y 31) (y 32) (Yw 0) o11 py0_12 py0_13 py0_14)), (y 2, .inr (1, o1_iiiiiirrrrrrriiiii py2_0 py2_1 py2_2 py2_3 py2_4 py2_5 (y 3) (y 4) (y 5) (y 6) (y 7) (y 8) (y 9) py2_13 py2_14 py2_15 py2_16 py2_17)), (Yw 4, aI V L f_462), (Yw 5, aI V n f_463), (Yw 7, aI V n f_465), (Yw 8, aI V 4 f_466)]) (rnV (rest := []) ⟨hx, hb, hml, hown, hg⟩ (k_X8_spreadAsTold_3 l V n L Yw y a2 f_461 f_467 py39_1 py39_2 fy40 v_453 wa_448 v_454 v_455 wb_449 v_456 v_457 v_458 f_459 f_460 f_464 hn hL b_438 (iv_w b_443 (by first | decide | omega)) bv_453 bv_454 bv_455 bv_456 bv_457 bv_458 tf_459 tf_464) mt_X8_spreadAsTold q_5_26 ⟨Nat.le_of_ble_eq_true rfl, Nat.le_of_ble_eq_true rfl⟩ hK hP hD hS hA hE [20, 26, 7, 8, 17, 18, 19, 23] rfl rfl 17 rfl rfl rfl rfl hl.1 rfl (Nat.le_of_ble_eq_true rfl) dX9_high_39 ⟨Nat.le_of_ble_eq_true rfl, Nat.le_of_ble_eq_true rfl⟩) hP hD hS hA [20, 26, 7, 8, 17, 18, 19, 23] [0, 1, 2, 3, 4, 5, 6, 9, 10, 11, 12, 13, 14, 15, 16, 21, 22, 24, 25] rfl rfl rfl (by decide) (fun  w H locs hw hP hD hS => ?_)
      obtain ⟨f_474, f_475, wa_476, wb_477, rfl⟩ := hw
      have hP : va_P V.1 vwCl [(y 30, aT V 4 (va_up (va_up (va_up (va_up (fun _ => none) 0 (some (y 33))) 1 (some (y 35))) 2 (some (y 37))) 3 (some (y 39)))), (y 33, .inr (7, o7_rii (y 34) py33_1 py33_2)), (y 34, aJ V 40 fy34), (y 35, .inr (7, o7_rii (y 36) py35_1 py35_2)), (y 36, aJ V 40 fy36), (y 37, .inr (7, o7_rii (y 38) py37_1 py37_2)), (y 38, aJ V 40 fy38), (y 3, aI V 4 fy3), (y 9, aI V 900 fy9), (y 19, .inr (4, o4_rrrrrr (y 2) (y 20) (y 21) (y 22) (y 23) (y 24))), (y 20, aI V 2000 f_450), (y 21, aI V 6 f_451), (y 22, aI V 64 f_452), (y 0, .inr (9, o9_rirrrrrrrrrviii (y 1) py0_1 (y 2) (y 10) (y 19) (y 25) (y 26) (y 30) (y 31) (y 32) (Yw 0) o11 py0_12 py0_13 py0_14)), (y 2, .inr (1, o1_iiiiiirrrrrrriiiii py2_0 py2_1 py2_2 py2_3 py2_4 py2_5 (y 3) (y 4) (y 5) (y 6) (y 7) (y 8) (y 9) py2_13 py2_14 py2_15 py2_16 py2_17)), (Yw 4, aI V L f_462), (Yw 5, aI V n f_463), (Yw 7, aI V n f_465), (Yw 8, aI V 4 f_466), (wa_476, aI V n f_474), (wb_477, aI V n f_475), (y 39, .inr (7, o7_rii (y 40) py39_1 py39_2)), (y 40, aJ V 40 fy40), (Yw 0, .inr (8, o8_iirrriirrrrrrriii v_453 (nI n) (Yw 1) (Yw 2) wa_476 v_454 v_455 (y 19) (Yw 4) (Yw 5) (Yw 6) (Yw 7) (Yw 8) wb_477 v_456 v_457 v_458)), (Yw 1, aI V n f_459), (Yw 2, aI V n f_460), (Yw 6, aI V (n * 4) f_464)] H := hP
      have hD := cpD hP hD
      refine lv_aload hx hb dX9_high_42 (lv_at hl 0 rfl) ?_
      refine lv_iload_n hx hb dX9_high_44 rfl (lv_at hl 4 rfl) ?_
      refine lv_iconst (v := 0) hx hb dX9_high_45 (by decide) ?_
      refine lv_iconst (v := 4) hx hb dX9_high_46 (by decide) ?_
      refine jnI (wr := [(y 30, aT V 4 (va_up (va_up (va_up (va_up (fun _ => none) 0 (some (y 33))) 1 (some (y 35))) 2 (some (y 37))) 3 (some (y 39)))), (y 33, .inr (7, o7_rii (y 34) py33_1 py33_2)), (y 34, aJ V 40 fy34), (y 35, .inr (7, o7_rii (y 36) py35_1 py35_2)), (y 36, aJ V 40 fy36), (y 37, .inr (7, o7_rii (y 38) py37_1 py37_2)), (y 38, aJ V 40 fy38), (y 3, aI V 4 fy3), (y 9, aI V 900 fy9), (y 19, .inr (4, o4_rrrrrr (y 2) (y 20) (y 21) (y 22) (y 23) (y 24))), (y 20, aI V 2000 f_450), (y 21, aI V 6 f_451), (y 22, aI V 64 f_452), (y 0, .inr (9, o9_rirrrrrrrrrviii (y 1) py0_1 (y 2) (y 10) (y 19) (y 25) (y 26) (y 30) (y 31) (y 32) (Yw 0) o11 py0_12 py0_13 py0_14)), (y 2, .inr (1, o1_iiiiiirrrrrrriiiii py2_0 py2_1 py2_2 py2_3 py2_4 py2_5 (y 3) (y 4) (y 5) (y 6) (y 7) (y 8) (y 9) py2_13 py2_14 py2_15 py2_16 py2_17)), (Yw 4, aI V L f_462), (Yw 5, aI V n f_463), (Yw 7, aI V n f_465), (Yw 8, aI V 4 f_466), (wb_477, aI V n f_475), (y 39, .inr (7, o7_rii (y 40) py39_1 py39_2)), (y 40, aJ V 40 fy40), (Yw 2, aI V n f_460), (Yw 6, aI V (n * 4) f_464)]) (rnV (rest := []) ⟨hx, hb, hml, hown, hg⟩ (k_X8_weightOf_0 l V n L Yw y a2 0 4 v_453 wa_476 v_454 v_455 wb_477 v_456 v_457 v_458 f_459 f_474 hn hL b_438 bv_453 bv_454 bv_455 bv_456 bv_457 bv_458 tf_459) mt_X8_weightOf q_4_186 ⟨Nat.le_of_ble_eq_true rfl, Nat.le_of_ble_eq_true rfl⟩ hK hP hD hS hA hE [23, 24, 19] rfl rfl 23 rfl rfl rfl rfl hl.1 rfl (Nat.le_of_ble_eq_true rfl) dX9_high_47 ⟨Nat.le_of_ble_eq_true rfl, Nat.le_of_ble_eq_true rfl⟩) hP hD hS hA [23, 24, 19] [0, 1, 2, 3, 4, 5, 6, 7, 8, 9, 10, 11, 12, 13, 14, 15, 16, 17, 18, 20, 21, 22, 25, 26] rfl rfl rfl (by decide) (fun r_478 w H locs hw hP hD hS => ?_)
      subst hw
      have hP : va_P V.1 vwCl [(y 30, aT V 4 (va_up (va_up (va_up (va_up (fun _ => none) 0 (some (y 33))) 1 (some (y 35))) 2 (some (y 37))) 3 (some (y 39)))), (y 33, .inr (7, o7_rii (y 34) py33_1 py33_2)), (y 34, aJ V 40 fy34), (y 35, .inr (7, o7_rii (y 36) py35_1 py35_2)), (y 36, aJ V 40 fy36), (y 37, .inr (7, o7_rii (y 38) py37_1 py37_2)), (y 38, aJ V 40 fy38), (y 3, aI V 4 fy3), (y 9, aI V 900 fy9), (y 19, .inr (4, o4_rrrrrr (y 2) (y 20) (y 21) (y 22) (y 23) (y 24))), (y 20, aI V 2000 f_450), (y 21, aI V 6 f_451), (y 22, aI V 64 f_452), (y 0, .inr (9, o9_rirrrrrrrrrviii (y 1) py0_1 (y 2) (y 10) (y 19) (y 25) (y 26) (y 30) (y 31) (y 32) (Yw 0) o11 py0_12 py0_13 py0_14)), (y 2, .inr (1, o1_iiiiiirrrrrrriiiii py2_0 py2_1 py2_2 py2_3 py2_4 py2_5 (y 3) (y 4) (y 5) (y 6) (y 7) (y 8) (y 9) py2_13 py2_14 py2_15 py2_16 py2_17)), (Yw 4, aI V L f_462), (Yw 5, aI V n f_463), (Yw 7, aI V n f_465), (Yw 8, aI V 4 f_466), (wb_477, aI V n f_475), (y 39, .inr (7, o7_rii (y 40) py39_1 py39_2)), (y 40, aJ V 40 fy40), (Yw 2, aI V n f_460), (Yw 6, aI V (n * 4) f_464), (Yw 0, .inr (8, o8_iirrriirrrrrrriii v_453 (nI n) (Yw 1) (Yw 2) wa_476 v_454 v_455 (y 19) (Yw 4) (Yw 5) (Yw 6) (Yw 7) (Yw 8) wb_477 v_456 v_457 v_458)), (Yw 1, aI V n f_459), (wa_476, aI V n f_474)] H := hP
      have hD := cpD hP hD
      refine lv_i2l hx hb dX9_high_50 rfl ?_
      refine lv_topl (fun j_479 ej_479 => ?_)
      have hP := subP (ws' := [(y 0, .inr (9, o9_rirrrrrrrrrviii (y 1) py0_1 (y 2) (y 10) (y 19) (y 25) (y 26) (y 30) (y 31) (y 32) (Yw 0) o11 py0_12 py0_13 py0_14)), (y 2, .inr (1, o1_iiiiiirrrrrrriiiii py2_0 py2_1 py2_2 py2_3 py2_4 py2_5 (y 3) (y 4) (y 5) (y 6) (y 7) (y 8) (y 9) py2_13 py2_14 py2_15 py2_16 py2_17)), (y 3, aI V 4 fy3), (y 9, aI V 900 fy9), (y 19, .inr (4, o4_rrrrrr (y 2) (y 20) (y 21) (y 22) (y 23) (y 24))), (y 20, aI V 2000 f_450), (y 21, aI V 6 f_451), (y 22, aI V 64 f_452), (y 30, aT V 4 (va_up (va_up (va_up (va_up (fun _ => none) 0 (some (y 33))) 1 (some (y 35))) 2 (some (y 37))) 3 (some (y 39)))), (y 33, .inr (7, o7_rii (y 34) py33_1 py33_2)), (y 34, aJ V 40 fy34), (y 35, .inr (7, o7_rii (y 36) py35_1 py35_2)), (y 36, aJ V 40 fy36), (y 37, .inr (7, o7_rii (y 38) py37_1 py37_2)), (y 38, aJ V 40 fy38), (y 39, .inr (7, o7_rii (y 40) py39_1 py39_2)), (y 40, aJ V 40 fy40), (Yw 4, aI V L f_462), (Yw 5, aI V n f_463), (Yw 7, aI V n f_465), (Yw 8, aI V 4 f_466), (wb_477, aI V n f_475), (Yw 2, aI V n f_460), (Yw 6, aI V (n * 4) f_464), (Yw 0, .inr (8, o8_iirrriirrrrrrriii v_453 (nI n) (Yw 1) (Yw 2) wa_476 v_454 v_455 (y 19) (Yw 4) (Yw 5) (Yw 6) (Yw 7) (Yw 8) wb_477 v_456 v_457 v_458)), (Yw 1, aI V n f_459), (wa_476, aI V n f_474)]) hP [13, 14, 7, 8, 9, 10, 11, 12, 0, 1, 2, 3, 4, 5, 6, 20, 21, 15, 16, 17, 18, 19, 22, 23, 24, 25, 26] rfl
      have hD := subD hP hD [13, 14, 7, 8, 9, 10, 11, 12, 0, 1, 2, 3, 4, 5, 6, 20, 21, 15, 16, 17, 18, 19, 22, 23, 24, 25, 26] rfl rfl
      exact fiL hx hb hr hlk hK (subP (ws' := [(y 0, .inr (9, o9_rirrrrrrrrrviii (y 1) py0_1 (y 2) (y 10) (y 19) (y 25) (y 26) (y 30) (y 31) (y 32) (Yw 0) o11 py0_12 py0_13 py0_14)), (y 2, .inr (1, o1_iiiiiirrrrrrriiiii py2_0 py2_1 py2_2 py2_3 py2_4 py2_5 (y 3) (y 4) (y 5) (y 6) (y 7) (y 8) (y 9) py2_13 py2_14 py2_15 py2_16 py2_17)), (y 3, aI V 4 fy3), (y 9, aI V 900 fy9), (y 19, .inr (4, o4_rrrrrr (y 2) (y 20) (y 21) (y 22) (y 23) (y 24))), (y 20, aI V 2000 f_450), (y 21, aI V 6 f_451), (y 22, aI V 64 f_452), (y 30, aT V 4 (va_up (va_up (va_up (va_up (fun _ => none) 0 (some (y 33))) 1 (some (y 35))) 2 (some (y 37))) 3 (some (y 39)))), (y 33, .inr (7, o7_rii (y 34) py33_1 py33_2)), (y 34, aJ V 40 fy34), (y 35, .inr (7, o7_rii (y 36) py35_1 py35_2)), (y 36, aJ V 40 fy36), (y 37, .inr (7, o7_rii (y 38) py37_1 py37_2)), (y 38, aJ V 40 fy38), (y 39, .inr (7, o7_rii (y 40) py39_1 py39_2)), (y 40, aJ V 40 fy40), (Yw 0, .inr (8, o8_iirrriirrrrrrriii v_453 (nI n) (Yw 1) (Yw 2) wa_476 v_454 v_455 (y 19) (Yw 4) (Yw 5) (Yw 6) (Yw 7) (Yw 8) wb_477 v_456 v_457 v_458)), (Yw 1, aI V n f_459), (Yw 2, aI V n f_460), (wa_476, aI V n f_474), (Yw 4, aI V L f_462), (Yw 5, aI V n f_463), (Yw 6, aI V (n * 4) f_464), (Yw 7, aI V n f_465), (Yw 8, aI V 4 f_466), (wb_477, aI V n f_475)]) hP [0, 1, 2, 3, 4, 5, 6, 7, 8, 9, 10, 11, 12, 13, 14, 15, 16, 24, 25, 22, 26, 17, 18, 23, 19, 20, 21] rfl) (hD.sub [0, 1, 2, 3, 4, 5, 6, 7, 8, 9, 10, 11, 12, 13, 14, 15, 16, 24, 25, 22, 26, 17, 18, 23, 19, 20, 21] rfl rfl) hS dX9_high_51 (Nat.le_of_ble_eq_true rfl) (Nat.le_of_ble_eq_true rfl) (⟨n, L, Yw, wa_476, wb_477, f_450, f_451, f_452, v_453, v_454, v_455, v_456, v_457, v_458, f_459, f_460, f_474, f_462, f_463, f_464, f_465, f_466, f_475, hn, hL, tf_450, bv_453, bv_454, bv_455, bv_456, bv_457, bv_458, tf_459, tf_462, tf_463, tf_464, tf_465, g_468, g_469, g_470, g_472, kn_473, rfl⟩)
  · have hP : va_P V.1 vwCl [(y 3, aI V 4 fy3), (y 9, aI V 900 fy9), (y 19, .inr (4, o4_rrrrrr (y 2) (y 20) (y 21) (y 22) (y 23) (y 24))), (y 20, aI V 2000 fy20), (y 21, aI V 6 fy21), (y 22, aI V 64 fy22), (y 0, .inr (9, o9_rirrrrrrrrnviii (y 1) py0_1 (y 2) (y 10) (y 19) (y 25) (y 26) (y 30) (y 31) (y 32) o11 py0_12 py0_13 py0_14)), (y 2, .inr (1, o1_iiiiiirrrrrrriiiii py2_0 py2_1 py2_2 py2_3 py2_4 py2_5 (y 3) (y 4) (y 5) (y 6) (y 7) (y 8) (y 9) py2_13 py2_14 py2_15 py2_16 py2_17)), (y 30, aT V 4 (va_up (va_up (va_up (va_up (fun _ => none) 0 (some (y 33))) 1 (some (y 35))) 2 (some (y 37))) 3 (some (y 39)))), (y 33, .inr (7, o7_rii (y 34) py33_1 py33_2)), (y 34, aJ V 40 fy34), (y 35, .inr (7, o7_rii (y 36) py35_1 py35_2)), (y 36, aJ V 40 fy36), (y 37, .inr (7, o7_rii (y 38) py37_1 py37_2)), (y 38, aJ V 40 fy38), (y 39, .inr (7, o7_rii (y 40) py39_1 py39_2)), (y 40, aJ V 40 fy40)] H := hP
    have hD := cpD hP hD
    have b_480 : iv 0 2147483647 a2 := iv_e2 (Int32.not_lt.mp c_161) (iv_c (0 : Int32) (a := 0) (b := 0) (by decide)) (iv_top a2) (by first | decide | omega)
    have b_481 : iv 0 3 a2 := iv_l1 (Int32.not_le.mp c_162) b_480 bpy2_1 (by first | decide | omega)
    have b_482 : iv 1 4 py2_1 := iv_l2 (Int32.not_le.mp c_162) b_480 bpy2_1 (by first | decide | omega)
    have b_483 : iv 3 3 a1 := iv_q c_163 (iv_c (3 : Int32) (a := 3) (b := 3) (by decide))
    have b_484 : iv 0 40 py39_1 := iv_e2 c_164 (iv_c (0 : Int32) (a := 0) (b := 0) (by decide)) bpy39_1 (by first | decide | omega)
    have b_485 : iv 1 40 py39_1 := iv_e2 (Int32.not_lt.mp c_165) (iv_c (1 : Int32) (a := 1) (b := 1) (by decide)) b_484 (by first | decide | omega)
    have b_486 : iv 1 8 py39_1 := iv_e1 c_166 b_485 (iv_c (8 : Int32) (a := 8) (b := 8) (by decide)) (by first | decide | omega)
    refine lv_istore_n (lv' := [(3, .int (-3)), (0, .ref (y 0)), (1, .int a1), (2, .int a2)]) hx hb dX9_high_7 rfl hl (by decide) rfl (fun ls hl => ?_)
    refine lv_iload_n hx hb dX9_high_8 rfl (lv_at hl 0 rfl) ?_
    refine lv_if_eq (tgt := 15) hx hb dX9_high_9 (by decide) (fun c_488 => absurd c_488 (by decide)) (fun _ => ?_)
    refine lv_iload_n hx hb dX9_high_12 rfl (lv_at hl 0 rfl) ?_
    refine lv_i2l (v := (-3)) hx hb dX9_high_13 (by decide +kernel) ?_
    have z_0 := Int32.le_iff_toInt_le.mp (Int32.not_lt.mp c_159)
    have z_1 := Int32.lt_iff_toInt_lt.mp (Int32.not_le.mp c_160)
    have z_2 := Int32.le_iff_toInt_le.mp (Int32.not_lt.mp c_161)
    have z_3 := Int32.lt_iff_toInt_lt.mp (Int32.not_le.mp c_162)
    have z_4 := congrArg Int32.toInt c_163
    have z_5 := Int32.le_iff_toInt_le.mp c_164
    have z_6 := Int32.le_iff_toInt_le.mp (Int32.not_lt.mp c_165)
    have z_7 := Int32.le_iff_toInt_le.mp c_166
    have k_0 : (0 : Int32).toInt = 0 := (by decide)
    have k_1 : (1 : Int32).toInt = 1 := (by decide)
    have k_3 : (3 : Int32).toInt = 3 := (by decide)
    have k_4 : (4 : Int32).toInt = 4 := (by decide)
    have k_8 : (8 : Int32).toInt = 8 := (by decide)
    exfalso
    have g_0 := hf0
    exact absurd (g_167.trans g_0) (by decide)
  · have hP : va_P V.1 vwCl [(y 3, aI V 4 fy3), (y 9, aI V 900 fy9), (y 19, .inr (4, o4_rrrrrr (y 2) (y 20) (y 21) (y 22) (y 23) (y 24))), (y 20, aI V 2000 fy20), (y 21, aI V 6 fy21), (y 22, aI V 64 fy22), (y 0, .inr (9, o9_rirrrrrrrrnviii (y 1) py0_1 (y 2) (y 10) (y 19) (y 25) (y 26) (y 30) (y 31) (y 32) o11 py0_12 py0_13 py0_14)), (y 2, .inr (1, o1_iiiiiirrrrrrriiiii py2_0 py2_1 py2_2 py2_3 py2_4 py2_5 (y 3) (y 4) (y 5) (y 6) (y 7) (y 8) (y 9) py2_13 py2_14 py2_15 py2_16 py2_17)), (y 30, aT V 4 (va_up (va_up (va_up (va_up (fun _ => none) 0 (some (y 33))) 1 (some (y 35))) 2 (some (y 37))) 3 (some (y 39)))), (y 33, .inr (7, o7_rii (y 34) py33_1 py33_2)), (y 34, aJ V 40 fy34), (y 35, .inr (7, o7_rii (y 36) py35_1 py35_2)), (y 36, aJ V 40 fy36), (y 37, .inr (7, o7_rii (y 38) py37_1 py37_2)), (y 38, aJ V 40 fy38), (y 39, .inr (7, o7_rii (y 40) py39_1 py39_2)), (y 40, aJ V 40 fy40)] H := hP
    have hD := cpD hP hD
    have b_489 : iv 0 2147483647 a2 := iv_e2 (Int32.not_lt.mp c_170) (iv_c (0 : Int32) (a := 0) (b := 0) (by decide)) (iv_top a2) (by first | decide | omega)
    have b_490 : iv 0 3 a2 := iv_l1 (Int32.not_le.mp c_171) b_489 bpy2_1 (by first | decide | omega)
    have b_491 : iv 1 4 py2_1 := iv_l2 (Int32.not_le.mp c_171) b_489 bpy2_1 (by first | decide | omega)
    have b_492 : iv 3 3 a1 := iv_q c_172 (iv_c (3 : Int32) (a := 3) (b := 3) (by decide))
    have b_493 : iv 0 40 py39_1 := iv_e2 c_173 (iv_c (0 : Int32) (a := 0) (b := 0) (by decide)) bpy39_1 (by first | decide | omega)
    have b_494 : iv 1 40 py39_1 := iv_e2 (Int32.not_lt.mp c_174) (iv_c (1 : Int32) (a := 1) (b := 1) (by decide)) b_493 (by first | decide | omega)
    have b_495 : iv 9 40 py39_1 := iv_l2 (Int32.not_le.mp c_175) (iv_c (8 : Int32) (a := 8) (b := 8) (by decide)) b_494 (by first | decide | omega)
    refine lv_istore_n (lv' := [(3, .int (-4)), (0, .ref (y 0)), (1, .int a1), (2, .int a2)]) hx hb dX9_high_7 rfl hl (by decide) rfl (fun ls hl => ?_)
    refine lv_iload_n hx hb dX9_high_8 rfl (lv_at hl 0 rfl) ?_
    refine lv_if_eq (tgt := 15) hx hb dX9_high_9 (by decide) (fun c_497 => absurd c_497 (by decide)) (fun _ => ?_)
    refine lv_iload_n hx hb dX9_high_12 rfl (lv_at hl 0 rfl) ?_
    refine lv_i2l (v := (-4)) hx hb dX9_high_13 (by decide +kernel) ?_
    have z_0 := Int32.le_iff_toInt_le.mp (Int32.not_lt.mp c_168)
    have z_1 := Int32.lt_iff_toInt_lt.mp (Int32.not_le.mp c_169)
    have z_2 := Int32.le_iff_toInt_le.mp (Int32.not_lt.mp c_170)
    have z_3 := Int32.lt_iff_toInt_lt.mp (Int32.not_le.mp c_171)
    have z_4 := congrArg Int32.toInt c_172
    have z_5 := Int32.le_iff_toInt_le.mp c_173
    have z_6 := Int32.le_iff_toInt_le.mp (Int32.not_lt.mp c_174)
    have z_7 := Int32.lt_iff_toInt_lt.mp (Int32.not_le.mp c_175)
    have k_0 : (0 : Int32).toInt = 0 := (by decide)
    have k_1 : (1 : Int32).toInt = 1 := (by decide)
    have k_3 : (3 : Int32).toInt = 3 := (by decide)
    have k_4 : (4 : Int32).toInt = 4 := (by decide)
    have k_8 : (8 : Int32).toInt = 8 := (by decide)
    exfalso
    have g_0 := hf0
    exact absurd (g_176.trans g_0) (by decide)
  · have hP : va_P V.1 vwCl [(y 3, aI V 4 fy3), (y 9, aI V 900 fy9), (y 19, .inr (4, o4_rrrrrr (y 2) (y 20) (y 21) (y 22) (y 23) (y 24))), (y 20, aI V 2000 fy20), (y 21, aI V 6 fy21), (y 22, aI V 64 fy22), (y 0, .inr (9, o9_rirrrrrrrrnviii (y 1) py0_1 (y 2) (y 10) (y 19) (y 25) (y 26) (y 30) (y 31) (y 32) o11 py0_12 py0_13 py0_14)), (y 2, .inr (1, o1_iiiiiirrrrrrriiiii py2_0 py2_1 py2_2 py2_3 py2_4 py2_5 (y 3) (y 4) (y 5) (y 6) (y 7) (y 8) (y 9) py2_13 py2_14 py2_15 py2_16 py2_17)), (y 30, aT V 4 (va_up (va_up (va_up (va_up (fun _ => none) 0 (some (y 33))) 1 (some (y 35))) 2 (some (y 37))) 3 (some (y 39)))), (y 33, .inr (7, o7_rii (y 34) py33_1 py33_2)), (y 34, aJ V 40 fy34), (y 35, .inr (7, o7_rii (y 36) py35_1 py35_2)), (y 36, aJ V 40 fy36), (y 37, .inr (7, o7_rii (y 38) py37_1 py37_2)), (y 38, aJ V 40 fy38), (y 39, .inr (7, o7_rii (y 40) py39_1 py39_2)), (y 40, aJ V 40 fy40)] H := hP
    have hD := cpD hP hD
    have b_498 : iv 0 2147483647 a2 := iv_e2 (Int32.not_lt.mp c_179) (iv_c (0 : Int32) (a := 0) (b := 0) (by decide)) (iv_top a2) (by first | decide | omega)
    have b_499 : iv 0 3 a2 := iv_l1 (Int32.not_le.mp c_180) b_498 bpy2_1 (by first | decide | omega)
    have b_500 : iv 1 4 py2_1 := iv_l2 (Int32.not_le.mp c_180) b_498 bpy2_1 (by first | decide | omega)
    have b_501 : iv 3 3 a1 := iv_q c_181 (iv_c (3 : Int32) (a := 3) (b := 3) (by decide))
    have b_502 : iv (-1) (-1) py39_1 := iv_l1 (Int32.not_le.mp c_182) bpy39_1 (iv_c (0 : Int32) (a := 0) (b := 0) (by decide)) (by first | decide | omega)
    refine lv_istore_n (lv' := [(3, .int (-6)), (0, .ref (y 0)), (1, .int a1), (2, .int a2)]) hx hb dX9_high_7 rfl hl (by decide) rfl (fun ls hl => ?_)
    refine lv_iload_n hx hb dX9_high_8 rfl (lv_at hl 0 rfl) ?_
    refine lv_if_eq (tgt := 15) hx hb dX9_high_9 (by decide) (fun c_504 => absurd c_504 (by decide)) (fun _ => ?_)
    refine lv_iload_n hx hb dX9_high_12 rfl (lv_at hl 0 rfl) ?_
    refine lv_i2l (v := (-6)) hx hb dX9_high_13 (by decide +kernel) ?_
    have z_0 := Int32.le_iff_toInt_le.mp (Int32.not_lt.mp c_177)
    have z_1 := Int32.lt_iff_toInt_lt.mp (Int32.not_le.mp c_178)
    have z_2 := Int32.le_iff_toInt_le.mp (Int32.not_lt.mp c_179)
    have z_3 := Int32.lt_iff_toInt_lt.mp (Int32.not_le.mp c_180)
    have z_4 := congrArg Int32.toInt c_181
    have z_5 := Int32.lt_iff_toInt_lt.mp (Int32.not_le.mp c_182)
    have k_0 : (0 : Int32).toInt = 0 := (by decide)
    have k_3 : (3 : Int32).toInt = 3 := (by decide)
    have k_4 : (4 : Int32).toInt = 4 := (by decide)
    exfalso
    have g_0 := hf0
    exact absurd (g_183.trans g_0) (by decide)
set_option maxHeartbeats 4000000 in
set_option maxRecDepth 100000 in
theorem k_X9_high_3 (l : Launch) (V : GV) (n : Nat) (L : Nat) (Yw : Nat → Nat) (y : Nat → Nat) (D9 : Nat → Int32) (a1 : Int32) (a2 : Int32) (py0_1 : Int32) (o11 : Value) (py0_12 : Int32) (py0_13 : Int32) (py0_14 : Int32) (py2_0 : Int32) (py2_1 : Int32) (py2_2 : Int32) (py2_3 : Int32) (py2_4 : Int32) (py2_5 : Int32) (py2_13 : Int32) (py2_14 : Int32) (py2_15 : Int32) (py2_16 : Int32) (py2_17 : Int32) (fy3 : Nat → Int32) (fy9 : Nat → Int32) (fy20 : Nat → Int32) (fy21 : Nat → Int32) (fy22 : Nat → Int32) (py33_1 : Int32) (py33_2 : Int32) (fy34 : Nat → Int64) (py35_1 : Int32) (py35_2 : Int32) (fy36 : Nat → Int64) (py37_1 : Int32) (py37_2 : Int32) (fy38 : Nat → Int64) (py39_1 : Int32) (py39_2 : Int32) (fy40 : Nat → Int64) (pYw0_0 : Int32) (wa : Nat) (pYw0_5 : Int32) (pYw0_6 : Int32) (wb : Nat) (pYw0_14 : Int32) (pYw0_15 : Int32) (pYw0_16 : Int32) (fYw1 : Nat → Int32) (fYw2 : Nat → Int32) (fwa : Nat → Int32) (fYw4 : Nat → Int32) (fYw5 : Nat → Int32) (fYw6 : Nat → Int32) (fYw7 : Nat → Int32) (fYw8 : Nat → Int32) (fwb : Nat → Int32) (hn : 1 ≤ n ∧ n ≤ 3646) (hL : 1 ≤ L ∧ L ≤ 10000) (hq0 : pYw0_0 < py2_1) (bpy0_1 : iv 0 900 py0_1) (bpy0_12 : iv 0 9999 py0_12) (bpy0_13 : iv 0 9 py0_13) (bpy2_1 : iv 0 4 py2_1) (bpy2_2 : iv 0 4 py2_2) (bpy2_3 : iv 0 8 py2_3) (bpy2_4 : iv 0 9999 py2_4) (bpy2_5 : iv 0 9 py2_5) (bpy2_13 : iv 0 900 py2_13) (bpy2_14 : iv 0 900 py2_14) (bpy2_15 : iv 0 900 py2_15) (bpy2_16 : iv 0 900 py2_16) (bpy2_17 : iv 0 900 py2_17) (tfy20 : ∀ j, iv 0 10 (fy20 j)) (bpy33_1 : iv (-1) 40 py33_1) (bpy35_1 : iv (-1) 40 py35_1) (bpy37_1 : iv (-1) 40 py37_1) (bpy39_1 : iv (-1) 40 py39_1) (bpYw0_0 : iv 0 4 pYw0_0) (bpYw0_5 : iv 0 ((n : Int)) pYw0_5) (bpYw0_6 : iv 0 4 pYw0_6) (bpYw0_14 : iv 0 4 pYw0_14) (bpYw0_15 : iv 0 9 pYw0_15) (bpYw0_16 : iv 0 ((n : Int)) pYw0_16) (tfYw1 : ∀ j, iv 0 ((L : Int) - 1) (fYw1 j)) (tfYw4 : ∀ j, iv 0 ((n : Int)) (fYw4 j)) (tfYw5 : ∀ j, iv 0 (4 * (n : Int) - 1) (fYw5 j)) (tfYw6 : ∀ j, iv 0 ((n : Int) - 1) (fYw6 j)) (tfYw7 : ∀ j, iv 0 ((n : Int) - 1) (fYw7 j)) (hf0 : WA pYw0_5 fYw4 fYw1) (hf1 : WB pYw0_16 pYw0_6 pYw0_5 fYw6) (hf2 : WC pYw0_5 fYw2) (hf3 : rfF a1 a2 (-1 : Int32) py2_1 py33_1 py35_1 py37_1 py39_1 fy34 fy36 fy38 fy40 = 0) (hL9 : LW D9 fy3 fy9 py2_14 py2_15 py2_16 py2_17) (hK9 : KN D9 fy20) : Ct l V yX9_high (.code yX9_high cX9_high 5 (some .long)) 8 [.ref (y 0), .int a1, .int a2] [(y 0, .inr (9, o9_rirrrrrrrrrviii (y 1) py0_1 (y 2) (y 10) (y 19) (y 25) (y 26) (y 30) (y 31) (y 32) (Yw 0) o11 py0_12 py0_13 py0_14)), (y 2, .inr (1, o1_iiiiiirrrrrrriiiii py2_0 py2_1 py2_2 py2_3 py2_4 py2_5 (y 3) (y 4) (y 5) (y 6) (y 7) (y 8) (y 9) py2_13 py2_14 py2_15 py2_16 py2_17)), (y 3, aI V 4 fy3), (y 9, aI V 900 fy9), (y 19, .inr (4, o4_rrrrrr (y 2) (y 20) (y 21) (y 22) (y 23) (y 24))), (y 20, aI V 2000 fy20), (y 21, aI V 6 fy21), (y 22, aI V 64 fy22), (y 30, aT V 4 (va_up (va_up (va_up (va_up (fun _ => none) 0 (some (y 33))) 1 (some (y 35))) 2 (some (y 37))) 3 (some (y 39)))), (y 33, .inr (7, o7_rii (y 34) py33_1 py33_2)), (y 34, aJ V 40 fy34), (y 35, .inr (7, o7_rii (y 36) py35_1 py35_2)), (y 36, aJ V 40 fy36), (y 37, .inr (7, o7_rii (y 38) py37_1 py37_2)), (y 38, aJ V 40 fy38), (y 39, .inr (7, o7_rii (y 40) py39_1 py39_2)), (y 40, aJ V 40 fy40), (Yw 0, .inr (8, o8_iirrriirrrrrrriii pYw0_0 (nI n) (Yw 1) (Yw 2) wa pYw0_5 pYw0_6 (y 19) (Yw 4) (Yw 5) (Yw 6) (Yw 7) (Yw 8) wb pYw0_14 pYw0_15 pYw0_16)), (Yw 1, aI V n fYw1), (Yw 2, aI V n fYw2), (wa, aI V n fwa), (Yw 4, aI V L fYw4), (Yw 5, aI V n fYw5), (Yw 6, aI V (n * 4) fYw6), (Yw 7, aI V n fYw7), (Yw 8, aI V 4 fYw8), (wb, aI V n fwb)] 10 46481 (QL V (fun (r : Int64) (w : va_W) => ∃ (n : Nat) (L : Nat) (Yw : Nat → Nat) (wa : Nat) (wb : Nat) (g0 : Nat → Int32) (g1 : Nat → Int32) (g2 : Nat → Int32) (ww0 : Int32) (ww5 : Int32) (ww6 : Int32) (ww14 : Int32) (ww15 : Int32) (ww16 : Int32) (wew1 : Nat → Int32) (wew2 : Nat → Int32) (wew3 : Nat → Int32) (wew4 : Nat → Int32) (wew5 : Nat → Int32) (wew6 : Nat → Int32) (wew7 : Nat → Int32) (wew8 : Nat → Int32) (wew9 : Nat → Int32), (1 ≤ n ∧ n ≤ 3646) ∧ (1 ≤ L ∧ L ≤ 10000) ∧ (∀ j, iv 0 10 (g0 j)) ∧ iv 0 4 ww0 ∧ iv 0 ((n : Int)) ww5 ∧ iv 0 4 ww6 ∧ iv 0 4 ww14 ∧ iv 0 9 ww15 ∧ iv 0 ((n : Int)) ww16 ∧ (∀ j, iv 0 ((L : Int) - 1) (wew1 j)) ∧ (∀ j, iv 0 ((n : Int)) (wew4 j)) ∧ (∀ j, iv 0 (4 * (n : Int) - 1) (wew5 j)) ∧ (∀ j, iv 0 ((n : Int) - 1) (wew6 j)) ∧ (∀ j, iv 0 ((n : Int) - 1) (wew7 j)) ∧ (WA ww5 wew4 wew1) ∧ (WB ww16 ww6 ww5 wew6) ∧ (WC ww5 wew2) ∧ (ww0 = py2_1) ∧ KN D9 g0 ∧ w = [(y 0, .inr (9, o9_rirrrrrrrrrviii (y 1) py0_1 (y 2) (y 10) (y 19) (y 25) (y 26) (y 30) (y 31) (y 32) (Yw 0) o11 py0_12 py0_13 py0_14)), (y 2, .inr (1, o1_iiiiiirrrrrrriiiii py2_0 py2_1 py2_2 py2_3 py2_4 py2_5 (y 3) (y 4) (y 5) (y 6) (y 7) (y 8) (y 9) py2_13 py2_14 py2_15 py2_16 py2_17)), (y 3, aI V 4 fy3), (y 9, aI V 900 fy9), (y 19, .inr (4, o4_rrrrrr (y 2) (y 20) (y 21) (y 22) (y 23) (y 24))), (y 20, aI V 2000 g0), (y 21, aI V 6 g1), (y 22, aI V 64 g2), (y 30, aT V 4 (va_up (va_up (va_up (va_up (fun _ => none) 0 (some (y 33))) 1 (some (y 35))) 2 (some (y 37))) 3 (some (y 39)))), (y 33, .inr (7, o7_rii (y 34) py33_1 py33_2)), (y 34, aJ V 40 fy34), (y 35, .inr (7, o7_rii (y 36) py35_1 py35_2)), (y 36, aJ V 40 fy36), (y 37, .inr (7, o7_rii (y 38) py37_1 py37_2)), (y 38, aJ V 40 fy38), (y 39, .inr (7, o7_rii (y 40) py39_1 py39_2)), (y 40, aJ V 40 fy40), (Yw 0, .inr (8, o8_iirrriirrrrrrriii ww0 (nI n) (Yw 1) (Yw 2) wa ww5 ww6 (y 19) (Yw 4) (Yw 5) (Yw 6) (Yw 7) (Yw 8) wb ww14 ww15 ww16)), (Yw 1, aI V n wew1), (Yw 2, aI V n wew2), (wa, aI V n wew3), (Yw 4, aI V L wew4), (Yw 5, aI V n wew5), (Yw 6, aI V (n * 4) wew6), (Yw 7, aI V n wew7), (Yw 8, aI V 4 wew8), (wb, aI V n wew9)])) := by
  refine Ct.of (by decide) (Nat.le_of_ble_eq_true rfl) (fun p e s m below meth c A ls hx hb hr hml hown hlk hnm hg hP hK hD hE hA hS hl => ?_)
  have hl : lv_has ls 5 [(0, .ref (y 0)), (1, .int a1), (2, .int a2)] := hl
  refine lv_aload_n hx hb dX9_high_0 rfl (lv_at hl 0 rfl) ?_
  refine lv_iload_n hx hb dX9_high_1 rfl (lv_at hl 1 rfl) ?_
  refine lv_iload_n hx hb dX9_high_2 rfl (lv_at hl 2 rfl) ?_
  refine lv_iconst (v := (-1)) hx hb dX9_high_3 (by decide) ?_
  refine jnI (wr := [(y 3, aI V 4 fy3), (y 9, aI V 900 fy9), (y 19, .inr (4, o4_rrrrrr (y 2) (y 20) (y 21) (y 22) (y 23) (y 24))), (y 20, aI V 2000 fy20), (y 21, aI V 6 fy21), (y 22, aI V 64 fy22), (Yw 0, .inr (8, o8_iirrriirrrrrrriii pYw0_0 (nI n) (Yw 1) (Yw 2) wa pYw0_5 pYw0_6 (y 19) (Yw 4) (Yw 5) (Yw 6) (Yw 7) (Yw 8) wb pYw0_14 pYw0_15 pYw0_16)), (Yw 1, aI V n fYw1), (Yw 2, aI V n fYw2), (wa, aI V n fwa), (Yw 4, aI V L fYw4), (Yw 5, aI V n fYw5), (Yw 6, aI V (n * 4) fYw6), (Yw 7, aI V n fYw7), (Yw 8, aI V 4 fYw8), (wb, aI V n fwb)]) (rnV (rest := []) ⟨hx, hb, hml, hown, hg⟩ (k_X9_refusalOfTold_0 l V y a1 a2 (-1) py0_1 (.ref (Yw 0)) o11 py0_12 py0_13 py0_14 py2_0 py2_1 py2_2 py2_3 py2_4 py2_5 py2_13 py2_14 py2_15 py2_16 py2_17 py33_1 py33_2 fy34 py35_1 py35_2 fy36 py37_1 py37_2 fy38 py39_1 py39_2 fy40 bpy0_1 bpy0_12 bpy0_13 bpy2_1 bpy2_2 bpy2_3 bpy2_4 bpy2_5 bpy2_13 bpy2_14 bpy2_15 bpy2_16 bpy2_17 bpy33_1 bpy35_1 bpy37_1 bpy39_1) mt_X9_refusalOfTold q_5_21 ⟨Nat.le_of_ble_eq_true rfl, Nat.le_of_ble_eq_true rfl⟩ hK hP hD hS hA hE [0, 1, 8, 9, 10, 11, 12, 13, 14, 15, 16] rfl rfl 0 rfl rfl rfl rfl hl.1 rfl (Nat.le_of_ble_eq_true rfl) dX9_high_4 ⟨Nat.le_of_ble_eq_true rfl, Nat.le_of_ble_eq_true rfl⟩) hP hD hS hA [0, 1, 8, 9, 10, 11, 12, 13, 14, 15, 16] [2, 3, 4, 5, 6, 7, 17, 18, 19, 20, 21, 22, 23, 24, 25, 26] rfl rfl rfl (by decide) (fun r_1 w H locs hw hP hD hS => ?_)
  rcases hw with ⟨c_2, rfl, g_3, rfl⟩ | ⟨c_4, c_5, rfl, g_6, rfl⟩ | ⟨c_7, c_8, c_9, rfl, g_10, rfl⟩ | ⟨c_11, c_12, c_13, c_14, rfl, g_15, rfl⟩ | ⟨c_16, c_17, c_18, c_19, c_20, c_21, c_22, rfl, g_23, rfl⟩ | ⟨c_24, c_25, c_26, c_27, c_28, c_29, c_30, c_31, rfl, g_32, rfl⟩ | ⟨c_33, c_34, c_35, c_36, c_37, c_38, c_39, c_40, rfl, g_41, rfl⟩ | ⟨c_42, c_43, c_44, c_45, c_46, c_47, c_48, c_49, rfl, g_50, rfl⟩ | ⟨c_51, c_52, c_53, c_54, c_55, c_56, rfl, g_57, rfl⟩ | ⟨c_58, c_59, c_60, c_61, c_62, c_63, c_64, rfl, g_65, rfl⟩ | ⟨c_66, c_67, c_68, c_69, c_70, c_71, c_72, c_73, rfl, g_74, rfl⟩ | ⟨c_75, c_76, c_77, c_78, c_79, c_80, c_81, c_82, rfl, g_83, rfl⟩ | ⟨c_84, c_85, c_86, c_87, c_88, c_89, c_90, c_91, rfl, g_92, rfl⟩ | ⟨c_93, c_94, c_95, c_96, c_97, c_98, rfl, g_99, rfl⟩ | ⟨c_100, c_101, c_102, c_103, c_104, c_105, c_106, rfl, g_107, rfl⟩ | ⟨c_108, c_109, c_110, c_111, c_112, c_113, c_114, c_115, rfl, g_116, rfl⟩ | ⟨c_117, c_118, c_119, c_120, c_121, c_122, c_123, c_124, rfl, g_125, rfl⟩ | ⟨c_126, c_127, c_128, c_129, c_130, c_131, c_132, c_133, rfl, g_134, rfl⟩ | ⟨c_135, c_136, c_137, c_138, c_139, c_140, rfl, g_141, rfl⟩ | ⟨c_142, c_143, c_144, c_145, c_146, c_147, c_148, rfl, g_149, rfl⟩ | ⟨c_150, c_151, c_152, c_153, c_154, c_155, c_156, c_157, rfl, g_158, rfl⟩ | ⟨c_159, c_160, c_161, c_162, c_163, c_164, c_165, c_166, rfl, g_167, rfl⟩ | ⟨c_168, c_169, c_170, c_171, c_172, c_173, c_174, c_175, rfl, g_176, rfl⟩ | ⟨c_177, c_178, c_179, c_180, c_181, c_182, rfl, g_183, rfl⟩
  · have hP : va_P V.1 vwCl [(y 3, aI V 4 fy3), (y 9, aI V 900 fy9), (y 19, .inr (4, o4_rrrrrr (y 2) (y 20) (y 21) (y 22) (y 23) (y 24))), (y 20, aI V 2000 fy20), (y 21, aI V 6 fy21), (y 22, aI V 64 fy22), (Yw 0, .inr (8, o8_iirrriirrrrrrriii pYw0_0 (nI n) (Yw 1) (Yw 2) wa pYw0_5 pYw0_6 (y 19) (Yw 4) (Yw 5) (Yw 6) (Yw 7) (Yw 8) wb pYw0_14 pYw0_15 pYw0_16)), (Yw 1, aI V n fYw1), (Yw 2, aI V n fYw2), (wa, aI V n fwa), (Yw 4, aI V L fYw4), (Yw 5, aI V n fYw5), (Yw 6, aI V (n * 4) fYw6), (Yw 7, aI V n fYw7), (Yw 8, aI V 4 fYw8), (wb, aI V n fwb), (y 0, .inr (9, o9_rirrrrrrrrrviii (y 1) py0_1 (y 2) (y 10) (y 19) (y 25) (y 26) (y 30) (y 31) (y 32) (Yw 0) o11 py0_12 py0_13 py0_14)), (y 2, .inr (1, o1_iiiiiirrrrrrriiiii py2_0 py2_1 py2_2 py2_3 py2_4 py2_5 (y 3) (y 4) (y 5) (y 6) (y 7) (y 8) (y 9) py2_13 py2_14 py2_15 py2_16 py2_17)), (y 30, aT V 4 (va_up (va_up (va_up (va_up (fun _ => none) 0 (some (y 33))) 1 (some (y 35))) 2 (some (y 37))) 3 (some (y 39)))), (y 33, .inr (7, o7_rii (y 34) py33_1 py33_2)), (y 34, aJ V 40 fy34), (y 35, .inr (7, o7_rii (y 36) py35_1 py35_2)), (y 36, aJ V 40 fy36), (y 37, .inr (7, o7_rii (y 38) py37_1 py37_2)), (y 38, aJ V 40 fy38), (y 39, .inr (7, o7_rii (y 40) py39_1 py39_2)), (y 40, aJ V 40 fy40)] H := hP
    have hD := cpD hP hD
    have b_184 : iv (-2147483648) (-1) a1 := iv_l1 c_2 (iv_top a1) (iv_c (0 : Int32) (a := 0) (b := 0) (by decide)) (by first | decide | omega)
    refine lv_istore_n (lv' := [(3, .int (-2)), (0, .ref (y 0)), (1, .int a1), (2, .int a2)]) hx hb dX9_high_7 rfl hl (by decide) rfl (fun ls hl => ?_)
    refine lv_iload_n hx hb dX9_high_8 rfl (lv_at hl 0 rfl) ?_
    refine lv_if_eq (tgt := 15) hx hb dX9_high_9 (by decide) (fun c_186 => absurd c_186 (by decide)) (fun _ => ?_)
    refine lv_iload_n hx hb dX9_high_12 rfl (lv_at hl 0 rfl) ?_
    refine lv_i2l (v := (-2)) hx hb dX9_high_13 (by decide +kernel) ?_
    have z_0 := Int32.lt_iff_toInt_lt.mp hq0
    have z_1 := Int32.lt_iff_toInt_lt.mp c_2
    have k_0 : (0 : Int32).toInt = 0 := (by decide)
    exfalso
    have g_0 := hf3
    exact absurd (g_3.trans g_0) (by decide)
  · have hP : va_P V.1 vwCl [(y 3, aI V 4 fy3), (y 9, aI V 900 fy9), (y 19, .inr (4, o4_rrrrrr (y 2) (y 20) (y 21) (y 22) (y 23) (y 24))), (y 20, aI V 2000 fy20), (y 21, aI V 6 fy21), (y 22, aI V 64 fy22), (Yw 0, .inr (8, o8_iirrriirrrrrrriii pYw0_0 (nI n) (Yw 1) (Yw 2) wa pYw0_5 pYw0_6 (y 19) (Yw 4) (Yw 5) (Yw 6) (Yw 7) (Yw 8) wb pYw0_14 pYw0_15 pYw0_16)), (Yw 1, aI V n fYw1), (Yw 2, aI V n fYw2), (wa, aI V n fwa), (Yw 4, aI V L fYw4), (Yw 5, aI V n fYw5), (Yw 6, aI V (n * 4) fYw6), (Yw 7, aI V n fYw7), (Yw 8, aI V 4 fYw8), (wb, aI V n fwb), (y 0, .inr (9, o9_rirrrrrrrrrviii (y 1) py0_1 (y 2) (y 10) (y 19) (y 25) (y 26) (y 30) (y 31) (y 32) (Yw 0) o11 py0_12 py0_13 py0_14)), (y 2, .inr (1, o1_iiiiiirrrrrrriiiii py2_0 py2_1 py2_2 py2_3 py2_4 py2_5 (y 3) (y 4) (y 5) (y 6) (y 7) (y 8) (y 9) py2_13 py2_14 py2_15 py2_16 py2_17)), (y 30, aT V 4 (va_up (va_up (va_up (va_up (fun _ => none) 0 (some (y 33))) 1 (some (y 35))) 2 (some (y 37))) 3 (some (y 39)))), (y 33, .inr (7, o7_rii (y 34) py33_1 py33_2)), (y 34, aJ V 40 fy34), (y 35, .inr (7, o7_rii (y 36) py35_1 py35_2)), (y 36, aJ V 40 fy36), (y 37, .inr (7, o7_rii (y 38) py37_1 py37_2)), (y 38, aJ V 40 fy38), (y 39, .inr (7, o7_rii (y 40) py39_1 py39_2)), (y 40, aJ V 40 fy40)] H := hP
    have hD := cpD hP hD
    have b_187 : iv 0 2147483647 a1 := iv_e2 (Int32.not_lt.mp c_4) (iv_c (0 : Int32) (a := 0) (b := 0) (by decide)) (iv_top a1) (by first | decide | omega)
    have b_188 : iv 4 2147483647 a1 := iv_e2 c_5 (iv_c (4 : Int32) (a := 4) (b := 4) (by decide)) b_187 (by first | decide | omega)
    refine lv_istore_n (lv' := [(3, .int (-2)), (0, .ref (y 0)), (1, .int a1), (2, .int a2)]) hx hb dX9_high_7 rfl hl (by decide) rfl (fun ls hl => ?_)
    refine lv_iload_n hx hb dX9_high_8 rfl (lv_at hl 0 rfl) ?_
    refine lv_if_eq (tgt := 15) hx hb dX9_high_9 (by decide) (fun c_190 => absurd c_190 (by decide)) (fun _ => ?_)
    refine lv_iload_n hx hb dX9_high_12 rfl (lv_at hl 0 rfl) ?_
    refine lv_i2l (v := (-2)) hx hb dX9_high_13 (by decide +kernel) ?_
    have z_0 := Int32.lt_iff_toInt_lt.mp hq0
    have z_1 := Int32.le_iff_toInt_le.mp (Int32.not_lt.mp c_4)
    have z_2 := Int32.le_iff_toInt_le.mp c_5
    have k_0 : (0 : Int32).toInt = 0 := (by decide)
    have k_4 : (4 : Int32).toInt = 4 := (by decide)
    exfalso
    have g_0 := hf3
    exact absurd (g_6.trans g_0) (by decide)
  · have hP : va_P V.1 vwCl [(y 3, aI V 4 fy3), (y 9, aI V 900 fy9), (y 19, .inr (4, o4_rrrrrr (y 2) (y 20) (y 21) (y 22) (y 23) (y 24))), (y 20, aI V 2000 fy20), (y 21, aI V 6 fy21), (y 22, aI V 64 fy22), (Yw 0, .inr (8, o8_iirrriirrrrrrriii pYw0_0 (nI n) (Yw 1) (Yw 2) wa pYw0_5 pYw0_6 (y 19) (Yw 4) (Yw 5) (Yw 6) (Yw 7) (Yw 8) wb pYw0_14 pYw0_15 pYw0_16)), (Yw 1, aI V n fYw1), (Yw 2, aI V n fYw2), (wa, aI V n fwa), (Yw 4, aI V L fYw4), (Yw 5, aI V n fYw5), (Yw 6, aI V (n * 4) fYw6), (Yw 7, aI V n fYw7), (Yw 8, aI V 4 fYw8), (wb, aI V n fwb), (y 0, .inr (9, o9_rirrrrrrrrrviii (y 1) py0_1 (y 2) (y 10) (y 19) (y 25) (y 26) (y 30) (y 31) (y 32) (Yw 0) o11 py0_12 py0_13 py0_14)), (y 2, .inr (1, o1_iiiiiirrrrrrriiiii py2_0 py2_1 py2_2 py2_3 py2_4 py2_5 (y 3) (y 4) (y 5) (y 6) (y 7) (y 8) (y 9) py2_13 py2_14 py2_15 py2_16 py2_17)), (y 30, aT V 4 (va_up (va_up (va_up (va_up (fun _ => none) 0 (some (y 33))) 1 (some (y 35))) 2 (some (y 37))) 3 (some (y 39)))), (y 33, .inr (7, o7_rii (y 34) py33_1 py33_2)), (y 34, aJ V 40 fy34), (y 35, .inr (7, o7_rii (y 36) py35_1 py35_2)), (y 36, aJ V 40 fy36), (y 37, .inr (7, o7_rii (y 38) py37_1 py37_2)), (y 38, aJ V 40 fy38), (y 39, .inr (7, o7_rii (y 40) py39_1 py39_2)), (y 40, aJ V 40 fy40)] H := hP
    have hD := cpD hP hD
    have b_191 : iv 0 2147483647 a1 := iv_e2 (Int32.not_lt.mp c_7) (iv_c (0 : Int32) (a := 0) (b := 0) (by decide)) (iv_top a1) (by first | decide | omega)
    have b_192 : iv 0 3 a1 := iv_l1 (Int32.not_le.mp c_8) b_191 (iv_c (4 : Int32) (a := 4) (b := 4) (by decide)) (by first | decide | omega)
    have b_193 : iv (-2147483648) (-1) a2 := iv_l1 c_9 (iv_top a2) (iv_c (0 : Int32) (a := 0) (b := 0) (by decide)) (by first | decide | omega)
    refine lv_istore_n (lv' := [(3, .int (-2)), (0, .ref (y 0)), (1, .int a1), (2, .int a2)]) hx hb dX9_high_7 rfl hl (by decide) rfl (fun ls hl => ?_)
    refine lv_iload_n hx hb dX9_high_8 rfl (lv_at hl 0 rfl) ?_
    refine lv_if_eq (tgt := 15) hx hb dX9_high_9 (by decide) (fun c_195 => absurd c_195 (by decide)) (fun _ => ?_)
    refine lv_iload_n hx hb dX9_high_12 rfl (lv_at hl 0 rfl) ?_
    refine lv_i2l (v := (-2)) hx hb dX9_high_13 (by decide +kernel) ?_
    have z_0 := Int32.lt_iff_toInt_lt.mp hq0
    have z_1 := Int32.le_iff_toInt_le.mp (Int32.not_lt.mp c_7)
    have z_2 := Int32.lt_iff_toInt_lt.mp (Int32.not_le.mp c_8)
    have z_3 := Int32.lt_iff_toInt_lt.mp c_9
    have k_0 : (0 : Int32).toInt = 0 := (by decide)
    have k_4 : (4 : Int32).toInt = 4 := (by decide)
    exfalso
    have g_0 := hf3
    exact absurd (g_10.trans g_0) (by decide)
  · have hP : va_P V.1 vwCl [(y 3, aI V 4 fy3), (y 9, aI V 900 fy9), (y 19, .inr (4, o4_rrrrrr (y 2) (y 20) (y 21) (y 22) (y 23) (y 24))), (y 20, aI V 2000 fy20), (y 21, aI V 6 fy21), (y 22, aI V 64 fy22), (Yw 0, .inr (8, o8_iirrriirrrrrrriii pYw0_0 (nI n) (Yw 1) (Yw 2) wa pYw0_5 pYw0_6 (y 19) (Yw 4) (Yw 5) (Yw 6) (Yw 7) (Yw 8) wb pYw0_14 pYw0_15 pYw0_16)), (Yw 1, aI V n fYw1), (Yw 2, aI V n fYw2), (wa, aI V n fwa), (Yw 4, aI V L fYw4), (Yw 5, aI V n fYw5), (Yw 6, aI V (n * 4) fYw6), (Yw 7, aI V n fYw7), (Yw 8, aI V 4 fYw8), (wb, aI V n fwb), (y 0, .inr (9, o9_rirrrrrrrrrviii (y 1) py0_1 (y 2) (y 10) (y 19) (y 25) (y 26) (y 30) (y 31) (y 32) (Yw 0) o11 py0_12 py0_13 py0_14)), (y 2, .inr (1, o1_iiiiiirrrrrrriiiii py2_0 py2_1 py2_2 py2_3 py2_4 py2_5 (y 3) (y 4) (y 5) (y 6) (y 7) (y 8) (y 9) py2_13 py2_14 py2_15 py2_16 py2_17)), (y 30, aT V 4 (va_up (va_up (va_up (va_up (fun _ => none) 0 (some (y 33))) 1 (some (y 35))) 2 (some (y 37))) 3 (some (y 39)))), (y 33, .inr (7, o7_rii (y 34) py33_1 py33_2)), (y 34, aJ V 40 fy34), (y 35, .inr (7, o7_rii (y 36) py35_1 py35_2)), (y 36, aJ V 40 fy36), (y 37, .inr (7, o7_rii (y 38) py37_1 py37_2)), (y 38, aJ V 40 fy38), (y 39, .inr (7, o7_rii (y 40) py39_1 py39_2)), (y 40, aJ V 40 fy40)] H := hP
    have hD := cpD hP hD
    have b_196 : iv 0 2147483647 a1 := iv_e2 (Int32.not_lt.mp c_11) (iv_c (0 : Int32) (a := 0) (b := 0) (by decide)) (iv_top a1) (by first | decide | omega)
    have b_197 : iv 0 3 a1 := iv_l1 (Int32.not_le.mp c_12) b_196 (iv_c (4 : Int32) (a := 4) (b := 4) (by decide)) (by first | decide | omega)
    have b_198 : iv 0 2147483647 a2 := iv_e2 (Int32.not_lt.mp c_13) (iv_c (0 : Int32) (a := 0) (b := 0) (by decide)) (iv_top a2) (by first | decide | omega)
    refine lv_istore_n (lv' := [(3, .int (-2)), (0, .ref (y 0)), (1, .int a1), (2, .int a2)]) hx hb dX9_high_7 rfl hl (by decide) rfl (fun ls hl => ?_)
    refine lv_iload_n hx hb dX9_high_8 rfl (lv_at hl 0 rfl) ?_
    refine lv_if_eq (tgt := 15) hx hb dX9_high_9 (by decide) (fun c_200 => absurd c_200 (by decide)) (fun _ => ?_)
    refine lv_iload_n hx hb dX9_high_12 rfl (lv_at hl 0 rfl) ?_
    refine lv_i2l (v := (-2)) hx hb dX9_high_13 (by decide +kernel) ?_
    have z_0 := Int32.lt_iff_toInt_lt.mp hq0
    have z_1 := Int32.le_iff_toInt_le.mp (Int32.not_lt.mp c_11)
    have z_2 := Int32.lt_iff_toInt_lt.mp (Int32.not_le.mp c_12)
    have z_3 := Int32.le_iff_toInt_le.mp (Int32.not_lt.mp c_13)
    have z_4 := Int32.le_iff_toInt_le.mp c_14
    have k_0 : (0 : Int32).toInt = 0 := (by decide)
    have k_4 : (4 : Int32).toInt = 4 := (by decide)
    exfalso
    have g_0 := hf3
    exact absurd (g_15.trans g_0) (by decide)
  · have hP : va_P V.1 vwCl [(y 3, aI V 4 fy3), (y 9, aI V 900 fy9), (y 19, .inr (4, o4_rrrrrr (y 2) (y 20) (y 21) (y 22) (y 23) (y 24))), (y 20, aI V 2000 fy20), (y 21, aI V 6 fy21), (y 22, aI V 64 fy22), (Yw 0, .inr (8, o8_iirrriirrrrrrriii pYw0_0 (nI n) (Yw 1) (Yw 2) wa pYw0_5 pYw0_6 (y 19) (Yw 4) (Yw 5) (Yw 6) (Yw 7) (Yw 8) wb pYw0_14 pYw0_15 pYw0_16)), (Yw 1, aI V n fYw1), (Yw 2, aI V n fYw2), (wa, aI V n fwa), (Yw 4, aI V L fYw4), (Yw 5, aI V n fYw5), (Yw 6, aI V (n * 4) fYw6), (Yw 7, aI V n fYw7), (Yw 8, aI V 4 fYw8), (wb, aI V n fwb), (y 0, .inr (9, o9_rirrrrrrrrrviii (y 1) py0_1 (y 2) (y 10) (y 19) (y 25) (y 26) (y 30) (y 31) (y 32) (Yw 0) o11 py0_12 py0_13 py0_14)), (y 2, .inr (1, o1_iiiiiirrrrrrriiiii py2_0 py2_1 py2_2 py2_3 py2_4 py2_5 (y 3) (y 4) (y 5) (y 6) (y 7) (y 8) (y 9) py2_13 py2_14 py2_15 py2_16 py2_17)), (y 30, aT V 4 (va_up (va_up (va_up (va_up (fun _ => none) 0 (some (y 33))) 1 (some (y 35))) 2 (some (y 37))) 3 (some (y 39)))), (y 33, .inr (7, o7_rii (y 34) py33_1 py33_2)), (y 34, aJ V 40 fy34), (y 35, .inr (7, o7_rii (y 36) py35_1 py35_2)), (y 36, aJ V 40 fy36), (y 37, .inr (7, o7_rii (y 38) py37_1 py37_2)), (y 38, aJ V 40 fy38), (y 39, .inr (7, o7_rii (y 40) py39_1 py39_2)), (y 40, aJ V 40 fy40)] H := hP
    have hD := cpD hP hD
    have b_201 : iv 0 2147483647 a2 := iv_e2 (Int32.not_lt.mp c_18) (iv_c (0 : Int32) (a := 0) (b := 0) (by decide)) (iv_top a2) (by first | decide | omega)
    have b_202 : iv 0 3 a2 := iv_l1 (Int32.not_le.mp c_19) b_201 bpy2_1 (by first | decide | omega)
    have b_203 : iv 1 4 py2_1 := iv_l2 (Int32.not_le.mp c_19) b_201 bpy2_1 (by first | decide | omega)
    have b_204 : iv 0 0 a1 := iv_q c_20 (iv_c (0 : Int32) (a := 0) (b := 0) (by decide))
    have b_205 : iv 0 40 py33_1 := iv_e2 c_21 (iv_c (0 : Int32) (a := 0) (b := 0) (by decide)) bpy33_1 (by first | decide | omega)
    have b_206 : iv 0 0 py33_1 := iv_l1 c_22 b_205 (iv_c (1 : Int32) (a := 1) (b := 1) (by decide)) (by first | decide | omega)
    refine lv_istore_n (lv' := [(3, .int (-4)), (0, .ref (y 0)), (1, .int a1), (2, .int a2)]) hx hb dX9_high_7 rfl hl (by decide) rfl (fun ls hl => ?_)
    refine lv_iload_n hx hb dX9_high_8 rfl (lv_at hl 0 rfl) ?_
    refine lv_if_eq (tgt := 15) hx hb dX9_high_9 (by decide) (fun c_208 => absurd c_208 (by decide)) (fun _ => ?_)
    refine lv_iload_n hx hb dX9_high_12 rfl (lv_at hl 0 rfl) ?_
    refine lv_i2l (v := (-4)) hx hb dX9_high_13 (by decide +kernel) ?_
    have z_0 := Int32.lt_iff_toInt_lt.mp hq0
    have z_1 := Int32.le_iff_toInt_le.mp (Int32.not_lt.mp c_16)
    have z_2 := Int32.lt_iff_toInt_lt.mp (Int32.not_le.mp c_17)
    have z_3 := Int32.le_iff_toInt_le.mp (Int32.not_lt.mp c_18)
    have z_4 := Int32.lt_iff_toInt_lt.mp (Int32.not_le.mp c_19)
    have z_5 := congrArg Int32.toInt c_20
    have z_6 := Int32.le_iff_toInt_le.mp c_21
    have z_7 := Int32.lt_iff_toInt_lt.mp c_22
    have k_0 : (0 : Int32).toInt = 0 := (by decide)
    have k_1 : (1 : Int32).toInt = 1 := (by decide)
    have k_4 : (4 : Int32).toInt = 4 := (by decide)
    exfalso
    have g_0 := hf3
    exact absurd (g_23.trans g_0) (by decide)
  · have hP : va_P V.1 vwCl [(y 3, aI V 4 fy3), (y 9, aI V 900 fy9), (y 19, .inr (4, o4_rrrrrr (y 2) (y 20) (y 21) (y 22) (y 23) (y 24))), (y 20, aI V 2000 fy20), (y 21, aI V 6 fy21), (y 22, aI V 64 fy22), (Yw 0, .inr (8, o8_iirrriirrrrrrriii pYw0_0 (nI n) (Yw 1) (Yw 2) wa pYw0_5 pYw0_6 (y 19) (Yw 4) (Yw 5) (Yw 6) (Yw 7) (Yw 8) wb pYw0_14 pYw0_15 pYw0_16)), (Yw 1, aI V n fYw1), (Yw 2, aI V n fYw2), (wa, aI V n fwa), (Yw 4, aI V L fYw4), (Yw 5, aI V n fYw5), (Yw 6, aI V (n * 4) fYw6), (Yw 7, aI V n fYw7), (Yw 8, aI V 4 fYw8), (wb, aI V n fwb), (y 0, .inr (9, o9_rirrrrrrrrrviii (y 1) py0_1 (y 2) (y 10) (y 19) (y 25) (y 26) (y 30) (y 31) (y 32) (Yw 0) o11 py0_12 py0_13 py0_14)), (y 2, .inr (1, o1_iiiiiirrrrrrriiiii py2_0 py2_1 py2_2 py2_3 py2_4 py2_5 (y 3) (y 4) (y 5) (y 6) (y 7) (y 8) (y 9) py2_13 py2_14 py2_15 py2_16 py2_17)), (y 30, aT V 4 (va_up (va_up (va_up (va_up (fun _ => none) 0 (some (y 33))) 1 (some (y 35))) 2 (some (y 37))) 3 (some (y 39)))), (y 33, .inr (7, o7_rii (y 34) py33_1 py33_2)), (y 34, aJ V 40 fy34), (y 35, .inr (7, o7_rii (y 36) py35_1 py35_2)), (y 36, aJ V 40 fy36), (y 37, .inr (7, o7_rii (y 38) py37_1 py37_2)), (y 38, aJ V 40 fy38), (y 39, .inr (7, o7_rii (y 40) py39_1 py39_2)), (y 40, aJ V 40 fy40)] H := hP
    have hD := cpD hP hD
    have b_209 : iv 0 2147483647 a2 := iv_e2 (Int32.not_lt.mp c_26) (iv_c (0 : Int32) (a := 0) (b := 0) (by decide)) (iv_top a2) (by first | decide | omega)
    have b_210 : iv 0 3 a2 := iv_l1 (Int32.not_le.mp c_27) b_209 bpy2_1 (by first | decide | omega)
    have b_211 : iv 1 4 py2_1 := iv_l2 (Int32.not_le.mp c_27) b_209 bpy2_1 (by first | decide | omega)
    have b_212 : iv 0 0 a1 := iv_q c_28 (iv_c (0 : Int32) (a := 0) (b := 0) (by decide))
    have b_213 : iv 0 40 py33_1 := iv_e2 c_29 (iv_c (0 : Int32) (a := 0) (b := 0) (by decide)) bpy33_1 (by first | decide | omega)
    have b_214 : iv 1 40 py33_1 := iv_e2 (Int32.not_lt.mp c_30) (iv_c (1 : Int32) (a := 1) (b := 1) (by decide)) b_213 (by first | decide | omega)
    have b_215 : iv 1 8 py33_1 := iv_e1 c_31 b_214 (iv_c (8 : Int32) (a := 8) (b := 8) (by decide)) (by first | decide | omega)
    refine lv_istore_n (lv' := [(3, .int 0), (0, .ref (y 0)), (1, .int a1), (2, .int a2)]) hx hb dX9_high_7 rfl hl (by decide) rfl (fun ls hl => ?_)
    refine lv_iload_n hx hb dX9_high_8 rfl (lv_at hl 0 rfl) ?_
    refine lv_if_eq (tgt := 15) hx hb dX9_high_9 (by decide) (fun _ => ?_) (fun c_217 => absurd c_217 (by decide))
    refine lv_aload_n hx hb dX9_high_15 rfl (lv_at hl 1 rfl) ?_
    refine lv_aload_n hx hb dX9_high_16 rfl (lv_at hl 1 rfl) ?_
    refine va_get (ci := 9) (v := .ref (y 30)) (C := RX9) (T := TX9) (N := 15) hx hb hg inX9 hown hK hP 16 rfl rfl 7 (by decide) (hg _ q_2_43) (fun _ h9 => h9) rfl dX9_high_17 ?_
    refine lv_iload_n hx hb dX9_high_20 rfl (lv_at hl 2 rfl) ?_
    have c_218 : a1 = 0 := by have q9 := b_212; unfold iv at q9; simp only [tI_eq, (by decide : (0 : Int32).toInt = 0)]; omega
    rcases c_218 with rfl
    · refine va_aldq hx hb hK hP 18 4 rfl rfl (vin (by decide +kernel)) dX9_high_21 ?_
      refine W.eq (g2 := F0 m 22 ls (.ref (y 33) :: .ref (y 0) :: [])) rfl ?_
      refine va_get (ci := 7) (v := .int py33_1) (C := RX7) (T := TX7) (N := 3) hx hb hg inX7 hown hK hP 19 rfl rfl 1 (by decide) (hg _ q_2_2) (fun _ h9 => h9) rfl dX9_high_22 ?_
      refine jnR (wr := [(y 30, aT V 4 (va_up (va_up (va_up (va_up (fun _ => none) 0 (some (y 33))) 1 (some (y 35))) 2 (some (y 37))) 3 (some (y 39)))), (y 33, .inr (7, o7_rii (y 34) py33_1 py33_2)), (y 34, aJ V 40 fy34), (y 35, .inr (7, o7_rii (y 36) py35_1 py35_2)), (y 36, aJ V 40 fy36), (y 37, .inr (7, o7_rii (y 38) py37_1 py37_2)), (y 38, aJ V 40 fy38), (y 39, .inr (7, o7_rii (y 40) py39_1 py39_2)), (y 40, aJ V 40 fy40)]) (rnV (rest := []) ⟨hx, hb, hml, hown, hg⟩ (k_X9_waysFromNow_2 l V n L Yw y D9 py33_1 fy3 fy9 fy20 fy21 fy22 pYw0_0 wa pYw0_5 pYw0_6 wb pYw0_14 pYw0_15 pYw0_16 fYw1 fYw2 fwa fYw4 fYw5 fYw6 fYw7 fYw8 fwb py0_1 o11 py0_12 py0_13 py0_14 py2_0 py2_1 py2_2 py2_3 py2_4 py2_5 py2_13 py2_14 py2_15 py2_16 py2_17 hn hL hq0 tfy20 bpYw0_0 bpYw0_5 bpYw0_6 bpYw0_14 bpYw0_15 bpYw0_16 tfYw1 tfYw4 tfYw5 tfYw6 tfYw7 bpy0_1 bpy0_12 bpy0_13 (iv_w b_211 (by first | decide | omega)) bpy2_2 bpy2_3 bpy2_4 bpy2_5 bpy2_13 bpy2_14 bpy2_15 bpy2_16 bpy2_17 hf0 hf1 hf2 hL9 hK9) mt_X9_waysFromNow q_4_52 ⟨Nat.le_of_ble_eq_true rfl, Nat.le_of_ble_eq_true rfl⟩ hK hP hD hS hA hE [0, 1, 2, 3, 4, 5, 6, 7, 8, 9, 10, 11, 12, 13, 14, 15, 16, 17] rfl rfl 16 rfl rfl rfl rfl hl.1 rfl (Nat.le_of_ble_eq_true rfl) dX9_high_25 ⟨Nat.le_of_ble_eq_true rfl, Nat.le_of_ble_eq_true rfl⟩) hP hD hS hA [0, 1, 2, 3, 4, 5, 6, 7, 8, 9, 10, 11, 12, 13, 14, 15, 16, 17] [18, 19, 20, 21, 22, 23, 24, 25, 26] rfl rfl rfl (by decide) (fun r_219 w H locs hw hP hD hS => ?_)
      refine W.widen (k := 10) (n := 46481) (Nat.le_of_ble_eq_true rfl) (Nat.le_of_ble_eq_true rfl) ?_
      obtain ⟨n, L, Yw, wa_220, wb_221, f_222, f_223, f_224, v_225, v_226, v_227, v_228, v_229, v_230, f_231, f_232, f_233, f_234, f_235, f_236, f_237, f_238, f_239, hn, hL, tf_222, bv_225, bv_226, bv_227, bv_228, bv_229, bv_230, tf_231, tf_234, tf_235, tf_236, tf_237, eW, g_240, g_241, g_242, g_243, g_244, kn_245, rfl⟩ := hw
      have hP : va_P V.1 vwCl [(y 30, aT V 4 (va_up (va_up (va_up (va_up (fun _ => none) 0 (some (y 33))) 1 (some (y 35))) 2 (some (y 37))) 3 (some (y 39)))), (y 33, .inr (7, o7_rii (y 34) py33_1 py33_2)), (y 34, aJ V 40 fy34), (y 35, .inr (7, o7_rii (y 36) py35_1 py35_2)), (y 36, aJ V 40 fy36), (y 37, .inr (7, o7_rii (y 38) py37_1 py37_2)), (y 38, aJ V 40 fy38), (y 39, .inr (7, o7_rii (y 40) py39_1 py39_2)), (y 40, aJ V 40 fy40), (y 3, aI V 4 fy3), (y 9, aI V 900 fy9), (y 19, .inr (4, o4_rrrrrr (y 2) (y 20) (y 21) (y 22) (y 23) (y 24))), (y 20, aI V 2000 f_222), (y 21, aI V 6 f_223), (y 22, aI V 64 f_224), (y 0, .inr (9, o9_rirrrrrrrrrviii (y 1) py0_1 (y 2) (y 10) (y 19) (y 25) (y 26) (y 30) (y 31) (y 32) (Yw 0) o11 py0_12 py0_13 py0_14)), (y 2, .inr (1, o1_iiiiiirrrrrrriiiii py2_0 py2_1 py2_2 py2_3 py2_4 py2_5 (y 3) (y 4) (y 5) (y 6) (y 7) (y 8) (y 9) py2_13 py2_14 py2_15 py2_16 py2_17)), (Yw 0, .inr (8, o8_iirrriirrrrrrriii v_225 (nI n) (Yw 1) (Yw 2) wa_220 v_226 v_227 (y 19) (Yw 4) (Yw 5) (Yw 6) (Yw 7) (Yw 8) wb_221 v_228 v_229 v_230)), (Yw 1, aI V n f_231), (Yw 2, aI V n f_232), (wa_220, aI V n f_233), (Yw 4, aI V L f_234), (Yw 5, aI V n f_235), (Yw 6, aI V (n * 4) f_236), (Yw 7, aI V n f_237), (Yw 8, aI V 4 f_238), (wb_221, aI V n f_239)] H := hP
      have hD := cpD hP hD
      rw [← eW]
      refine lv_astore (lv' := [(4, .ref (Yw 0)), (3, .int 0), (0, .ref (y 0)), (1, .int 0), (2, .int a2)]) hx hb dX9_high_28 hl (by decide) rfl (fun ls hl => ?_)
      refine lv_aload hx hb dX9_high_30 (lv_at hl 0 rfl) ?_
      refine lv_aload_n hx hb dX9_high_32 rfl (lv_at hl 2 rfl) ?_
      refine va_get (ci := 9) (v := .ref (y 30)) (C := RX9) (T := TX9) (N := 15) hx hb hg inX9 hown hK hP 15 rfl rfl 7 (by decide) (hg _ q_2_43) (fun _ h9 => h9) rfl dX9_high_33 ?_
      refine lv_iload_n hx hb dX9_high_36 rfl (lv_at hl 3 rfl) ?_
      refine va_aldq hx hb hK hP 0 4 rfl rfl (vin (by decide +kernel)) dX9_high_37 ?_
      refine W.eq (g2 := F0 m 38 ls (.ref (y 33) :: .ref (Yw 0) :: [])) rfl ?_
      refine lv_iload_n hx hb dX9_high_38 rfl (lv_at hl 4 rfl) ?_
      refine jnV (wr := [(y 30, aT V 4 (va_up (va_up (va_up (va_up (fun _ => none) 0 (some (y 33))) 1 (some (y 35))) 2 (some (y 37))) 3 (some (y 39)))), (y 35, .inr (7, o7_rii (y 36) py35_1 py35_2)), (y 36, aJ V 40 fy36), (y 37, .inr (7, o7_rii (y 38) py37_1 py37_2)), (y 38, aJ V 40 fy38), (y 39, .inr (7, o7_rii (y 40) py39_1 py39_2)), (y 40, aJ V 40 fy40), (y 3, aI V 4 fy3), (y 9, aI V 900 fy9), (y 19, .inr (4, o4_rrrrrr (y 2) (y 20) (y 21) (y 22) (y 23) (y 24))), (y 20, aI V 2000 f_222), (y 21, aI V 6 f_223), (y 22, aI V 64 f_224), (y 0, .inr (9, o9_rirrrrrrrrrviii (y 1) py0_1 (y 2) (y 10) (y 19) (y 25) (y 26) (y 30) (y 31) (y 32) (Yw 0) o11 py0_12 py0_13 py0_14)), (y 2, .inr (1, o1_iiiiiirrrrrrriiiii py2_0 py2_1 py2_2 py2_3 py2_4 py2_5 (y 3) (y 4) (y 5) (y 6) (y 7) (y 8) (y 9) py2_13 py2_14 py2_15 py2_16 py2_17)), (Yw 4, aI V L f_234), (Yw 5, aI V n f_235), (Yw 7, aI V n f_237), (Yw 8, aI V 4 f_238)]) (rnV (rest := []) ⟨hx, hb, hml, hown, hg⟩ (k_X8_spreadAsTold_0 l V n L Yw y a2 py33_1 py33_2 fy34 v_225 wa_220 v_226 v_227 wb_221 v_228 v_229 v_230 f_231 f_232 f_233 f_236 f_239 hn hL b_210 (iv_w b_215 (by first | decide | omega)) bv_225 bv_226 bv_227 bv_228 bv_229 bv_230 tf_231 tf_236) mt_X8_spreadAsTold q_5_26 ⟨Nat.le_of_ble_eq_true rfl, Nat.le_of_ble_eq_true rfl⟩ hK hP hD hS hA hE [1, 2, 17, 18, 19, 20, 23, 26] rfl rfl 17 rfl rfl rfl rfl hl.1 rfl (Nat.le_of_ble_eq_true rfl) dX9_high_39 ⟨Nat.le_of_ble_eq_true rfl, Nat.le_of_ble_eq_true rfl⟩) hP hD hS hA [1, 2, 17, 18, 19, 20, 23, 26] [0, 3, 4, 5, 6, 7, 8, 9, 10, 11, 12, 13, 14, 15, 16, 21, 22, 24, 25] rfl rfl rfl (by decide) (fun  w H locs hw hP hD hS => ?_)
      obtain ⟨wa_246, wb_247, f_248, f_249, rfl⟩ := hw
      have hP : va_P V.1 vwCl [(y 30, aT V 4 (va_up (va_up (va_up (va_up (fun _ => none) 0 (some (y 33))) 1 (some (y 35))) 2 (some (y 37))) 3 (some (y 39)))), (y 35, .inr (7, o7_rii (y 36) py35_1 py35_2)), (y 36, aJ V 40 fy36), (y 37, .inr (7, o7_rii (y 38) py37_1 py37_2)), (y 38, aJ V 40 fy38), (y 39, .inr (7, o7_rii (y 40) py39_1 py39_2)), (y 40, aJ V 40 fy40), (y 3, aI V 4 fy3), (y 9, aI V 900 fy9), (y 19, .inr (4, o4_rrrrrr (y 2) (y 20) (y 21) (y 22) (y 23) (y 24))), (y 20, aI V 2000 f_222), (y 21, aI V 6 f_223), (y 22, aI V 64 f_224), (y 0, .inr (9, o9_rirrrrrrrrrviii (y 1) py0_1 (y 2) (y 10) (y 19) (y 25) (y 26) (y 30) (y 31) (y 32) (Yw 0) o11 py0_12 py0_13 py0_14)), (y 2, .inr (1, o1_iiiiiirrrrrrriiiii py2_0 py2_1 py2_2 py2_3 py2_4 py2_5 (y 3) (y 4) (y 5) (y 6) (y 7) (y 8) (y 9) py2_13 py2_14 py2_15 py2_16 py2_17)), (Yw 4, aI V L f_234), (Yw 5, aI V n f_235), (Yw 7, aI V n f_237), (Yw 8, aI V 4 f_238), (y 33, .inr (7, o7_rii (y 34) py33_1 py33_2)), (y 34, aJ V 40 fy34), (Yw 0, .inr (8, o8_iirrriirrrrrrriii v_225 (nI n) (Yw 1) (Yw 2) wa_246 v_226 v_227 (y 19) (Yw 4) (Yw 5) (Yw 6) (Yw 7) (Yw 8) wb_247 v_228 v_229 v_230)), (Yw 1, aI V n f_231), (Yw 2, aI V n f_232), (wa_246, aI V n f_248), (Yw 6, aI V (n * 4) f_236), (wb_247, aI V n f_249)] H := hP
      have hD := cpD hP hD
      refine lv_aload hx hb dX9_high_42 (lv_at hl 0 rfl) ?_
      refine lv_iload_n hx hb dX9_high_44 rfl (lv_at hl 4 rfl) ?_
      refine lv_iconst (v := 0) hx hb dX9_high_45 (by decide) ?_
      refine lv_iconst (v := 4) hx hb dX9_high_46 (by decide) ?_
      refine jnI (wr := [(y 30, aT V 4 (va_up (va_up (va_up (va_up (fun _ => none) 0 (some (y 33))) 1 (some (y 35))) 2 (some (y 37))) 3 (some (y 39)))), (y 35, .inr (7, o7_rii (y 36) py35_1 py35_2)), (y 36, aJ V 40 fy36), (y 37, .inr (7, o7_rii (y 38) py37_1 py37_2)), (y 38, aJ V 40 fy38), (y 39, .inr (7, o7_rii (y 40) py39_1 py39_2)), (y 40, aJ V 40 fy40), (y 3, aI V 4 fy3), (y 9, aI V 900 fy9), (y 19, .inr (4, o4_rrrrrr (y 2) (y 20) (y 21) (y 22) (y 23) (y 24))), (y 20, aI V 2000 f_222), (y 21, aI V 6 f_223), (y 22, aI V 64 f_224), (y 0, .inr (9, o9_rirrrrrrrrrviii (y 1) py0_1 (y 2) (y 10) (y 19) (y 25) (y 26) (y 30) (y 31) (y 32) (Yw 0) o11 py0_12 py0_13 py0_14)), (y 2, .inr (1, o1_iiiiiirrrrrrriiiii py2_0 py2_1 py2_2 py2_3 py2_4 py2_5 (y 3) (y 4) (y 5) (y 6) (y 7) (y 8) (y 9) py2_13 py2_14 py2_15 py2_16 py2_17)), (Yw 4, aI V L f_234), (Yw 5, aI V n f_235), (Yw 7, aI V n f_237), (Yw 8, aI V 4 f_238), (y 33, .inr (7, o7_rii (y 34) py33_1 py33_2)), (y 34, aJ V 40 fy34), (Yw 2, aI V n f_232), (Yw 6, aI V (n * 4) f_236), (wb_247, aI V n f_249)]) (rnV (rest := []) ⟨hx, hb, hml, hown, hg⟩ (k_X8_weightOf_0 l V n L Yw y a2 0 4 v_225 wa_246 v_226 v_227 wb_247 v_228 v_229 v_230 f_231 f_248 hn hL b_210 bv_225 bv_226 bv_227 bv_228 bv_229 bv_230 tf_231) mt_X8_weightOf q_4_186 ⟨Nat.le_of_ble_eq_true rfl, Nat.le_of_ble_eq_true rfl⟩ hK hP hD hS hA hE [21, 22, 24] rfl rfl 21 rfl rfl rfl rfl hl.1 rfl (Nat.le_of_ble_eq_true rfl) dX9_high_47 ⟨Nat.le_of_ble_eq_true rfl, Nat.le_of_ble_eq_true rfl⟩) hP hD hS hA [21, 22, 24] [0, 1, 2, 3, 4, 5, 6, 7, 8, 9, 10, 11, 12, 13, 14, 15, 16, 17, 18, 19, 20, 23, 25, 26] rfl rfl rfl (by decide) (fun r_250 w H locs hw hP hD hS => ?_)
      subst hw
      have hP : va_P V.1 vwCl [(y 30, aT V 4 (va_up (va_up (va_up (va_up (fun _ => none) 0 (some (y 33))) 1 (some (y 35))) 2 (some (y 37))) 3 (some (y 39)))), (y 35, .inr (7, o7_rii (y 36) py35_1 py35_2)), (y 36, aJ V 40 fy36), (y 37, .inr (7, o7_rii (y 38) py37_1 py37_2)), (y 38, aJ V 40 fy38), (y 39, .inr (7, o7_rii (y 40) py39_1 py39_2)), (y 40, aJ V 40 fy40), (y 3, aI V 4 fy3), (y 9, aI V 900 fy9), (y 19, .inr (4, o4_rrrrrr (y 2) (y 20) (y 21) (y 22) (y 23) (y 24))), (y 20, aI V 2000 f_222), (y 21, aI V 6 f_223), (y 22, aI V 64 f_224), (y 0, .inr (9, o9_rirrrrrrrrrviii (y 1) py0_1 (y 2) (y 10) (y 19) (y 25) (y 26) (y 30) (y 31) (y 32) (Yw 0) o11 py0_12 py0_13 py0_14)), (y 2, .inr (1, o1_iiiiiirrrrrrriiiii py2_0 py2_1 py2_2 py2_3 py2_4 py2_5 (y 3) (y 4) (y 5) (y 6) (y 7) (y 8) (y 9) py2_13 py2_14 py2_15 py2_16 py2_17)), (Yw 4, aI V L f_234), (Yw 5, aI V n f_235), (Yw 7, aI V n f_237), (Yw 8, aI V 4 f_238), (y 33, .inr (7, o7_rii (y 34) py33_1 py33_2)), (y 34, aJ V 40 fy34), (Yw 2, aI V n f_232), (Yw 6, aI V (n * 4) f_236), (wb_247, aI V n f_249), (Yw 0, .inr (8, o8_iirrriirrrrrrriii v_225 (nI n) (Yw 1) (Yw 2) wa_246 v_226 v_227 (y 19) (Yw 4) (Yw 5) (Yw 6) (Yw 7) (Yw 8) wb_247 v_228 v_229 v_230)), (Yw 1, aI V n f_231), (wa_246, aI V n f_248)] H := hP
      have hD := cpD hP hD
      refine lv_i2l hx hb dX9_high_50 rfl ?_
      refine lv_topl (fun j_251 ej_251 => ?_)
      have hP := subP (ws' := [(y 0, .inr (9, o9_rirrrrrrrrrviii (y 1) py0_1 (y 2) (y 10) (y 19) (y 25) (y 26) (y 30) (y 31) (y 32) (Yw 0) o11 py0_12 py0_13 py0_14)), (y 2, .inr (1, o1_iiiiiirrrrrrriiiii py2_0 py2_1 py2_2 py2_3 py2_4 py2_5 (y 3) (y 4) (y 5) (y 6) (y 7) (y 8) (y 9) py2_13 py2_14 py2_15 py2_16 py2_17)), (y 3, aI V 4 fy3), (y 9, aI V 900 fy9), (y 19, .inr (4, o4_rrrrrr (y 2) (y 20) (y 21) (y 22) (y 23) (y 24))), (y 20, aI V 2000 f_222), (y 21, aI V 6 f_223), (y 22, aI V 64 f_224), (y 30, aT V 4 (va_up (va_up (va_up (va_up (fun _ => none) 0 (some (y 33))) 1 (some (y 35))) 2 (some (y 37))) 3 (some (y 39)))), (y 33, .inr (7, o7_rii (y 34) py33_1 py33_2)), (y 34, aJ V 40 fy34), (y 35, .inr (7, o7_rii (y 36) py35_1 py35_2)), (y 36, aJ V 40 fy36), (y 37, .inr (7, o7_rii (y 38) py37_1 py37_2)), (y 38, aJ V 40 fy38), (y 39, .inr (7, o7_rii (y 40) py39_1 py39_2)), (y 40, aJ V 40 fy40), (Yw 0, .inr (8, o8_iirrriirrrrrrriii v_225 (nI n) (Yw 1) (Yw 2) wa_246 v_226 v_227 (y 19) (Yw 4) (Yw 5) (Yw 6) (Yw 7) (Yw 8) wb_247 v_228 v_229 v_230)), (Yw 1, aI V n f_231), (Yw 2, aI V n f_232), (wa_246, aI V n f_248), (Yw 4, aI V L f_234), (Yw 5, aI V n f_235), (Yw 6, aI V (n * 4) f_236), (Yw 7, aI V n f_237), (Yw 8, aI V 4 f_238), (wb_247, aI V n f_249)]) hP [13, 14, 7, 8, 9, 10, 11, 12, 0, 19, 20, 1, 2, 3, 4, 5, 6, 24, 25, 21, 26, 15, 16, 22, 17, 18, 23] rfl
      have hD := subD hP hD [13, 14, 7, 8, 9, 10, 11, 12, 0, 19, 20, 1, 2, 3, 4, 5, 6, 24, 25, 21, 26, 15, 16, 22, 17, 18, 23] rfl rfl
      exact fiL hx hb hr hlk hK (subP (ws' := [(y 0, .inr (9, o9_rirrrrrrrrrviii (y 1) py0_1 (y 2) (y 10) (y 19) (y 25) (y 26) (y 30) (y 31) (y 32) (Yw 0) o11 py0_12 py0_13 py0_14)), (y 2, .inr (1, o1_iiiiiirrrrrrriiiii py2_0 py2_1 py2_2 py2_3 py2_4 py2_5 (y 3) (y 4) (y 5) (y 6) (y 7) (y 8) (y 9) py2_13 py2_14 py2_15 py2_16 py2_17)), (y 3, aI V 4 fy3), (y 9, aI V 900 fy9), (y 19, .inr (4, o4_rrrrrr (y 2) (y 20) (y 21) (y 22) (y 23) (y 24))), (y 20, aI V 2000 f_222), (y 21, aI V 6 f_223), (y 22, aI V 64 f_224), (y 30, aT V 4 (va_up (va_up (va_up (va_up (fun _ => none) 0 (some (y 33))) 1 (some (y 35))) 2 (some (y 37))) 3 (some (y 39)))), (y 33, .inr (7, o7_rii (y 34) py33_1 py33_2)), (y 34, aJ V 40 fy34), (y 35, .inr (7, o7_rii (y 36) py35_1 py35_2)), (y 36, aJ V 40 fy36), (y 37, .inr (7, o7_rii (y 38) py37_1 py37_2)), (y 38, aJ V 40 fy38), (y 39, .inr (7, o7_rii (y 40) py39_1 py39_2)), (y 40, aJ V 40 fy40), (Yw 0, .inr (8, o8_iirrriirrrrrrriii v_225 (nI n) (Yw 1) (Yw 2) wa_246 v_226 v_227 (y 19) (Yw 4) (Yw 5) (Yw 6) (Yw 7) (Yw 8) wb_247 v_228 v_229 v_230)), (Yw 1, aI V n f_231), (Yw 2, aI V n f_232), (wa_246, aI V n f_248), (Yw 4, aI V L f_234), (Yw 5, aI V n f_235), (Yw 6, aI V (n * 4) f_236), (Yw 7, aI V n f_237), (Yw 8, aI V 4 f_238), (wb_247, aI V n f_249)]) hP [0, 1, 2, 3, 4, 5, 6, 7, 8, 9, 10, 11, 12, 13, 14, 15, 16, 17, 18, 19, 20, 21, 22, 23, 24, 25, 26] rfl) (hD.sub [0, 1, 2, 3, 4, 5, 6, 7, 8, 9, 10, 11, 12, 13, 14, 15, 16, 17, 18, 19, 20, 21, 22, 23, 24, 25, 26] rfl rfl) hS dX9_high_51 (Nat.le_of_ble_eq_true rfl) (Nat.le_of_ble_eq_true rfl) (⟨n, L, Yw, wa_246, wb_247, f_222, f_223, f_224, v_225, v_226, v_227, v_228, v_229, v_230, f_231, f_232, f_248, f_234, f_235, f_236, f_237, f_238, f_249, hn, hL, tf_222, bv_225, bv_226, bv_227, bv_228, bv_229, bv_230, tf_231, tf_234, tf_235, tf_236, tf_237, g_240, g_241, g_242, g_244, kn_245, rfl⟩)
  · have hP : va_P V.1 vwCl [(y 3, aI V 4 fy3), (y 9, aI V 900 fy9), (y 19, .inr (4, o4_rrrrrr (y 2) (y 20) (y 21) (y 22) (y 23) (y 24))), (y 20, aI V 2000 fy20), (y 21, aI V 6 fy21), (y 22, aI V 64 fy22), (Yw 0, .inr (8, o8_iirrriirrrrrrriii pYw0_0 (nI n) (Yw 1) (Yw 2) wa pYw0_5 pYw0_6 (y 19) (Yw 4) (Yw 5) (Yw 6) (Yw 7) (Yw 8) wb pYw0_14 pYw0_15 pYw0_16)), (Yw 1, aI V n fYw1), (Yw 2, aI V n fYw2), (wa, aI V n fwa), (Yw 4, aI V L fYw4), (Yw 5, aI V n fYw5), (Yw 6, aI V (n * 4) fYw6), (Yw 7, aI V n fYw7), (Yw 8, aI V 4 fYw8), (wb, aI V n fwb), (y 0, .inr (9, o9_rirrrrrrrrrviii (y 1) py0_1 (y 2) (y 10) (y 19) (y 25) (y 26) (y 30) (y 31) (y 32) (Yw 0) o11 py0_12 py0_13 py0_14)), (y 2, .inr (1, o1_iiiiiirrrrrrriiiii py2_0 py2_1 py2_2 py2_3 py2_4 py2_5 (y 3) (y 4) (y 5) (y 6) (y 7) (y 8) (y 9) py2_13 py2_14 py2_15 py2_16 py2_17)), (y 30, aT V 4 (va_up (va_up (va_up (va_up (fun _ => none) 0 (some (y 33))) 1 (some (y 35))) 2 (some (y 37))) 3 (some (y 39)))), (y 33, .inr (7, o7_rii (y 34) py33_1 py33_2)), (y 34, aJ V 40 fy34), (y 35, .inr (7, o7_rii (y 36) py35_1 py35_2)), (y 36, aJ V 40 fy36), (y 37, .inr (7, o7_rii (y 38) py37_1 py37_2)), (y 38, aJ V 40 fy38), (y 39, .inr (7, o7_rii (y 40) py39_1 py39_2)), (y 40, aJ V 40 fy40)] H := hP
    have hD := cpD hP hD
    have b_252 : iv 0 2147483647 a2 := iv_e2 (Int32.not_lt.mp c_35) (iv_c (0 : Int32) (a := 0) (b := 0) (by decide)) (iv_top a2) (by first | decide | omega)
    have b_253 : iv 0 3 a2 := iv_l1 (Int32.not_le.mp c_36) b_252 bpy2_1 (by first | decide | omega)
    have b_254 : iv 1 4 py2_1 := iv_l2 (Int32.not_le.mp c_36) b_252 bpy2_1 (by first | decide | omega)
    have b_255 : iv 0 0 a1 := iv_q c_37 (iv_c (0 : Int32) (a := 0) (b := 0) (by decide))
    have b_256 : iv 0 40 py33_1 := iv_e2 c_38 (iv_c (0 : Int32) (a := 0) (b := 0) (by decide)) bpy33_1 (by first | decide | omega)
    have b_257 : iv 1 40 py33_1 := iv_e2 (Int32.not_lt.mp c_39) (iv_c (1 : Int32) (a := 1) (b := 1) (by decide)) b_256 (by first | decide | omega)
    have b_258 : iv 1 8 py33_1 := iv_e1 c_40 b_257 (iv_c (8 : Int32) (a := 8) (b := 8) (by decide)) (by first | decide | omega)
    refine lv_istore_n (lv' := [(3, .int (-3)), (0, .ref (y 0)), (1, .int a1), (2, .int a2)]) hx hb dX9_high_7 rfl hl (by decide) rfl (fun ls hl => ?_)
    refine lv_iload_n hx hb dX9_high_8 rfl (lv_at hl 0 rfl) ?_
    refine lv_if_eq (tgt := 15) hx hb dX9_high_9 (by decide) (fun c_260 => absurd c_260 (by decide)) (fun _ => ?_)
    refine lv_iload_n hx hb dX9_high_12 rfl (lv_at hl 0 rfl) ?_
    refine lv_i2l (v := (-3)) hx hb dX9_high_13 (by decide +kernel) ?_
    have z_0 := Int32.lt_iff_toInt_lt.mp hq0
    have z_1 := Int32.le_iff_toInt_le.mp (Int32.not_lt.mp c_33)
    have z_2 := Int32.lt_iff_toInt_lt.mp (Int32.not_le.mp c_34)
    have z_3 := Int32.le_iff_toInt_le.mp (Int32.not_lt.mp c_35)
    have z_4 := Int32.lt_iff_toInt_lt.mp (Int32.not_le.mp c_36)
    have z_5 := congrArg Int32.toInt c_37
    have z_6 := Int32.le_iff_toInt_le.mp c_38
    have z_7 := Int32.le_iff_toInt_le.mp (Int32.not_lt.mp c_39)
    have z_8 := Int32.le_iff_toInt_le.mp c_40
    have k_0 : (0 : Int32).toInt = 0 := (by decide)
    have k_1 : (1 : Int32).toInt = 1 := (by decide)
    have k_4 : (4 : Int32).toInt = 4 := (by decide)
    have k_8 : (8 : Int32).toInt = 8 := (by decide)
    exfalso
    have g_0 := hf3
    exact absurd (g_41.trans g_0) (by decide)
  · have hP : va_P V.1 vwCl [(y 3, aI V 4 fy3), (y 9, aI V 900 fy9), (y 19, .inr (4, o4_rrrrrr (y 2) (y 20) (y 21) (y 22) (y 23) (y 24))), (y 20, aI V 2000 fy20), (y 21, aI V 6 fy21), (y 22, aI V 64 fy22), (Yw 0, .inr (8, o8_iirrriirrrrrrriii pYw0_0 (nI n) (Yw 1) (Yw 2) wa pYw0_5 pYw0_6 (y 19) (Yw 4) (Yw 5) (Yw 6) (Yw 7) (Yw 8) wb pYw0_14 pYw0_15 pYw0_16)), (Yw 1, aI V n fYw1), (Yw 2, aI V n fYw2), (wa, aI V n fwa), (Yw 4, aI V L fYw4), (Yw 5, aI V n fYw5), (Yw 6, aI V (n * 4) fYw6), (Yw 7, aI V n fYw7), (Yw 8, aI V 4 fYw8), (wb, aI V n fwb), (y 0, .inr (9, o9_rirrrrrrrrrviii (y 1) py0_1 (y 2) (y 10) (y 19) (y 25) (y 26) (y 30) (y 31) (y 32) (Yw 0) o11 py0_12 py0_13 py0_14)), (y 2, .inr (1, o1_iiiiiirrrrrrriiiii py2_0 py2_1 py2_2 py2_3 py2_4 py2_5 (y 3) (y 4) (y 5) (y 6) (y 7) (y 8) (y 9) py2_13 py2_14 py2_15 py2_16 py2_17)), (y 30, aT V 4 (va_up (va_up (va_up (va_up (fun _ => none) 0 (some (y 33))) 1 (some (y 35))) 2 (some (y 37))) 3 (some (y 39)))), (y 33, .inr (7, o7_rii (y 34) py33_1 py33_2)), (y 34, aJ V 40 fy34), (y 35, .inr (7, o7_rii (y 36) py35_1 py35_2)), (y 36, aJ V 40 fy36), (y 37, .inr (7, o7_rii (y 38) py37_1 py37_2)), (y 38, aJ V 40 fy38), (y 39, .inr (7, o7_rii (y 40) py39_1 py39_2)), (y 40, aJ V 40 fy40)] H := hP
    have hD := cpD hP hD
    have b_261 : iv 0 2147483647 a2 := iv_e2 (Int32.not_lt.mp c_44) (iv_c (0 : Int32) (a := 0) (b := 0) (by decide)) (iv_top a2) (by first | decide | omega)
    have b_262 : iv 0 3 a2 := iv_l1 (Int32.not_le.mp c_45) b_261 bpy2_1 (by first | decide | omega)
    have b_263 : iv 1 4 py2_1 := iv_l2 (Int32.not_le.mp c_45) b_261 bpy2_1 (by first | decide | omega)
    have b_264 : iv 0 0 a1 := iv_q c_46 (iv_c (0 : Int32) (a := 0) (b := 0) (by decide))
    have b_265 : iv 0 40 py33_1 := iv_e2 c_47 (iv_c (0 : Int32) (a := 0) (b := 0) (by decide)) bpy33_1 (by first | decide | omega)
    have b_266 : iv 1 40 py33_1 := iv_e2 (Int32.not_lt.mp c_48) (iv_c (1 : Int32) (a := 1) (b := 1) (by decide)) b_265 (by first | decide | omega)
    have b_267 : iv 9 40 py33_1 := iv_l2 (Int32.not_le.mp c_49) (iv_c (8 : Int32) (a := 8) (b := 8) (by decide)) b_266 (by first | decide | omega)
    refine lv_istore_n (lv' := [(3, .int (-4)), (0, .ref (y 0)), (1, .int a1), (2, .int a2)]) hx hb dX9_high_7 rfl hl (by decide) rfl (fun ls hl => ?_)
    refine lv_iload_n hx hb dX9_high_8 rfl (lv_at hl 0 rfl) ?_
    refine lv_if_eq (tgt := 15) hx hb dX9_high_9 (by decide) (fun c_269 => absurd c_269 (by decide)) (fun _ => ?_)
    refine lv_iload_n hx hb dX9_high_12 rfl (lv_at hl 0 rfl) ?_
    refine lv_i2l (v := (-4)) hx hb dX9_high_13 (by decide +kernel) ?_
    have z_0 := Int32.lt_iff_toInt_lt.mp hq0
    have z_1 := Int32.le_iff_toInt_le.mp (Int32.not_lt.mp c_42)
    have z_2 := Int32.lt_iff_toInt_lt.mp (Int32.not_le.mp c_43)
    have z_3 := Int32.le_iff_toInt_le.mp (Int32.not_lt.mp c_44)
    have z_4 := Int32.lt_iff_toInt_lt.mp (Int32.not_le.mp c_45)
    have z_5 := congrArg Int32.toInt c_46
    have z_6 := Int32.le_iff_toInt_le.mp c_47
    have z_7 := Int32.le_iff_toInt_le.mp (Int32.not_lt.mp c_48)
    have z_8 := Int32.lt_iff_toInt_lt.mp (Int32.not_le.mp c_49)
    have k_0 : (0 : Int32).toInt = 0 := (by decide)
    have k_1 : (1 : Int32).toInt = 1 := (by decide)
    have k_4 : (4 : Int32).toInt = 4 := (by decide)
    have k_8 : (8 : Int32).toInt = 8 := (by decide)
    exfalso
    have g_0 := hf3
    exact absurd (g_50.trans g_0) (by decide)
  · have hP : va_P V.1 vwCl [(y 3, aI V 4 fy3), (y 9, aI V 900 fy9), (y 19, .inr (4, o4_rrrrrr (y 2) (y 20) (y 21) (y 22) (y 23) (y 24))), (y 20, aI V 2000 fy20), (y 21, aI V 6 fy21), (y 22, aI V 64 fy22), (Yw 0, .inr (8, o8_iirrriirrrrrrriii pYw0_0 (nI n) (Yw 1) (Yw 2) wa pYw0_5 pYw0_6 (y 19) (Yw 4) (Yw 5) (Yw 6) (Yw 7) (Yw 8) wb pYw0_14 pYw0_15 pYw0_16)), (Yw 1, aI V n fYw1), (Yw 2, aI V n fYw2), (wa, aI V n fwa), (Yw 4, aI V L fYw4), (Yw 5, aI V n fYw5), (Yw 6, aI V (n * 4) fYw6), (Yw 7, aI V n fYw7), (Yw 8, aI V 4 fYw8), (wb, aI V n fwb), (y 0, .inr (9, o9_rirrrrrrrrrviii (y 1) py0_1 (y 2) (y 10) (y 19) (y 25) (y 26) (y 30) (y 31) (y 32) (Yw 0) o11 py0_12 py0_13 py0_14)), (y 2, .inr (1, o1_iiiiiirrrrrrriiiii py2_0 py2_1 py2_2 py2_3 py2_4 py2_5 (y 3) (y 4) (y 5) (y 6) (y 7) (y 8) (y 9) py2_13 py2_14 py2_15 py2_16 py2_17)), (y 30, aT V 4 (va_up (va_up (va_up (va_up (fun _ => none) 0 (some (y 33))) 1 (some (y 35))) 2 (some (y 37))) 3 (some (y 39)))), (y 33, .inr (7, o7_rii (y 34) py33_1 py33_2)), (y 34, aJ V 40 fy34), (y 35, .inr (7, o7_rii (y 36) py35_1 py35_2)), (y 36, aJ V 40 fy36), (y 37, .inr (7, o7_rii (y 38) py37_1 py37_2)), (y 38, aJ V 40 fy38), (y 39, .inr (7, o7_rii (y 40) py39_1 py39_2)), (y 40, aJ V 40 fy40)] H := hP
    have hD := cpD hP hD
    have b_270 : iv 0 2147483647 a2 := iv_e2 (Int32.not_lt.mp c_53) (iv_c (0 : Int32) (a := 0) (b := 0) (by decide)) (iv_top a2) (by first | decide | omega)
    have b_271 : iv 0 3 a2 := iv_l1 (Int32.not_le.mp c_54) b_270 bpy2_1 (by first | decide | omega)
    have b_272 : iv 1 4 py2_1 := iv_l2 (Int32.not_le.mp c_54) b_270 bpy2_1 (by first | decide | omega)
    have b_273 : iv 0 0 a1 := iv_q c_55 (iv_c (0 : Int32) (a := 0) (b := 0) (by decide))
    have b_274 : iv (-1) (-1) py33_1 := iv_l1 (Int32.not_le.mp c_56) bpy33_1 (iv_c (0 : Int32) (a := 0) (b := 0) (by decide)) (by first | decide | omega)
    refine lv_istore_n (lv' := [(3, .int (-6)), (0, .ref (y 0)), (1, .int a1), (2, .int a2)]) hx hb dX9_high_7 rfl hl (by decide) rfl (fun ls hl => ?_)
    refine lv_iload_n hx hb dX9_high_8 rfl (lv_at hl 0 rfl) ?_
    refine lv_if_eq (tgt := 15) hx hb dX9_high_9 (by decide) (fun c_276 => absurd c_276 (by decide)) (fun _ => ?_)
    refine lv_iload_n hx hb dX9_high_12 rfl (lv_at hl 0 rfl) ?_
    refine lv_i2l (v := (-6)) hx hb dX9_high_13 (by decide +kernel) ?_
    have z_0 := Int32.lt_iff_toInt_lt.mp hq0
    have z_1 := Int32.le_iff_toInt_le.mp (Int32.not_lt.mp c_51)
    have z_2 := Int32.lt_iff_toInt_lt.mp (Int32.not_le.mp c_52)
    have z_3 := Int32.le_iff_toInt_le.mp (Int32.not_lt.mp c_53)
    have z_4 := Int32.lt_iff_toInt_lt.mp (Int32.not_le.mp c_54)
    have z_5 := congrArg Int32.toInt c_55
    have z_6 := Int32.lt_iff_toInt_lt.mp (Int32.not_le.mp c_56)
    have k_0 : (0 : Int32).toInt = 0 := (by decide)
    have k_4 : (4 : Int32).toInt = 4 := (by decide)
    exfalso
    have g_0 := hf3
    exact absurd (g_57.trans g_0) (by decide)
  · have hP : va_P V.1 vwCl [(y 3, aI V 4 fy3), (y 9, aI V 900 fy9), (y 19, .inr (4, o4_rrrrrr (y 2) (y 20) (y 21) (y 22) (y 23) (y 24))), (y 20, aI V 2000 fy20), (y 21, aI V 6 fy21), (y 22, aI V 64 fy22), (Yw 0, .inr (8, o8_iirrriirrrrrrriii pYw0_0 (nI n) (Yw 1) (Yw 2) wa pYw0_5 pYw0_6 (y 19) (Yw 4) (Yw 5) (Yw 6) (Yw 7) (Yw 8) wb pYw0_14 pYw0_15 pYw0_16)), (Yw 1, aI V n fYw1), (Yw 2, aI V n fYw2), (wa, aI V n fwa), (Yw 4, aI V L fYw4), (Yw 5, aI V n fYw5), (Yw 6, aI V (n * 4) fYw6), (Yw 7, aI V n fYw7), (Yw 8, aI V 4 fYw8), (wb, aI V n fwb), (y 0, .inr (9, o9_rirrrrrrrrrviii (y 1) py0_1 (y 2) (y 10) (y 19) (y 25) (y 26) (y 30) (y 31) (y 32) (Yw 0) o11 py0_12 py0_13 py0_14)), (y 2, .inr (1, o1_iiiiiirrrrrrriiiii py2_0 py2_1 py2_2 py2_3 py2_4 py2_5 (y 3) (y 4) (y 5) (y 6) (y 7) (y 8) (y 9) py2_13 py2_14 py2_15 py2_16 py2_17)), (y 30, aT V 4 (va_up (va_up (va_up (va_up (fun _ => none) 0 (some (y 33))) 1 (some (y 35))) 2 (some (y 37))) 3 (some (y 39)))), (y 33, .inr (7, o7_rii (y 34) py33_1 py33_2)), (y 34, aJ V 40 fy34), (y 35, .inr (7, o7_rii (y 36) py35_1 py35_2)), (y 36, aJ V 40 fy36), (y 37, .inr (7, o7_rii (y 38) py37_1 py37_2)), (y 38, aJ V 40 fy38), (y 39, .inr (7, o7_rii (y 40) py39_1 py39_2)), (y 40, aJ V 40 fy40)] H := hP
    have hD := cpD hP hD
    have b_277 : iv 0 2147483647 a2 := iv_e2 (Int32.not_lt.mp c_60) (iv_c (0 : Int32) (a := 0) (b := 0) (by decide)) (iv_top a2) (by first | decide | omega)
    have b_278 : iv 0 3 a2 := iv_l1 (Int32.not_le.mp c_61) b_277 bpy2_1 (by first | decide | omega)
    have b_279 : iv 1 4 py2_1 := iv_l2 (Int32.not_le.mp c_61) b_277 bpy2_1 (by first | decide | omega)
    have b_280 : iv 1 1 a1 := iv_q c_62 (iv_c (1 : Int32) (a := 1) (b := 1) (by decide))
    have b_281 : iv 0 40 py35_1 := iv_e2 c_63 (iv_c (0 : Int32) (a := 0) (b := 0) (by decide)) bpy35_1 (by first | decide | omega)
    have b_282 : iv 0 0 py35_1 := iv_l1 c_64 b_281 (iv_c (1 : Int32) (a := 1) (b := 1) (by decide)) (by first | decide | omega)
    refine lv_istore_n (lv' := [(3, .int (-4)), (0, .ref (y 0)), (1, .int a1), (2, .int a2)]) hx hb dX9_high_7 rfl hl (by decide) rfl (fun ls hl => ?_)
    refine lv_iload_n hx hb dX9_high_8 rfl (lv_at hl 0 rfl) ?_
    refine lv_if_eq (tgt := 15) hx hb dX9_high_9 (by decide) (fun c_284 => absurd c_284 (by decide)) (fun _ => ?_)
    refine lv_iload_n hx hb dX9_high_12 rfl (lv_at hl 0 rfl) ?_
    refine lv_i2l (v := (-4)) hx hb dX9_high_13 (by decide +kernel) ?_
    have z_0 := Int32.lt_iff_toInt_lt.mp hq0
    have z_1 := Int32.le_iff_toInt_le.mp (Int32.not_lt.mp c_58)
    have z_2 := Int32.lt_iff_toInt_lt.mp (Int32.not_le.mp c_59)
    have z_3 := Int32.le_iff_toInt_le.mp (Int32.not_lt.mp c_60)
    have z_4 := Int32.lt_iff_toInt_lt.mp (Int32.not_le.mp c_61)
    have z_5 := congrArg Int32.toInt c_62
    have z_6 := Int32.le_iff_toInt_le.mp c_63
    have z_7 := Int32.lt_iff_toInt_lt.mp c_64
    have k_0 : (0 : Int32).toInt = 0 := (by decide)
    have k_1 : (1 : Int32).toInt = 1 := (by decide)
    have k_4 : (4 : Int32).toInt = 4 := (by decide)
    exfalso
    have g_0 := hf3
    exact absurd (g_65.trans g_0) (by decide)
  · have hP : va_P V.1 vwCl [(y 3, aI V 4 fy3), (y 9, aI V 900 fy9), (y 19, .inr (4, o4_rrrrrr (y 2) (y 20) (y 21) (y 22) (y 23) (y 24))), (y 20, aI V 2000 fy20), (y 21, aI V 6 fy21), (y 22, aI V 64 fy22), (Yw 0, .inr (8, o8_iirrriirrrrrrriii pYw0_0 (nI n) (Yw 1) (Yw 2) wa pYw0_5 pYw0_6 (y 19) (Yw 4) (Yw 5) (Yw 6) (Yw 7) (Yw 8) wb pYw0_14 pYw0_15 pYw0_16)), (Yw 1, aI V n fYw1), (Yw 2, aI V n fYw2), (wa, aI V n fwa), (Yw 4, aI V L fYw4), (Yw 5, aI V n fYw5), (Yw 6, aI V (n * 4) fYw6), (Yw 7, aI V n fYw7), (Yw 8, aI V 4 fYw8), (wb, aI V n fwb), (y 0, .inr (9, o9_rirrrrrrrrrviii (y 1) py0_1 (y 2) (y 10) (y 19) (y 25) (y 26) (y 30) (y 31) (y 32) (Yw 0) o11 py0_12 py0_13 py0_14)), (y 2, .inr (1, o1_iiiiiirrrrrrriiiii py2_0 py2_1 py2_2 py2_3 py2_4 py2_5 (y 3) (y 4) (y 5) (y 6) (y 7) (y 8) (y 9) py2_13 py2_14 py2_15 py2_16 py2_17)), (y 30, aT V 4 (va_up (va_up (va_up (va_up (fun _ => none) 0 (some (y 33))) 1 (some (y 35))) 2 (some (y 37))) 3 (some (y 39)))), (y 33, .inr (7, o7_rii (y 34) py33_1 py33_2)), (y 34, aJ V 40 fy34), (y 35, .inr (7, o7_rii (y 36) py35_1 py35_2)), (y 36, aJ V 40 fy36), (y 37, .inr (7, o7_rii (y 38) py37_1 py37_2)), (y 38, aJ V 40 fy38), (y 39, .inr (7, o7_rii (y 40) py39_1 py39_2)), (y 40, aJ V 40 fy40)] H := hP
    have hD := cpD hP hD
    have b_285 : iv 0 2147483647 a2 := iv_e2 (Int32.not_lt.mp c_68) (iv_c (0 : Int32) (a := 0) (b := 0) (by decide)) (iv_top a2) (by first | decide | omega)
    have b_286 : iv 0 3 a2 := iv_l1 (Int32.not_le.mp c_69) b_285 bpy2_1 (by first | decide | omega)
    have b_287 : iv 1 4 py2_1 := iv_l2 (Int32.not_le.mp c_69) b_285 bpy2_1 (by first | decide | omega)
    have b_288 : iv 1 1 a1 := iv_q c_70 (iv_c (1 : Int32) (a := 1) (b := 1) (by decide))
    have b_289 : iv 0 40 py35_1 := iv_e2 c_71 (iv_c (0 : Int32) (a := 0) (b := 0) (by decide)) bpy35_1 (by first | decide | omega)
    have b_290 : iv 1 40 py35_1 := iv_e2 (Int32.not_lt.mp c_72) (iv_c (1 : Int32) (a := 1) (b := 1) (by decide)) b_289 (by first | decide | omega)
    have b_291 : iv 1 8 py35_1 := iv_e1 c_73 b_290 (iv_c (8 : Int32) (a := 8) (b := 8) (by decide)) (by first | decide | omega)
    refine lv_istore_n (lv' := [(3, .int 0), (0, .ref (y 0)), (1, .int a1), (2, .int a2)]) hx hb dX9_high_7 rfl hl (by decide) rfl (fun ls hl => ?_)
    refine lv_iload_n hx hb dX9_high_8 rfl (lv_at hl 0 rfl) ?_
    refine lv_if_eq (tgt := 15) hx hb dX9_high_9 (by decide) (fun _ => ?_) (fun c_293 => absurd c_293 (by decide))
    refine lv_aload_n hx hb dX9_high_15 rfl (lv_at hl 1 rfl) ?_
    refine lv_aload_n hx hb dX9_high_16 rfl (lv_at hl 1 rfl) ?_
    refine va_get (ci := 9) (v := .ref (y 30)) (C := RX9) (T := TX9) (N := 15) hx hb hg inX9 hown hK hP 16 rfl rfl 7 (by decide) (hg _ q_2_43) (fun _ h9 => h9) rfl dX9_high_17 ?_
    refine lv_iload_n hx hb dX9_high_20 rfl (lv_at hl 2 rfl) ?_
    have c_294 : a1 = 1 := by have q9 := b_288; unfold iv at q9; simp only [tI_eq, (by decide : (1 : Int32).toInt = 1)]; omega
    rcases c_294 with rfl
    · refine va_aldq hx hb hK hP 18 4 rfl rfl (vin (by decide +kernel)) dX9_high_21 ?_
      refine W.eq (g2 := F0 m 22 ls (.ref (y 35) :: .ref (y 0) :: [])) rfl ?_
      refine va_get (ci := 7) (v := .int py35_1) (C := RX7) (T := TX7) (N := 3) hx hb hg inX7 hown hK hP 21 rfl rfl 1 (by decide) (hg _ q_2_2) (fun _ h9 => h9) rfl dX9_high_22 ?_
      refine jnR (wr := [(y 30, aT V 4 (va_up (va_up (va_up (va_up (fun _ => none) 0 (some (y 33))) 1 (some (y 35))) 2 (some (y 37))) 3 (some (y 39)))), (y 33, .inr (7, o7_rii (y 34) py33_1 py33_2)), (y 34, aJ V 40 fy34), (y 35, .inr (7, o7_rii (y 36) py35_1 py35_2)), (y 36, aJ V 40 fy36), (y 37, .inr (7, o7_rii (y 38) py37_1 py37_2)), (y 38, aJ V 40 fy38), (y 39, .inr (7, o7_rii (y 40) py39_1 py39_2)), (y 40, aJ V 40 fy40)]) (rnV (rest := []) ⟨hx, hb, hml, hown, hg⟩ (k_X9_waysFromNow_2 l V n L Yw y D9 py35_1 fy3 fy9 fy20 fy21 fy22 pYw0_0 wa pYw0_5 pYw0_6 wb pYw0_14 pYw0_15 pYw0_16 fYw1 fYw2 fwa fYw4 fYw5 fYw6 fYw7 fYw8 fwb py0_1 o11 py0_12 py0_13 py0_14 py2_0 py2_1 py2_2 py2_3 py2_4 py2_5 py2_13 py2_14 py2_15 py2_16 py2_17 hn hL hq0 tfy20 bpYw0_0 bpYw0_5 bpYw0_6 bpYw0_14 bpYw0_15 bpYw0_16 tfYw1 tfYw4 tfYw5 tfYw6 tfYw7 bpy0_1 bpy0_12 bpy0_13 (iv_w b_287 (by first | decide | omega)) bpy2_2 bpy2_3 bpy2_4 bpy2_5 bpy2_13 bpy2_14 bpy2_15 bpy2_16 bpy2_17 hf0 hf1 hf2 hL9 hK9) mt_X9_waysFromNow q_4_52 ⟨Nat.le_of_ble_eq_true rfl, Nat.le_of_ble_eq_true rfl⟩ hK hP hD hS hA hE [0, 1, 2, 3, 4, 5, 6, 7, 8, 9, 10, 11, 12, 13, 14, 15, 16, 17] rfl rfl 16 rfl rfl rfl rfl hl.1 rfl (Nat.le_of_ble_eq_true rfl) dX9_high_25 ⟨Nat.le_of_ble_eq_true rfl, Nat.le_of_ble_eq_true rfl⟩) hP hD hS hA [0, 1, 2, 3, 4, 5, 6, 7, 8, 9, 10, 11, 12, 13, 14, 15, 16, 17] [18, 19, 20, 21, 22, 23, 24, 25, 26] rfl rfl rfl (by decide) (fun r_295 w H locs hw hP hD hS => ?_)
      refine W.widen (k := 10) (n := 46481) (Nat.le_of_ble_eq_true rfl) (Nat.le_of_ble_eq_true rfl) ?_
      obtain ⟨n, L, Yw, wa_296, wb_297, f_298, f_299, f_300, v_301, v_302, v_303, v_304, v_305, v_306, f_307, f_308, f_309, f_310, f_311, f_312, f_313, f_314, f_315, hn, hL, tf_298, bv_301, bv_302, bv_303, bv_304, bv_305, bv_306, tf_307, tf_310, tf_311, tf_312, tf_313, eW, g_316, g_317, g_318, g_319, g_320, kn_321, rfl⟩ := hw
      have hP : va_P V.1 vwCl [(y 30, aT V 4 (va_up (va_up (va_up (va_up (fun _ => none) 0 (some (y 33))) 1 (some (y 35))) 2 (some (y 37))) 3 (some (y 39)))), (y 33, .inr (7, o7_rii (y 34) py33_1 py33_2)), (y 34, aJ V 40 fy34), (y 35, .inr (7, o7_rii (y 36) py35_1 py35_2)), (y 36, aJ V 40 fy36), (y 37, .inr (7, o7_rii (y 38) py37_1 py37_2)), (y 38, aJ V 40 fy38), (y 39, .inr (7, o7_rii (y 40) py39_1 py39_2)), (y 40, aJ V 40 fy40), (y 3, aI V 4 fy3), (y 9, aI V 900 fy9), (y 19, .inr (4, o4_rrrrrr (y 2) (y 20) (y 21) (y 22) (y 23) (y 24))), (y 20, aI V 2000 f_298), (y 21, aI V 6 f_299), (y 22, aI V 64 f_300), (y 0, .inr (9, o9_rirrrrrrrrrviii (y 1) py0_1 (y 2) (y 10) (y 19) (y 25) (y 26) (y 30) (y 31) (y 32) (Yw 0) o11 py0_12 py0_13 py0_14)), (y 2, .inr (1, o1_iiiiiirrrrrrriiiii py2_0 py2_1 py2_2 py2_3 py2_4 py2_5 (y 3) (y 4) (y 5) (y 6) (y 7) (y 8) (y 9) py2_13 py2_14 py2_15 py2_16 py2_17)), (Yw 0, .inr (8, o8_iirrriirrrrrrriii v_301 (nI n) (Yw 1) (Yw 2) wa_296 v_302 v_303 (y 19) (Yw 4) (Yw 5) (Yw 6) (Yw 7) (Yw 8) wb_297 v_304 v_305 v_306)), (Yw 1, aI V n f_307), (Yw 2, aI V n f_308), (wa_296, aI V n f_309), (Yw 4, aI V L f_310), (Yw 5, aI V n f_311), (Yw 6, aI V (n * 4) f_312), (Yw 7, aI V n f_313), (Yw 8, aI V 4 f_314), (wb_297, aI V n f_315)] H := hP
      have hD := cpD hP hD
      rw [← eW]
      refine lv_astore (lv' := [(4, .ref (Yw 0)), (3, .int 0), (0, .ref (y 0)), (1, .int 1), (2, .int a2)]) hx hb dX9_high_28 hl (by decide) rfl (fun ls hl => ?_)
      refine lv_aload hx hb dX9_high_30 (lv_at hl 0 rfl) ?_
      refine lv_aload_n hx hb dX9_high_32 rfl (lv_at hl 2 rfl) ?_
      refine va_get (ci := 9) (v := .ref (y 30)) (C := RX9) (T := TX9) (N := 15) hx hb hg inX9 hown hK hP 15 rfl rfl 7 (by decide) (hg _ q_2_43) (fun _ h9 => h9) rfl dX9_high_33 ?_
      refine lv_iload_n hx hb dX9_high_36 rfl (lv_at hl 3 rfl) ?_
      refine va_aldq hx hb hK hP 0 4 rfl rfl (vin (by decide +kernel)) dX9_high_37 ?_
      refine W.eq (g2 := F0 m 38 ls (.ref (y 35) :: .ref (Yw 0) :: [])) rfl ?_
      refine lv_iload_n hx hb dX9_high_38 rfl (lv_at hl 4 rfl) ?_
      refine jnV (wr := [(y 30, aT V 4 (va_up (va_up (va_up (va_up (fun _ => none) 0 (some (y 33))) 1 (some (y 35))) 2 (some (y 37))) 3 (some (y 39)))), (y 33, .inr (7, o7_rii (y 34) py33_1 py33_2)), (y 34, aJ V 40 fy34), (y 37, .inr (7, o7_rii (y 38) py37_1 py37_2)), (y 38, aJ V 40 fy38), (y 39, .inr (7, o7_rii (y 40) py39_1 py39_2)), (y 40, aJ V 40 fy40), (y 3, aI V 4 fy3), (y 9, aI V 900 fy9), (y 19, .inr (4, o4_rrrrrr (y 2) (y 20) (y 21) (y 22) (y 23) (y 24))), (y 20, aI V 2000 f_298), (y 21, aI V 6 f_299), (y 22, aI V 64 f_300), (y 0, .inr (9, o9_rirrrrrrrrrviii (y 1) py0_1 (y 2) (y 10) (y 19) (y 25) (y 26) (y 30) (y 31) (y 32) (Yw 0) o11 py0_12 py0_13 py0_14)), (y 2, .inr (1, o1_iiiiiirrrrrrriiiii py2_0 py2_1 py2_2 py2_3 py2_4 py2_5 (y 3) (y 4) (y 5) (y 6) (y 7) (y 8) (y 9) py2_13 py2_14 py2_15 py2_16 py2_17)), (Yw 4, aI V L f_310), (Yw 5, aI V n f_311), (Yw 7, aI V n f_313), (Yw 8, aI V 4 f_314)]) (rnV (rest := []) ⟨hx, hb, hml, hown, hg⟩ (k_X8_spreadAsTold_1 l V n L Yw y a2 f_309 f_315 py35_1 py35_2 fy36 v_301 wa_296 v_302 v_303 wb_297 v_304 v_305 v_306 f_307 f_308 f_312 hn hL b_286 (iv_w b_291 (by first | decide | omega)) bv_301 bv_302 bv_303 bv_304 bv_305 bv_306 tf_307 tf_312) mt_X8_spreadAsTold q_5_26 ⟨Nat.le_of_ble_eq_true rfl, Nat.le_of_ble_eq_true rfl⟩ hK hP hD hS hA hE [20, 26, 3, 4, 17, 18, 19, 23] rfl rfl 17 rfl rfl rfl rfl hl.1 rfl (Nat.le_of_ble_eq_true rfl) dX9_high_39 ⟨Nat.le_of_ble_eq_true rfl, Nat.le_of_ble_eq_true rfl⟩) hP hD hS hA [20, 26, 3, 4, 17, 18, 19, 23] [0, 1, 2, 5, 6, 7, 8, 9, 10, 11, 12, 13, 14, 15, 16, 21, 22, 24, 25] rfl rfl rfl (by decide) (fun  w H locs hw hP hD hS => ?_)
      obtain ⟨f_322, f_323, wa_324, wb_325, rfl⟩ := hw
      have hP : va_P V.1 vwCl [(y 30, aT V 4 (va_up (va_up (va_up (va_up (fun _ => none) 0 (some (y 33))) 1 (some (y 35))) 2 (some (y 37))) 3 (some (y 39)))), (y 33, .inr (7, o7_rii (y 34) py33_1 py33_2)), (y 34, aJ V 40 fy34), (y 37, .inr (7, o7_rii (y 38) py37_1 py37_2)), (y 38, aJ V 40 fy38), (y 39, .inr (7, o7_rii (y 40) py39_1 py39_2)), (y 40, aJ V 40 fy40), (y 3, aI V 4 fy3), (y 9, aI V 900 fy9), (y 19, .inr (4, o4_rrrrrr (y 2) (y 20) (y 21) (y 22) (y 23) (y 24))), (y 20, aI V 2000 f_298), (y 21, aI V 6 f_299), (y 22, aI V 64 f_300), (y 0, .inr (9, o9_rirrrrrrrrrviii (y 1) py0_1 (y 2) (y 10) (y 19) (y 25) (y 26) (y 30) (y 31) (y 32) (Yw 0) o11 py0_12 py0_13 py0_14)), (y 2, .inr (1, o1_iiiiiirrrrrrriiiii py2_0 py2_1 py2_2 py2_3 py2_4 py2_5 (y 3) (y 4) (y 5) (y 6) (y 7) (y 8) (y 9) py2_13 py2_14 py2_15 py2_16 py2_17)), (Yw 4, aI V L f_310), (Yw 5, aI V n f_311), (Yw 7, aI V n f_313), (Yw 8, aI V 4 f_314), (wa_324, aI V n f_322), (wb_325, aI V n f_323), (y 35, .inr (7, o7_rii (y 36) py35_1 py35_2)), (y 36, aJ V 40 fy36), (Yw 0, .inr (8, o8_iirrriirrrrrrriii v_301 (nI n) (Yw 1) (Yw 2) wa_324 v_302 v_303 (y 19) (Yw 4) (Yw 5) (Yw 6) (Yw 7) (Yw 8) wb_325 v_304 v_305 v_306)), (Yw 1, aI V n f_307), (Yw 2, aI V n f_308), (Yw 6, aI V (n * 4) f_312)] H := hP
      have hD := cpD hP hD
      refine lv_aload hx hb dX9_high_42 (lv_at hl 0 rfl) ?_
      refine lv_iload_n hx hb dX9_high_44 rfl (lv_at hl 4 rfl) ?_
      refine lv_iconst (v := 0) hx hb dX9_high_45 (by decide) ?_
      refine lv_iconst (v := 4) hx hb dX9_high_46 (by decide) ?_
      refine jnI (wr := [(y 30, aT V 4 (va_up (va_up (va_up (va_up (fun _ => none) 0 (some (y 33))) 1 (some (y 35))) 2 (some (y 37))) 3 (some (y 39)))), (y 33, .inr (7, o7_rii (y 34) py33_1 py33_2)), (y 34, aJ V 40 fy34), (y 37, .inr (7, o7_rii (y 38) py37_1 py37_2)), (y 38, aJ V 40 fy38), (y 39, .inr (7, o7_rii (y 40) py39_1 py39_2)), (y 40, aJ V 40 fy40), (y 3, aI V 4 fy3), (y 9, aI V 900 fy9), (y 19, .inr (4, o4_rrrrrr (y 2) (y 20) (y 21) (y 22) (y 23) (y 24))), (y 20, aI V 2000 f_298), (y 21, aI V 6 f_299), (y 22, aI V 64 f_300), (y 0, .inr (9, o9_rirrrrrrrrrviii (y 1) py0_1 (y 2) (y 10) (y 19) (y 25) (y 26) (y 30) (y 31) (y 32) (Yw 0) o11 py0_12 py0_13 py0_14)), (y 2, .inr (1, o1_iiiiiirrrrrrriiiii py2_0 py2_1 py2_2 py2_3 py2_4 py2_5 (y 3) (y 4) (y 5) (y 6) (y 7) (y 8) (y 9) py2_13 py2_14 py2_15 py2_16 py2_17)), (Yw 4, aI V L f_310), (Yw 5, aI V n f_311), (Yw 7, aI V n f_313), (Yw 8, aI V 4 f_314), (wb_325, aI V n f_323), (y 35, .inr (7, o7_rii (y 36) py35_1 py35_2)), (y 36, aJ V 40 fy36), (Yw 2, aI V n f_308), (Yw 6, aI V (n * 4) f_312)]) (rnV (rest := []) ⟨hx, hb, hml, hown, hg⟩ (k_X8_weightOf_0 l V n L Yw y a2 0 4 v_301 wa_324 v_302 v_303 wb_325 v_304 v_305 v_306 f_307 f_322 hn hL b_286 bv_301 bv_302 bv_303 bv_304 bv_305 bv_306 tf_307) mt_X8_weightOf q_4_186 ⟨Nat.le_of_ble_eq_true rfl, Nat.le_of_ble_eq_true rfl⟩ hK hP hD hS hA hE [23, 24, 19] rfl rfl 23 rfl rfl rfl rfl hl.1 rfl (Nat.le_of_ble_eq_true rfl) dX9_high_47 ⟨Nat.le_of_ble_eq_true rfl, Nat.le_of_ble_eq_true rfl⟩) hP hD hS hA [23, 24, 19] [0, 1, 2, 3, 4, 5, 6, 7, 8, 9, 10, 11, 12, 13, 14, 15, 16, 17, 18, 20, 21, 22, 25, 26] rfl rfl rfl (by decide) (fun r_326 w H locs hw hP hD hS => ?_)
      subst hw
      have hP : va_P V.1 vwCl [(y 30, aT V 4 (va_up (va_up (va_up (va_up (fun _ => none) 0 (some (y 33))) 1 (some (y 35))) 2 (some (y 37))) 3 (some (y 39)))), (y 33, .inr (7, o7_rii (y 34) py33_1 py33_2)), (y 34, aJ V 40 fy34), (y 37, .inr (7, o7_rii (y 38) py37_1 py37_2)), (y 38, aJ V 40 fy38), (y 39, .inr (7, o7_rii (y 40) py39_1 py39_2)), (y 40, aJ V 40 fy40), (y 3, aI V 4 fy3), (y 9, aI V 900 fy9), (y 19, .inr (4, o4_rrrrrr (y 2) (y 20) (y 21) (y 22) (y 23) (y 24))), (y 20, aI V 2000 f_298), (y 21, aI V 6 f_299), (y 22, aI V 64 f_300), (y 0, .inr (9, o9_rirrrrrrrrrviii (y 1) py0_1 (y 2) (y 10) (y 19) (y 25) (y 26) (y 30) (y 31) (y 32) (Yw 0) o11 py0_12 py0_13 py0_14)), (y 2, .inr (1, o1_iiiiiirrrrrrriiiii py2_0 py2_1 py2_2 py2_3 py2_4 py2_5 (y 3) (y 4) (y 5) (y 6) (y 7) (y 8) (y 9) py2_13 py2_14 py2_15 py2_16 py2_17)), (Yw 4, aI V L f_310), (Yw 5, aI V n f_311), (Yw 7, aI V n f_313), (Yw 8, aI V 4 f_314), (wb_325, aI V n f_323), (y 35, .inr (7, o7_rii (y 36) py35_1 py35_2)), (y 36, aJ V 40 fy36), (Yw 2, aI V n f_308), (Yw 6, aI V (n * 4) f_312), (Yw 0, .inr (8, o8_iirrriirrrrrrriii v_301 (nI n) (Yw 1) (Yw 2) wa_324 v_302 v_303 (y 19) (Yw 4) (Yw 5) (Yw 6) (Yw 7) (Yw 8) wb_325 v_304 v_305 v_306)), (Yw 1, aI V n f_307), (wa_324, aI V n f_322)] H := hP
      have hD := cpD hP hD
      refine lv_i2l hx hb dX9_high_50 rfl ?_
      refine lv_topl (fun j_327 ej_327 => ?_)
      have hP := subP (ws' := [(y 0, .inr (9, o9_rirrrrrrrrrviii (y 1) py0_1 (y 2) (y 10) (y 19) (y 25) (y 26) (y 30) (y 31) (y 32) (Yw 0) o11 py0_12 py0_13 py0_14)), (y 2, .inr (1, o1_iiiiiirrrrrrriiiii py2_0 py2_1 py2_2 py2_3 py2_4 py2_5 (y 3) (y 4) (y 5) (y 6) (y 7) (y 8) (y 9) py2_13 py2_14 py2_15 py2_16 py2_17)), (y 3, aI V 4 fy3), (y 9, aI V 900 fy9), (y 19, .inr (4, o4_rrrrrr (y 2) (y 20) (y 21) (y 22) (y 23) (y 24))), (y 20, aI V 2000 f_298), (y 21, aI V 6 f_299), (y 22, aI V 64 f_300), (y 30, aT V 4 (va_up (va_up (va_up (va_up (fun _ => none) 0 (some (y 33))) 1 (some (y 35))) 2 (some (y 37))) 3 (some (y 39)))), (y 33, .inr (7, o7_rii (y 34) py33_1 py33_2)), (y 34, aJ V 40 fy34), (y 35, .inr (7, o7_rii (y 36) py35_1 py35_2)), (y 36, aJ V 40 fy36), (y 37, .inr (7, o7_rii (y 38) py37_1 py37_2)), (y 38, aJ V 40 fy38), (y 39, .inr (7, o7_rii (y 40) py39_1 py39_2)), (y 40, aJ V 40 fy40), (Yw 0, .inr (8, o8_iirrriirrrrrrriii v_301 (nI n) (Yw 1) (Yw 2) wa_324 v_302 v_303 (y 19) (Yw 4) (Yw 5) (Yw 6) (Yw 7) (Yw 8) wb_325 v_304 v_305 v_306)), (Yw 1, aI V n f_307), (Yw 2, aI V n f_308), (wa_324, aI V n f_322), (Yw 4, aI V L f_310), (Yw 5, aI V n f_311), (Yw 6, aI V (n * 4) f_312), (Yw 7, aI V n f_313), (Yw 8, aI V 4 f_314), (wb_325, aI V n f_323)]) hP [13, 14, 7, 8, 9, 10, 11, 12, 0, 1, 2, 20, 21, 3, 4, 5, 6, 24, 25, 22, 26, 15, 16, 23, 17, 18, 19] rfl
      have hD := subD hP hD [13, 14, 7, 8, 9, 10, 11, 12, 0, 1, 2, 20, 21, 3, 4, 5, 6, 24, 25, 22, 26, 15, 16, 23, 17, 18, 19] rfl rfl
      exact fiL hx hb hr hlk hK (subP (ws' := [(y 0, .inr (9, o9_rirrrrrrrrrviii (y 1) py0_1 (y 2) (y 10) (y 19) (y 25) (y 26) (y 30) (y 31) (y 32) (Yw 0) o11 py0_12 py0_13 py0_14)), (y 2, .inr (1, o1_iiiiiirrrrrrriiiii py2_0 py2_1 py2_2 py2_3 py2_4 py2_5 (y 3) (y 4) (y 5) (y 6) (y 7) (y 8) (y 9) py2_13 py2_14 py2_15 py2_16 py2_17)), (y 3, aI V 4 fy3), (y 9, aI V 900 fy9), (y 19, .inr (4, o4_rrrrrr (y 2) (y 20) (y 21) (y 22) (y 23) (y 24))), (y 20, aI V 2000 f_298), (y 21, aI V 6 f_299), (y 22, aI V 64 f_300), (y 30, aT V 4 (va_up (va_up (va_up (va_up (fun _ => none) 0 (some (y 33))) 1 (some (y 35))) 2 (some (y 37))) 3 (some (y 39)))), (y 33, .inr (7, o7_rii (y 34) py33_1 py33_2)), (y 34, aJ V 40 fy34), (y 35, .inr (7, o7_rii (y 36) py35_1 py35_2)), (y 36, aJ V 40 fy36), (y 37, .inr (7, o7_rii (y 38) py37_1 py37_2)), (y 38, aJ V 40 fy38), (y 39, .inr (7, o7_rii (y 40) py39_1 py39_2)), (y 40, aJ V 40 fy40), (Yw 0, .inr (8, o8_iirrriirrrrrrriii v_301 (nI n) (Yw 1) (Yw 2) wa_324 v_302 v_303 (y 19) (Yw 4) (Yw 5) (Yw 6) (Yw 7) (Yw 8) wb_325 v_304 v_305 v_306)), (Yw 1, aI V n f_307), (Yw 2, aI V n f_308), (wa_324, aI V n f_322), (Yw 4, aI V L f_310), (Yw 5, aI V n f_311), (Yw 6, aI V (n * 4) f_312), (Yw 7, aI V n f_313), (Yw 8, aI V 4 f_314), (wb_325, aI V n f_323)]) hP [0, 1, 2, 3, 4, 5, 6, 7, 8, 9, 10, 11, 12, 13, 14, 15, 16, 17, 18, 19, 20, 21, 22, 23, 24, 25, 26] rfl) (hD.sub [0, 1, 2, 3, 4, 5, 6, 7, 8, 9, 10, 11, 12, 13, 14, 15, 16, 17, 18, 19, 20, 21, 22, 23, 24, 25, 26] rfl rfl) hS dX9_high_51 (Nat.le_of_ble_eq_true rfl) (Nat.le_of_ble_eq_true rfl) (⟨n, L, Yw, wa_324, wb_325, f_298, f_299, f_300, v_301, v_302, v_303, v_304, v_305, v_306, f_307, f_308, f_322, f_310, f_311, f_312, f_313, f_314, f_323, hn, hL, tf_298, bv_301, bv_302, bv_303, bv_304, bv_305, bv_306, tf_307, tf_310, tf_311, tf_312, tf_313, g_316, g_317, g_318, g_320, kn_321, rfl⟩)
  · have hP : va_P V.1 vwCl [(y 3, aI V 4 fy3), (y 9, aI V 900 fy9), (y 19, .inr (4, o4_rrrrrr (y 2) (y 20) (y 21) (y 22) (y 23) (y 24))), (y 20, aI V 2000 fy20), (y 21, aI V 6 fy21), (y 22, aI V 64 fy22), (Yw 0, .inr (8, o8_iirrriirrrrrrriii pYw0_0 (nI n) (Yw 1) (Yw 2) wa pYw0_5 pYw0_6 (y 19) (Yw 4) (Yw 5) (Yw 6) (Yw 7) (Yw 8) wb pYw0_14 pYw0_15 pYw0_16)), (Yw 1, aI V n fYw1), (Yw 2, aI V n fYw2), (wa, aI V n fwa), (Yw 4, aI V L fYw4), (Yw 5, aI V n fYw5), (Yw 6, aI V (n * 4) fYw6), (Yw 7, aI V n fYw7), (Yw 8, aI V 4 fYw8), (wb, aI V n fwb), (y 0, .inr (9, o9_rirrrrrrrrrviii (y 1) py0_1 (y 2) (y 10) (y 19) (y 25) (y 26) (y 30) (y 31) (y 32) (Yw 0) o11 py0_12 py0_13 py0_14)), (y 2, .inr (1, o1_iiiiiirrrrrrriiiii py2_0 py2_1 py2_2 py2_3 py2_4 py2_5 (y 3) (y 4) (y 5) (y 6) (y 7) (y 8) (y 9) py2_13 py2_14 py2_15 py2_16 py2_17)), (y 30, aT V 4 (va_up (va_up (va_up (va_up (fun _ => none) 0 (some (y 33))) 1 (some (y 35))) 2 (some (y 37))) 3 (some (y 39)))), (y 33, .inr (7, o7_rii (y 34) py33_1 py33_2)), (y 34, aJ V 40 fy34), (y 35, .inr (7, o7_rii (y 36) py35_1 py35_2)), (y 36, aJ V 40 fy36), (y 37, .inr (7, o7_rii (y 38) py37_1 py37_2)), (y 38, aJ V 40 fy38), (y 39, .inr (7, o7_rii (y 40) py39_1 py39_2)), (y 40, aJ V 40 fy40)] H := hP
    have hD := cpD hP hD
    have b_328 : iv 0 2147483647 a2 := iv_e2 (Int32.not_lt.mp c_77) (iv_c (0 : Int32) (a := 0) (b := 0) (by decide)) (iv_top a2) (by first | decide | omega)
    have b_329 : iv 0 3 a2 := iv_l1 (Int32.not_le.mp c_78) b_328 bpy2_1 (by first | decide | omega)
    have b_330 : iv 1 4 py2_1 := iv_l2 (Int32.not_le.mp c_78) b_328 bpy2_1 (by first | decide | omega)
    have b_331 : iv 1 1 a1 := iv_q c_79 (iv_c (1 : Int32) (a := 1) (b := 1) (by decide))
    have b_332 : iv 0 40 py35_1 := iv_e2 c_80 (iv_c (0 : Int32) (a := 0) (b := 0) (by decide)) bpy35_1 (by first | decide | omega)
    have b_333 : iv 1 40 py35_1 := iv_e2 (Int32.not_lt.mp c_81) (iv_c (1 : Int32) (a := 1) (b := 1) (by decide)) b_332 (by first | decide | omega)
    have b_334 : iv 1 8 py35_1 := iv_e1 c_82 b_333 (iv_c (8 : Int32) (a := 8) (b := 8) (by decide)) (by first | decide | omega)
    refine lv_istore_n (lv' := [(3, .int (-3)), (0, .ref (y 0)), (1, .int a1), (2, .int a2)]) hx hb dX9_high_7 rfl hl (by decide) rfl (fun ls hl => ?_)
    refine lv_iload_n hx hb dX9_high_8 rfl (lv_at hl 0 rfl) ?_
    refine lv_if_eq (tgt := 15) hx hb dX9_high_9 (by decide) (fun c_336 => absurd c_336 (by decide)) (fun _ => ?_)
    refine lv_iload_n hx hb dX9_high_12 rfl (lv_at hl 0 rfl) ?_
    refine lv_i2l (v := (-3)) hx hb dX9_high_13 (by decide +kernel) ?_
    have z_0 := Int32.lt_iff_toInt_lt.mp hq0
    have z_1 := Int32.le_iff_toInt_le.mp (Int32.not_lt.mp c_75)
    have z_2 := Int32.lt_iff_toInt_lt.mp (Int32.not_le.mp c_76)
    have z_3 := Int32.le_iff_toInt_le.mp (Int32.not_lt.mp c_77)
    have z_4 := Int32.lt_iff_toInt_lt.mp (Int32.not_le.mp c_78)
    have z_5 := congrArg Int32.toInt c_79
    have z_6 := Int32.le_iff_toInt_le.mp c_80
    have z_7 := Int32.le_iff_toInt_le.mp (Int32.not_lt.mp c_81)
    have z_8 := Int32.le_iff_toInt_le.mp c_82
    have k_0 : (0 : Int32).toInt = 0 := (by decide)
    have k_1 : (1 : Int32).toInt = 1 := (by decide)
    have k_4 : (4 : Int32).toInt = 4 := (by decide)
    have k_8 : (8 : Int32).toInt = 8 := (by decide)
    exfalso
    have g_0 := hf3
    exact absurd (g_83.trans g_0) (by decide)
  · have hP : va_P V.1 vwCl [(y 3, aI V 4 fy3), (y 9, aI V 900 fy9), (y 19, .inr (4, o4_rrrrrr (y 2) (y 20) (y 21) (y 22) (y 23) (y 24))), (y 20, aI V 2000 fy20), (y 21, aI V 6 fy21), (y 22, aI V 64 fy22), (Yw 0, .inr (8, o8_iirrriirrrrrrriii pYw0_0 (nI n) (Yw 1) (Yw 2) wa pYw0_5 pYw0_6 (y 19) (Yw 4) (Yw 5) (Yw 6) (Yw 7) (Yw 8) wb pYw0_14 pYw0_15 pYw0_16)), (Yw 1, aI V n fYw1), (Yw 2, aI V n fYw2), (wa, aI V n fwa), (Yw 4, aI V L fYw4), (Yw 5, aI V n fYw5), (Yw 6, aI V (n * 4) fYw6), (Yw 7, aI V n fYw7), (Yw 8, aI V 4 fYw8), (wb, aI V n fwb), (y 0, .inr (9, o9_rirrrrrrrrrviii (y 1) py0_1 (y 2) (y 10) (y 19) (y 25) (y 26) (y 30) (y 31) (y 32) (Yw 0) o11 py0_12 py0_13 py0_14)), (y 2, .inr (1, o1_iiiiiirrrrrrriiiii py2_0 py2_1 py2_2 py2_3 py2_4 py2_5 (y 3) (y 4) (y 5) (y 6) (y 7) (y 8) (y 9) py2_13 py2_14 py2_15 py2_16 py2_17)), (y 30, aT V 4 (va_up (va_up (va_up (va_up (fun _ => none) 0 (some (y 33))) 1 (some (y 35))) 2 (some (y 37))) 3 (some (y 39)))), (y 33, .inr (7, o7_rii (y 34) py33_1 py33_2)), (y 34, aJ V 40 fy34), (y 35, .inr (7, o7_rii (y 36) py35_1 py35_2)), (y 36, aJ V 40 fy36), (y 37, .inr (7, o7_rii (y 38) py37_1 py37_2)), (y 38, aJ V 40 fy38), (y 39, .inr (7, o7_rii (y 40) py39_1 py39_2)), (y 40, aJ V 40 fy40)] H := hP
    have hD := cpD hP hD
    have b_337 : iv 0 2147483647 a2 := iv_e2 (Int32.not_lt.mp c_86) (iv_c (0 : Int32) (a := 0) (b := 0) (by decide)) (iv_top a2) (by first | decide | omega)
    have b_338 : iv 0 3 a2 := iv_l1 (Int32.not_le.mp c_87) b_337 bpy2_1 (by first | decide | omega)
    have b_339 : iv 1 4 py2_1 := iv_l2 (Int32.not_le.mp c_87) b_337 bpy2_1 (by first | decide | omega)
    have b_340 : iv 1 1 a1 := iv_q c_88 (iv_c (1 : Int32) (a := 1) (b := 1) (by decide))
    have b_341 : iv 0 40 py35_1 := iv_e2 c_89 (iv_c (0 : Int32) (a := 0) (b := 0) (by decide)) bpy35_1 (by first | decide | omega)
    have b_342 : iv 1 40 py35_1 := iv_e2 (Int32.not_lt.mp c_90) (iv_c (1 : Int32) (a := 1) (b := 1) (by decide)) b_341 (by first | decide | omega)
    have b_343 : iv 9 40 py35_1 := iv_l2 (Int32.not_le.mp c_91) (iv_c (8 : Int32) (a := 8) (b := 8) (by decide)) b_342 (by first | decide | omega)
    refine lv_istore_n (lv' := [(3, .int (-4)), (0, .ref (y 0)), (1, .int a1), (2, .int a2)]) hx hb dX9_high_7 rfl hl (by decide) rfl (fun ls hl => ?_)
    refine lv_iload_n hx hb dX9_high_8 rfl (lv_at hl 0 rfl) ?_
    refine lv_if_eq (tgt := 15) hx hb dX9_high_9 (by decide) (fun c_345 => absurd c_345 (by decide)) (fun _ => ?_)
    refine lv_iload_n hx hb dX9_high_12 rfl (lv_at hl 0 rfl) ?_
    refine lv_i2l (v := (-4)) hx hb dX9_high_13 (by decide +kernel) ?_
    have z_0 := Int32.lt_iff_toInt_lt.mp hq0
    have z_1 := Int32.le_iff_toInt_le.mp (Int32.not_lt.mp c_84)
    have z_2 := Int32.lt_iff_toInt_lt.mp (Int32.not_le.mp c_85)
    have z_3 := Int32.le_iff_toInt_le.mp (Int32.not_lt.mp c_86)
    have z_4 := Int32.lt_iff_toInt_lt.mp (Int32.not_le.mp c_87)
    have z_5 := congrArg Int32.toInt c_88
    have z_6 := Int32.le_iff_toInt_le.mp c_89
    have z_7 := Int32.le_iff_toInt_le.mp (Int32.not_lt.mp c_90)
    have z_8 := Int32.lt_iff_toInt_lt.mp (Int32.not_le.mp c_91)
    have k_0 : (0 : Int32).toInt = 0 := (by decide)
    have k_1 : (1 : Int32).toInt = 1 := (by decide)
    have k_4 : (4 : Int32).toInt = 4 := (by decide)
    have k_8 : (8 : Int32).toInt = 8 := (by decide)
    exfalso
    have g_0 := hf3
    exact absurd (g_92.trans g_0) (by decide)
  · have hP : va_P V.1 vwCl [(y 3, aI V 4 fy3), (y 9, aI V 900 fy9), (y 19, .inr (4, o4_rrrrrr (y 2) (y 20) (y 21) (y 22) (y 23) (y 24))), (y 20, aI V 2000 fy20), (y 21, aI V 6 fy21), (y 22, aI V 64 fy22), (Yw 0, .inr (8, o8_iirrriirrrrrrriii pYw0_0 (nI n) (Yw 1) (Yw 2) wa pYw0_5 pYw0_6 (y 19) (Yw 4) (Yw 5) (Yw 6) (Yw 7) (Yw 8) wb pYw0_14 pYw0_15 pYw0_16)), (Yw 1, aI V n fYw1), (Yw 2, aI V n fYw2), (wa, aI V n fwa), (Yw 4, aI V L fYw4), (Yw 5, aI V n fYw5), (Yw 6, aI V (n * 4) fYw6), (Yw 7, aI V n fYw7), (Yw 8, aI V 4 fYw8), (wb, aI V n fwb), (y 0, .inr (9, o9_rirrrrrrrrrviii (y 1) py0_1 (y 2) (y 10) (y 19) (y 25) (y 26) (y 30) (y 31) (y 32) (Yw 0) o11 py0_12 py0_13 py0_14)), (y 2, .inr (1, o1_iiiiiirrrrrrriiiii py2_0 py2_1 py2_2 py2_3 py2_4 py2_5 (y 3) (y 4) (y 5) (y 6) (y 7) (y 8) (y 9) py2_13 py2_14 py2_15 py2_16 py2_17)), (y 30, aT V 4 (va_up (va_up (va_up (va_up (fun _ => none) 0 (some (y 33))) 1 (some (y 35))) 2 (some (y 37))) 3 (some (y 39)))), (y 33, .inr (7, o7_rii (y 34) py33_1 py33_2)), (y 34, aJ V 40 fy34), (y 35, .inr (7, o7_rii (y 36) py35_1 py35_2)), (y 36, aJ V 40 fy36), (y 37, .inr (7, o7_rii (y 38) py37_1 py37_2)), (y 38, aJ V 40 fy38), (y 39, .inr (7, o7_rii (y 40) py39_1 py39_2)), (y 40, aJ V 40 fy40)] H := hP
    have hD := cpD hP hD
    have b_346 : iv 0 2147483647 a2 := iv_e2 (Int32.not_lt.mp c_95) (iv_c (0 : Int32) (a := 0) (b := 0) (by decide)) (iv_top a2) (by first | decide | omega)
    have b_347 : iv 0 3 a2 := iv_l1 (Int32.not_le.mp c_96) b_346 bpy2_1 (by first | decide | omega)
    have b_348 : iv 1 4 py2_1 := iv_l2 (Int32.not_le.mp c_96) b_346 bpy2_1 (by first | decide | omega)
    have b_349 : iv 1 1 a1 := iv_q c_97 (iv_c (1 : Int32) (a := 1) (b := 1) (by decide))
    have b_350 : iv (-1) (-1) py35_1 := iv_l1 (Int32.not_le.mp c_98) bpy35_1 (iv_c (0 : Int32) (a := 0) (b := 0) (by decide)) (by first | decide | omega)
    refine lv_istore_n (lv' := [(3, .int (-6)), (0, .ref (y 0)), (1, .int a1), (2, .int a2)]) hx hb dX9_high_7 rfl hl (by decide) rfl (fun ls hl => ?_)
    refine lv_iload_n hx hb dX9_high_8 rfl (lv_at hl 0 rfl) ?_
    refine lv_if_eq (tgt := 15) hx hb dX9_high_9 (by decide) (fun c_352 => absurd c_352 (by decide)) (fun _ => ?_)
    refine lv_iload_n hx hb dX9_high_12 rfl (lv_at hl 0 rfl) ?_
    refine lv_i2l (v := (-6)) hx hb dX9_high_13 (by decide +kernel) ?_
    have z_0 := Int32.lt_iff_toInt_lt.mp hq0
    have z_1 := Int32.le_iff_toInt_le.mp (Int32.not_lt.mp c_93)
    have z_2 := Int32.lt_iff_toInt_lt.mp (Int32.not_le.mp c_94)
    have z_3 := Int32.le_iff_toInt_le.mp (Int32.not_lt.mp c_95)
    have z_4 := Int32.lt_iff_toInt_lt.mp (Int32.not_le.mp c_96)
    have z_5 := congrArg Int32.toInt c_97
    have z_6 := Int32.lt_iff_toInt_lt.mp (Int32.not_le.mp c_98)
    have k_0 : (0 : Int32).toInt = 0 := (by decide)
    have k_1 : (1 : Int32).toInt = 1 := (by decide)
    have k_4 : (4 : Int32).toInt = 4 := (by decide)
    exfalso
    have g_0 := hf3
    exact absurd (g_99.trans g_0) (by decide)
  · have hP : va_P V.1 vwCl [(y 3, aI V 4 fy3), (y 9, aI V 900 fy9), (y 19, .inr (4, o4_rrrrrr (y 2) (y 20) (y 21) (y 22) (y 23) (y 24))), (y 20, aI V 2000 fy20), (y 21, aI V 6 fy21), (y 22, aI V 64 fy22), (Yw 0, .inr (8, o8_iirrriirrrrrrriii pYw0_0 (nI n) (Yw 1) (Yw 2) wa pYw0_5 pYw0_6 (y 19) (Yw 4) (Yw 5) (Yw 6) (Yw 7) (Yw 8) wb pYw0_14 pYw0_15 pYw0_16)), (Yw 1, aI V n fYw1), (Yw 2, aI V n fYw2), (wa, aI V n fwa), (Yw 4, aI V L fYw4), (Yw 5, aI V n fYw5), (Yw 6, aI V (n * 4) fYw6), (Yw 7, aI V n fYw7), (Yw 8, aI V 4 fYw8), (wb, aI V n fwb), (y 0, .inr (9, o9_rirrrrrrrrrviii (y 1) py0_1 (y 2) (y 10) (y 19) (y 25) (y 26) (y 30) (y 31) (y 32) (Yw 0) o11 py0_12 py0_13 py0_14)), (y 2, .inr (1, o1_iiiiiirrrrrrriiiii py2_0 py2_1 py2_2 py2_3 py2_4 py2_5 (y 3) (y 4) (y 5) (y 6) (y 7) (y 8) (y 9) py2_13 py2_14 py2_15 py2_16 py2_17)), (y 30, aT V 4 (va_up (va_up (va_up (va_up (fun _ => none) 0 (some (y 33))) 1 (some (y 35))) 2 (some (y 37))) 3 (some (y 39)))), (y 33, .inr (7, o7_rii (y 34) py33_1 py33_2)), (y 34, aJ V 40 fy34), (y 35, .inr (7, o7_rii (y 36) py35_1 py35_2)), (y 36, aJ V 40 fy36), (y 37, .inr (7, o7_rii (y 38) py37_1 py37_2)), (y 38, aJ V 40 fy38), (y 39, .inr (7, o7_rii (y 40) py39_1 py39_2)), (y 40, aJ V 40 fy40)] H := hP
    have hD := cpD hP hD
    have b_353 : iv 0 2147483647 a2 := iv_e2 (Int32.not_lt.mp c_102) (iv_c (0 : Int32) (a := 0) (b := 0) (by decide)) (iv_top a2) (by first | decide | omega)
    have b_354 : iv 0 3 a2 := iv_l1 (Int32.not_le.mp c_103) b_353 bpy2_1 (by first | decide | omega)
    have b_355 : iv 1 4 py2_1 := iv_l2 (Int32.not_le.mp c_103) b_353 bpy2_1 (by first | decide | omega)
    have b_356 : iv 2 2 a1 := iv_q c_104 (iv_c (2 : Int32) (a := 2) (b := 2) (by decide))
    have b_357 : iv 0 40 py37_1 := iv_e2 c_105 (iv_c (0 : Int32) (a := 0) (b := 0) (by decide)) bpy37_1 (by first | decide | omega)
    have b_358 : iv 0 0 py37_1 := iv_l1 c_106 b_357 (iv_c (1 : Int32) (a := 1) (b := 1) (by decide)) (by first | decide | omega)
    refine lv_istore_n (lv' := [(3, .int (-4)), (0, .ref (y 0)), (1, .int a1), (2, .int a2)]) hx hb dX9_high_7 rfl hl (by decide) rfl (fun ls hl => ?_)
    refine lv_iload_n hx hb dX9_high_8 rfl (lv_at hl 0 rfl) ?_
    refine lv_if_eq (tgt := 15) hx hb dX9_high_9 (by decide) (fun c_360 => absurd c_360 (by decide)) (fun _ => ?_)
    refine lv_iload_n hx hb dX9_high_12 rfl (lv_at hl 0 rfl) ?_
    refine lv_i2l (v := (-4)) hx hb dX9_high_13 (by decide +kernel) ?_
    have z_0 := Int32.lt_iff_toInt_lt.mp hq0
    have z_1 := Int32.le_iff_toInt_le.mp (Int32.not_lt.mp c_100)
    have z_2 := Int32.lt_iff_toInt_lt.mp (Int32.not_le.mp c_101)
    have z_3 := Int32.le_iff_toInt_le.mp (Int32.not_lt.mp c_102)
    have z_4 := Int32.lt_iff_toInt_lt.mp (Int32.not_le.mp c_103)
    have z_5 := congrArg Int32.toInt c_104
    have z_6 := Int32.le_iff_toInt_le.mp c_105
    have z_7 := Int32.lt_iff_toInt_lt.mp c_106
    have k_0 : (0 : Int32).toInt = 0 := (by decide)
    have k_1 : (1 : Int32).toInt = 1 := (by decide)
    have k_2 : (2 : Int32).toInt = 2 := (by decide)
    have k_4 : (4 : Int32).toInt = 4 := (by decide)
    exfalso
    have g_0 := hf3
    exact absurd (g_107.trans g_0) (by decide)
  · have hP : va_P V.1 vwCl [(y 3, aI V 4 fy3), (y 9, aI V 900 fy9), (y 19, .inr (4, o4_rrrrrr (y 2) (y 20) (y 21) (y 22) (y 23) (y 24))), (y 20, aI V 2000 fy20), (y 21, aI V 6 fy21), (y 22, aI V 64 fy22), (Yw 0, .inr (8, o8_iirrriirrrrrrriii pYw0_0 (nI n) (Yw 1) (Yw 2) wa pYw0_5 pYw0_6 (y 19) (Yw 4) (Yw 5) (Yw 6) (Yw 7) (Yw 8) wb pYw0_14 pYw0_15 pYw0_16)), (Yw 1, aI V n fYw1), (Yw 2, aI V n fYw2), (wa, aI V n fwa), (Yw 4, aI V L fYw4), (Yw 5, aI V n fYw5), (Yw 6, aI V (n * 4) fYw6), (Yw 7, aI V n fYw7), (Yw 8, aI V 4 fYw8), (wb, aI V n fwb), (y 0, .inr (9, o9_rirrrrrrrrrviii (y 1) py0_1 (y 2) (y 10) (y 19) (y 25) (y 26) (y 30) (y 31) (y 32) (Yw 0) o11 py0_12 py0_13 py0_14)), (y 2, .inr (1, o1_iiiiiirrrrrrriiiii py2_0 py2_1 py2_2 py2_3 py2_4 py2_5 (y 3) (y 4) (y 5) (y 6) (y 7) (y 8) (y 9) py2_13 py2_14 py2_15 py2_16 py2_17)), (y 30, aT V 4 (va_up (va_up (va_up (va_up (fun _ => none) 0 (some (y 33))) 1 (some (y 35))) 2 (some (y 37))) 3 (some (y 39)))), (y 33, .inr (7, o7_rii (y 34) py33_1 py33_2)), (y 34, aJ V 40 fy34), (y 35, .inr (7, o7_rii (y 36) py35_1 py35_2)), (y 36, aJ V 40 fy36), (y 37, .inr (7, o7_rii (y 38) py37_1 py37_2)), (y 38, aJ V 40 fy38), (y 39, .inr (7, o7_rii (y 40) py39_1 py39_2)), (y 40, aJ V 40 fy40)] H := hP
    have hD := cpD hP hD
    have b_361 : iv 0 2147483647 a2 := iv_e2 (Int32.not_lt.mp c_110) (iv_c (0 : Int32) (a := 0) (b := 0) (by decide)) (iv_top a2) (by first | decide | omega)
    have b_362 : iv 0 3 a2 := iv_l1 (Int32.not_le.mp c_111) b_361 bpy2_1 (by first | decide | omega)
    have b_363 : iv 1 4 py2_1 := iv_l2 (Int32.not_le.mp c_111) b_361 bpy2_1 (by first | decide | omega)
    have b_364 : iv 2 2 a1 := iv_q c_112 (iv_c (2 : Int32) (a := 2) (b := 2) (by decide))
    have b_365 : iv 0 40 py37_1 := iv_e2 c_113 (iv_c (0 : Int32) (a := 0) (b := 0) (by decide)) bpy37_1 (by first | decide | omega)
    have b_366 : iv 1 40 py37_1 := iv_e2 (Int32.not_lt.mp c_114) (iv_c (1 : Int32) (a := 1) (b := 1) (by decide)) b_365 (by first | decide | omega)
    have b_367 : iv 1 8 py37_1 := iv_e1 c_115 b_366 (iv_c (8 : Int32) (a := 8) (b := 8) (by decide)) (by first | decide | omega)
    refine lv_istore_n (lv' := [(3, .int 0), (0, .ref (y 0)), (1, .int a1), (2, .int a2)]) hx hb dX9_high_7 rfl hl (by decide) rfl (fun ls hl => ?_)
    refine lv_iload_n hx hb dX9_high_8 rfl (lv_at hl 0 rfl) ?_
    refine lv_if_eq (tgt := 15) hx hb dX9_high_9 (by decide) (fun _ => ?_) (fun c_369 => absurd c_369 (by decide))
    refine lv_aload_n hx hb dX9_high_15 rfl (lv_at hl 1 rfl) ?_
    refine lv_aload_n hx hb dX9_high_16 rfl (lv_at hl 1 rfl) ?_
    refine va_get (ci := 9) (v := .ref (y 30)) (C := RX9) (T := TX9) (N := 15) hx hb hg inX9 hown hK hP 16 rfl rfl 7 (by decide) (hg _ q_2_43) (fun _ h9 => h9) rfl dX9_high_17 ?_
    refine lv_iload_n hx hb dX9_high_20 rfl (lv_at hl 2 rfl) ?_
    have c_370 : a1 = 2 := by have q9 := b_364; unfold iv at q9; simp only [tI_eq, (by decide : (2 : Int32).toInt = 2)]; omega
    rcases c_370 with rfl
    · refine va_aldq hx hb hK hP 18 4 rfl rfl (vin (by decide +kernel)) dX9_high_21 ?_
      refine W.eq (g2 := F0 m 22 ls (.ref (y 37) :: .ref (y 0) :: [])) rfl ?_
      refine va_get (ci := 7) (v := .int py37_1) (C := RX7) (T := TX7) (N := 3) hx hb hg inX7 hown hK hP 23 rfl rfl 1 (by decide) (hg _ q_2_2) (fun _ h9 => h9) rfl dX9_high_22 ?_
      refine jnR (wr := [(y 30, aT V 4 (va_up (va_up (va_up (va_up (fun _ => none) 0 (some (y 33))) 1 (some (y 35))) 2 (some (y 37))) 3 (some (y 39)))), (y 33, .inr (7, o7_rii (y 34) py33_1 py33_2)), (y 34, aJ V 40 fy34), (y 35, .inr (7, o7_rii (y 36) py35_1 py35_2)), (y 36, aJ V 40 fy36), (y 37, .inr (7, o7_rii (y 38) py37_1 py37_2)), (y 38, aJ V 40 fy38), (y 39, .inr (7, o7_rii (y 40) py39_1 py39_2)), (y 40, aJ V 40 fy40)]) (rnV (rest := []) ⟨hx, hb, hml, hown, hg⟩ (k_X9_waysFromNow_2 l V n L Yw y D9 py37_1 fy3 fy9 fy20 fy21 fy22 pYw0_0 wa pYw0_5 pYw0_6 wb pYw0_14 pYw0_15 pYw0_16 fYw1 fYw2 fwa fYw4 fYw5 fYw6 fYw7 fYw8 fwb py0_1 o11 py0_12 py0_13 py0_14 py2_0 py2_1 py2_2 py2_3 py2_4 py2_5 py2_13 py2_14 py2_15 py2_16 py2_17 hn hL hq0 tfy20 bpYw0_0 bpYw0_5 bpYw0_6 bpYw0_14 bpYw0_15 bpYw0_16 tfYw1 tfYw4 tfYw5 tfYw6 tfYw7 bpy0_1 bpy0_12 bpy0_13 (iv_w b_363 (by first | decide | omega)) bpy2_2 bpy2_3 bpy2_4 bpy2_5 bpy2_13 bpy2_14 bpy2_15 bpy2_16 bpy2_17 hf0 hf1 hf2 hL9 hK9) mt_X9_waysFromNow q_4_52 ⟨Nat.le_of_ble_eq_true rfl, Nat.le_of_ble_eq_true rfl⟩ hK hP hD hS hA hE [0, 1, 2, 3, 4, 5, 6, 7, 8, 9, 10, 11, 12, 13, 14, 15, 16, 17] rfl rfl 16 rfl rfl rfl rfl hl.1 rfl (Nat.le_of_ble_eq_true rfl) dX9_high_25 ⟨Nat.le_of_ble_eq_true rfl, Nat.le_of_ble_eq_true rfl⟩) hP hD hS hA [0, 1, 2, 3, 4, 5, 6, 7, 8, 9, 10, 11, 12, 13, 14, 15, 16, 17] [18, 19, 20, 21, 22, 23, 24, 25, 26] rfl rfl rfl (by decide) (fun r_371 w H locs hw hP hD hS => ?_)
      refine W.widen (k := 10) (n := 46481) (Nat.le_of_ble_eq_true rfl) (Nat.le_of_ble_eq_true rfl) ?_
      obtain ⟨n, L, Yw, wa_372, wb_373, f_374, f_375, f_376, v_377, v_378, v_379, v_380, v_381, v_382, f_383, f_384, f_385, f_386, f_387, f_388, f_389, f_390, f_391, hn, hL, tf_374, bv_377, bv_378, bv_379, bv_380, bv_381, bv_382, tf_383, tf_386, tf_387, tf_388, tf_389, eW, g_392, g_393, g_394, g_395, g_396, kn_397, rfl⟩ := hw
      have hP : va_P V.1 vwCl [(y 30, aT V 4 (va_up (va_up (va_up (va_up (fun _ => none) 0 (some (y 33))) 1 (some (y 35))) 2 (some (y 37))) 3 (some (y 39)))), (y 33, .inr (7, o7_rii (y 34) py33_1 py33_2)), (y 34, aJ V 40 fy34), (y 35, .inr (7, o7_rii (y 36) py35_1 py35_2)), (y 36, aJ V 40 fy36), (y 37, .inr (7, o7_rii (y 38) py37_1 py37_2)), (y 38, aJ V 40 fy38), (y 39, .inr (7, o7_rii (y 40) py39_1 py39_2)), (y 40, aJ V 40 fy40), (y 3, aI V 4 fy3), (y 9, aI V 900 fy9), (y 19, .inr (4, o4_rrrrrr (y 2) (y 20) (y 21) (y 22) (y 23) (y 24))), (y 20, aI V 2000 f_374), (y 21, aI V 6 f_375), (y 22, aI V 64 f_376), (y 0, .inr (9, o9_rirrrrrrrrrviii (y 1) py0_1 (y 2) (y 10) (y 19) (y 25) (y 26) (y 30) (y 31) (y 32) (Yw 0) o11 py0_12 py0_13 py0_14)), (y 2, .inr (1, o1_iiiiiirrrrrrriiiii py2_0 py2_1 py2_2 py2_3 py2_4 py2_5 (y 3) (y 4) (y 5) (y 6) (y 7) (y 8) (y 9) py2_13 py2_14 py2_15 py2_16 py2_17)), (Yw 0, .inr (8, o8_iirrriirrrrrrriii v_377 (nI n) (Yw 1) (Yw 2) wa_372 v_378 v_379 (y 19) (Yw 4) (Yw 5) (Yw 6) (Yw 7) (Yw 8) wb_373 v_380 v_381 v_382)), (Yw 1, aI V n f_383), (Yw 2, aI V n f_384), (wa_372, aI V n f_385), (Yw 4, aI V L f_386), (Yw 5, aI V n f_387), (Yw 6, aI V (n * 4) f_388), (Yw 7, aI V n f_389), (Yw 8, aI V 4 f_390), (wb_373, aI V n f_391)] H := hP
      have hD := cpD hP hD
      rw [← eW]
      refine lv_astore (lv' := [(4, .ref (Yw 0)), (3, .int 0), (0, .ref (y 0)), (1, .int 2), (2, .int a2)]) hx hb dX9_high_28 hl (by decide) rfl (fun ls hl => ?_)
      refine lv_aload hx hb dX9_high_30 (lv_at hl 0 rfl) ?_
      refine lv_aload_n hx hb dX9_high_32 rfl (lv_at hl 2 rfl) ?_
      refine va_get (ci := 9) (v := .ref (y 30)) (C := RX9) (T := TX9) (N := 15) hx hb hg inX9 hown hK hP 15 rfl rfl 7 (by decide) (hg _ q_2_43) (fun _ h9 => h9) rfl dX9_high_33 ?_
      refine lv_iload_n hx hb dX9_high_36 rfl (lv_at hl 3 rfl) ?_
      refine va_aldq hx hb hK hP 0 4 rfl rfl (vin (by decide +kernel)) dX9_high_37 ?_
      refine W.eq (g2 := F0 m 38 ls (.ref (y 37) :: .ref (Yw 0) :: [])) rfl ?_
      refine lv_iload_n hx hb dX9_high_38 rfl (lv_at hl 4 rfl) ?_
      refine jnV (wr := [(y 30, aT V 4 (va_up (va_up (va_up (va_up (fun _ => none) 0 (some (y 33))) 1 (some (y 35))) 2 (some (y 37))) 3 (some (y 39)))), (y 33, .inr (7, o7_rii (y 34) py33_1 py33_2)), (y 34, aJ V 40 fy34), (y 35, .inr (7, o7_rii (y 36) py35_1 py35_2)), (y 36, aJ V 40 fy36), (y 39, .inr (7, o7_rii (y 40) py39_1 py39_2)), (y 40, aJ V 40 fy40), (y 3, aI V 4 fy3), (y 9, aI V 900 fy9), (y 19, .inr (4, o4_rrrrrr (y 2) (y 20) (y 21) (y 22) (y 23) (y 24))), (y 20, aI V 2000 f_374), (y 21, aI V 6 f_375), (y 22, aI V 64 f_376), (y 0, .inr (9, o9_rirrrrrrrrrviii (y 1) py0_1 (y 2) (y 10) (y 19) (y 25) (y 26) (y 30) (y 31) (y 32) (Yw 0) o11 py0_12 py0_13 py0_14)), (y 2, .inr (1, o1_iiiiiirrrrrrriiiii py2_0 py2_1 py2_2 py2_3 py2_4 py2_5 (y 3) (y 4) (y 5) (y 6) (y 7) (y 8) (y 9) py2_13 py2_14 py2_15 py2_16 py2_17)), (Yw 4, aI V L f_386), (Yw 5, aI V n f_387), (Yw 7, aI V n f_389), (Yw 8, aI V 4 f_390)]) (rnV (rest := []) ⟨hx, hb, hml, hown, hg⟩ (k_X8_spreadAsTold_2 l V n L Yw y a2 f_385 f_391 py37_1 py37_2 fy38 v_377 wa_372 v_378 v_379 wb_373 v_380 v_381 v_382 f_383 f_384 f_388 hn hL b_362 (iv_w b_367 (by first | decide | omega)) bv_377 bv_378 bv_379 bv_380 bv_381 bv_382 tf_383 tf_388) mt_X8_spreadAsTold q_5_26 ⟨Nat.le_of_ble_eq_true rfl, Nat.le_of_ble_eq_true rfl⟩ hK hP hD hS hA hE [20, 26, 5, 6, 17, 18, 19, 23] rfl rfl 17 rfl rfl rfl rfl hl.1 rfl (Nat.le_of_ble_eq_true rfl) dX9_high_39 ⟨Nat.le_of_ble_eq_true rfl, Nat.le_of_ble_eq_true rfl⟩) hP hD hS hA [20, 26, 5, 6, 17, 18, 19, 23] [0, 1, 2, 3, 4, 7, 8, 9, 10, 11, 12, 13, 14, 15, 16, 21, 22, 24, 25] rfl rfl rfl (by decide) (fun  w H locs hw hP hD hS => ?_)
      obtain ⟨f_398, f_399, wa_400, wb_401, rfl⟩ := hw
      have hP : va_P V.1 vwCl [(y 30, aT V 4 (va_up (va_up (va_up (va_up (fun _ => none) 0 (some (y 33))) 1 (some (y 35))) 2 (some (y 37))) 3 (some (y 39)))), (y 33, .inr (7, o7_rii (y 34) py33_1 py33_2)), (y 34, aJ V 40 fy34), (y 35, .inr (7, o7_rii (y 36) py35_1 py35_2)), (y 36, aJ V 40 fy36), (y 39, .inr (7, o7_rii (y 40) py39_1 py39_2)), (y 40, aJ V 40 fy40), (y 3, aI V 4 fy3), (y 9, aI V 900 fy9), (y 19, .inr (4, o4_rrrrrr (y 2) (y 20) (y 21) (y 22) (y 23) (y 24))), (y 20, aI V 2000 f_374), (y 21, aI V 6 f_375), (y 22, aI V 64 f_376), (y 0, .inr (9, o9_rirrrrrrrrrviii (y 1) py0_1 (y 2) (y 10) (y 19) (y 25) (y 26) (y 30) (y 31) (y 32) (Yw 0) o11 py0_12 py0_13 py0_14)), (y 2, .inr (1, o1_iiiiiirrrrrrriiiii py2_0 py2_1 py2_2 py2_3 py2_4 py2_5 (y 3) (y 4) (y 5) (y 6) (y 7) (y 8) (y 9) py2_13 py2_14 py2_15 py2_16 py2_17)), (Yw 4, aI V L f_386), (Yw 5, aI V n f_387), (Yw 7, aI V n f_389), (Yw 8, aI V 4 f_390), (wa_400, aI V n f_398), (wb_401, aI V n f_399), (y 37, .inr (7, o7_rii (y 38) py37_1 py37_2)), (y 38, aJ V 40 fy38), (Yw 0, .inr (8, o8_iirrriirrrrrrriii v_377 (nI n) (Yw 1) (Yw 2) wa_400 v_378 v_379 (y 19) (Yw 4) (Yw 5) (Yw 6) (Yw 7) (Yw 8) wb_401 v_380 v_381 v_382)), (Yw 1, aI V n f_383), (Yw 2, aI V n f_384), (Yw 6, aI V (n * 4) f_388)] H := hP
      have hD := cpD hP hD
      refine lv_aload hx hb dX9_high_42 (lv_at hl 0 rfl) ?_
      refine lv_iload_n hx hb dX9_high_44 rfl (lv_at hl 4 rfl) ?_
      refine lv_iconst (v := 0) hx hb dX9_high_45 (by decide) ?_
      refine lv_iconst (v := 4) hx hb dX9_high_46 (by decide) ?_
      refine jnI (wr := [(y 30, aT V 4 (va_up (va_up (va_up (va_up (fun _ => none) 0 (some (y 33))) 1 (some (y 35))) 2 (some (y 37))) 3 (some (y 39)))), (y 33, .inr (7, o7_rii (y 34) py33_1 py33_2)), (y 34, aJ V 40 fy34), (y 35, .inr (7, o7_rii (y 36) py35_1 py35_2)), (y 36, aJ V 40 fy36), (y 39, .inr (7, o7_rii (y 40) py39_1 py39_2)), (y 40, aJ V 40 fy40), (y 3, aI V 4 fy3), (y 9, aI V 900 fy9), (y 19, .inr (4, o4_rrrrrr (y 2) (y 20) (y 21) (y 22) (y 23) (y 24))), (y 20, aI V 2000 f_374), (y 21, aI V 6 f_375), (y 22, aI V 64 f_376), (y 0, .inr (9, o9_rirrrrrrrrrviii (y 1) py0_1 (y 2) (y 10) (y 19) (y 25) (y 26) (y 30) (y 31) (y 32) (Yw 0) o11 py0_12 py0_13 py0_14)), (y 2, .inr (1, o1_iiiiiirrrrrrriiiii py2_0 py2_1 py2_2 py2_3 py2_4 py2_5 (y 3) (y 4) (y 5) (y 6) (y 7) (y 8) (y 9) py2_13 py2_14 py2_15 py2_16 py2_17)), (Yw 4, aI V L f_386), (Yw 5, aI V n f_387), (Yw 7, aI V n f_389), (Yw 8, aI V 4 f_390), (wb_401, aI V n f_399), (y 37, .inr (7, o7_rii (y 38) py37_1 py37_2)), (y 38, aJ V 40 fy38), (Yw 2, aI V n f_384), (Yw 6, aI V (n * 4) f_388)]) (rnV (rest := []) ⟨hx, hb, hml, hown, hg⟩ (k_X8_weightOf_0 l V n L Yw y a2 0 4 v_377 wa_400 v_378 v_379 wb_401 v_380 v_381 v_382 f_383 f_398 hn hL b_362 bv_377 bv_378 bv_379 bv_380 bv_381 bv_382 tf_383) mt_X8_weightOf q_4_186 ⟨Nat.le_of_ble_eq_true rfl, Nat.le_of_ble_eq_true rfl⟩ hK hP hD hS hA hE [23, 24, 19] rfl rfl 23 rfl rfl rfl rfl hl.1 rfl (Nat.le_of_ble_eq_true rfl) dX9_high_47 ⟨Nat.le_of_ble_eq_true rfl, Nat.le_of_ble_eq_true rfl⟩) hP hD hS hA [23, 24, 19] [0, 1, 2, 3, 4, 5, 6, 7, 8, 9, 10, 11, 12, 13, 14, 15, 16, 17, 18, 20, 21, 22, 25, 26] rfl rfl rfl (by decide) (fun r_402 w H locs hw hP hD hS => ?_)
      subst hw
      have hP : va_P V.1 vwCl [(y 30, aT V 4 (va_up (va_up (va_up (va_up (fun _ => none) 0 (some (y 33))) 1 (some (y 35))) 2 (some (y 37))) 3 (some (y 39)))), (y 33, .inr (7, o7_rii (y 34) py33_1 py33_2)), (y 34, aJ V 40 fy34), (y 35, .inr (7, o7_rii (y 36) py35_1 py35_2)), (y 36, aJ V 40 fy36), (y 39, .inr (7, o7_rii (y 40) py39_1 py39_2)), (y 40, aJ V 40 fy40), (y 3, aI V 4 fy3), (y 9, aI V 900 fy9), (y 19, .inr (4, o4_rrrrrr (y 2) (y 20) (y 21) (y 22) (y 23) (y 24))), (y 20, aI V 2000 f_374), (y 21, aI V 6 f_375), (y 22, aI V 64 f_376), (y 0, .inr (9, o9_rirrrrrrrrrviii (y 1) py0_1 (y 2) (y 10) (y 19) (y 25) (y 26) (y 30) (y 31) (y 32) (Yw 0) o11 py0_12 py0_13 py0_14)), (y 2, .inr (1, o1_iiiiiirrrrrrriiiii py2_0 py2_1 py2_2 py2_3 py2_4 py2_5 (y 3) (y 4) (y 5) (y 6) (y 7) (y 8) (y 9) py2_13 py2_14 py2_15 py2_16 py2_17)), (Yw 4, aI V L f_386), (Yw 5, aI V n f_387), (Yw 7, aI V n f_389), (Yw 8, aI V 4 f_390), (wb_401, aI V n f_399), (y 37, .inr (7, o7_rii (y 38) py37_1 py37_2)), (y 38, aJ V 40 fy38), (Yw 2, aI V n f_384), (Yw 6, aI V (n * 4) f_388), (Yw 0, .inr (8, o8_iirrriirrrrrrriii v_377 (nI n) (Yw 1) (Yw 2) wa_400 v_378 v_379 (y 19) (Yw 4) (Yw 5) (Yw 6) (Yw 7) (Yw 8) wb_401 v_380 v_381 v_382)), (Yw 1, aI V n f_383), (wa_400, aI V n f_398)] H := hP
      have hD := cpD hP hD
      refine lv_i2l hx hb dX9_high_50 rfl ?_
      refine lv_topl (fun j_403 ej_403 => ?_)
      have hP := subP (ws' := [(y 0, .inr (9, o9_rirrrrrrrrrviii (y 1) py0_1 (y 2) (y 10) (y 19) (y 25) (y 26) (y 30) (y 31) (y 32) (Yw 0) o11 py0_12 py0_13 py0_14)), (y 2, .inr (1, o1_iiiiiirrrrrrriiiii py2_0 py2_1 py2_2 py2_3 py2_4 py2_5 (y 3) (y 4) (y 5) (y 6) (y 7) (y 8) (y 9) py2_13 py2_14 py2_15 py2_16 py2_17)), (y 3, aI V 4 fy3), (y 9, aI V 900 fy9), (y 19, .inr (4, o4_rrrrrr (y 2) (y 20) (y 21) (y 22) (y 23) (y 24))), (y 20, aI V 2000 f_374), (y 21, aI V 6 f_375), (y 22, aI V 64 f_376), (y 30, aT V 4 (va_up (va_up (va_up (va_up (fun _ => none) 0 (some (y 33))) 1 (some (y 35))) 2 (some (y 37))) 3 (some (y 39)))), (y 33, .inr (7, o7_rii (y 34) py33_1 py33_2)), (y 34, aJ V 40 fy34), (y 35, .inr (7, o7_rii (y 36) py35_1 py35_2)), (y 36, aJ V 40 fy36), (y 37, .inr (7, o7_rii (y 38) py37_1 py37_2)), (y 38, aJ V 40 fy38), (y 39, .inr (7, o7_rii (y 40) py39_1 py39_2)), (y 40, aJ V 40 fy40), (Yw 0, .inr (8, o8_iirrriirrrrrrriii v_377 (nI n) (Yw 1) (Yw 2) wa_400 v_378 v_379 (y 19) (Yw 4) (Yw 5) (Yw 6) (Yw 7) (Yw 8) wb_401 v_380 v_381 v_382)), (Yw 1, aI V n f_383), (Yw 2, aI V n f_384), (wa_400, aI V n f_398), (Yw 4, aI V L f_386), (Yw 5, aI V n f_387), (Yw 6, aI V (n * 4) f_388), (Yw 7, aI V n f_389), (Yw 8, aI V 4 f_390), (wb_401, aI V n f_399)]) hP [13, 14, 7, 8, 9, 10, 11, 12, 0, 1, 2, 3, 4, 20, 21, 5, 6, 24, 25, 22, 26, 15, 16, 23, 17, 18, 19] rfl
      have hD := subD hP hD [13, 14, 7, 8, 9, 10, 11, 12, 0, 1, 2, 3, 4, 20, 21, 5, 6, 24, 25, 22, 26, 15, 16, 23, 17, 18, 19] rfl rfl
      exact fiL hx hb hr hlk hK (subP (ws' := [(y 0, .inr (9, o9_rirrrrrrrrrviii (y 1) py0_1 (y 2) (y 10) (y 19) (y 25) (y 26) (y 30) (y 31) (y 32) (Yw 0) o11 py0_12 py0_13 py0_14)), (y 2, .inr (1, o1_iiiiiirrrrrrriiiii py2_0 py2_1 py2_2 py2_3 py2_4 py2_5 (y 3) (y 4) (y 5) (y 6) (y 7) (y 8) (y 9) py2_13 py2_14 py2_15 py2_16 py2_17)), (y 3, aI V 4 fy3), (y 9, aI V 900 fy9), (y 19, .inr (4, o4_rrrrrr (y 2) (y 20) (y 21) (y 22) (y 23) (y 24))), (y 20, aI V 2000 f_374), (y 21, aI V 6 f_375), (y 22, aI V 64 f_376), (y 30, aT V 4 (va_up (va_up (va_up (va_up (fun _ => none) 0 (some (y 33))) 1 (some (y 35))) 2 (some (y 37))) 3 (some (y 39)))), (y 33, .inr (7, o7_rii (y 34) py33_1 py33_2)), (y 34, aJ V 40 fy34), (y 35, .inr (7, o7_rii (y 36) py35_1 py35_2)), (y 36, aJ V 40 fy36), (y 37, .inr (7, o7_rii (y 38) py37_1 py37_2)), (y 38, aJ V 40 fy38), (y 39, .inr (7, o7_rii (y 40) py39_1 py39_2)), (y 40, aJ V 40 fy40), (Yw 0, .inr (8, o8_iirrriirrrrrrriii v_377 (nI n) (Yw 1) (Yw 2) wa_400 v_378 v_379 (y 19) (Yw 4) (Yw 5) (Yw 6) (Yw 7) (Yw 8) wb_401 v_380 v_381 v_382)), (Yw 1, aI V n f_383), (Yw 2, aI V n f_384), (wa_400, aI V n f_398), (Yw 4, aI V L f_386), (Yw 5, aI V n f_387), (Yw 6, aI V (n * 4) f_388), (Yw 7, aI V n f_389), (Yw 8, aI V 4 f_390), (wb_401, aI V n f_399)]) hP [0, 1, 2, 3, 4, 5, 6, 7, 8, 9, 10, 11, 12, 13, 14, 15, 16, 17, 18, 19, 20, 21, 22, 23, 24, 25, 26] rfl) (hD.sub [0, 1, 2, 3, 4, 5, 6, 7, 8, 9, 10, 11, 12, 13, 14, 15, 16, 17, 18, 19, 20, 21, 22, 23, 24, 25, 26] rfl rfl) hS dX9_high_51 (Nat.le_of_ble_eq_true rfl) (Nat.le_of_ble_eq_true rfl) (⟨n, L, Yw, wa_400, wb_401, f_374, f_375, f_376, v_377, v_378, v_379, v_380, v_381, v_382, f_383, f_384, f_398, f_386, f_387, f_388, f_389, f_390, f_399, hn, hL, tf_374, bv_377, bv_378, bv_379, bv_380, bv_381, bv_382, tf_383, tf_386, tf_387, tf_388, tf_389, g_392, g_393, g_394, g_396, kn_397, rfl⟩)
  · have hP : va_P V.1 vwCl [(y 3, aI V 4 fy3), (y 9, aI V 900 fy9), (y 19, .inr (4, o4_rrrrrr (y 2) (y 20) (y 21) (y 22) (y 23) (y 24))), (y 20, aI V 2000 fy20), (y 21, aI V 6 fy21), (y 22, aI V 64 fy22), (Yw 0, .inr (8, o8_iirrriirrrrrrriii pYw0_0 (nI n) (Yw 1) (Yw 2) wa pYw0_5 pYw0_6 (y 19) (Yw 4) (Yw 5) (Yw 6) (Yw 7) (Yw 8) wb pYw0_14 pYw0_15 pYw0_16)), (Yw 1, aI V n fYw1), (Yw 2, aI V n fYw2), (wa, aI V n fwa), (Yw 4, aI V L fYw4), (Yw 5, aI V n fYw5), (Yw 6, aI V (n * 4) fYw6), (Yw 7, aI V n fYw7), (Yw 8, aI V 4 fYw8), (wb, aI V n fwb), (y 0, .inr (9, o9_rirrrrrrrrrviii (y 1) py0_1 (y 2) (y 10) (y 19) (y 25) (y 26) (y 30) (y 31) (y 32) (Yw 0) o11 py0_12 py0_13 py0_14)), (y 2, .inr (1, o1_iiiiiirrrrrrriiiii py2_0 py2_1 py2_2 py2_3 py2_4 py2_5 (y 3) (y 4) (y 5) (y 6) (y 7) (y 8) (y 9) py2_13 py2_14 py2_15 py2_16 py2_17)), (y 30, aT V 4 (va_up (va_up (va_up (va_up (fun _ => none) 0 (some (y 33))) 1 (some (y 35))) 2 (some (y 37))) 3 (some (y 39)))), (y 33, .inr (7, o7_rii (y 34) py33_1 py33_2)), (y 34, aJ V 40 fy34), (y 35, .inr (7, o7_rii (y 36) py35_1 py35_2)), (y 36, aJ V 40 fy36), (y 37, .inr (7, o7_rii (y 38) py37_1 py37_2)), (y 38, aJ V 40 fy38), (y 39, .inr (7, o7_rii (y 40) py39_1 py39_2)), (y 40, aJ V 40 fy40)] H := hP
    have hD := cpD hP hD
    have b_404 : iv 0 2147483647 a2 := iv_e2 (Int32.not_lt.mp c_119) (iv_c (0 : Int32) (a := 0) (b := 0) (by decide)) (iv_top a2) (by first | decide | omega)
    have b_405 : iv 0 3 a2 := iv_l1 (Int32.not_le.mp c_120) b_404 bpy2_1 (by first | decide | omega)
    have b_406 : iv 1 4 py2_1 := iv_l2 (Int32.not_le.mp c_120) b_404 bpy2_1 (by first | decide | omega)
    have b_407 : iv 2 2 a1 := iv_q c_121 (iv_c (2 : Int32) (a := 2) (b := 2) (by decide))
    have b_408 : iv 0 40 py37_1 := iv_e2 c_122 (iv_c (0 : Int32) (a := 0) (b := 0) (by decide)) bpy37_1 (by first | decide | omega)
    have b_409 : iv 1 40 py37_1 := iv_e2 (Int32.not_lt.mp c_123) (iv_c (1 : Int32) (a := 1) (b := 1) (by decide)) b_408 (by first | decide | omega)
    have b_410 : iv 1 8 py37_1 := iv_e1 c_124 b_409 (iv_c (8 : Int32) (a := 8) (b := 8) (by decide)) (by first | decide | omega)
    refine lv_istore_n (lv' := [(3, .int (-3)), (0, .ref (y 0)), (1, .int a1), (2, .int a2)]) hx hb dX9_high_7 rfl hl (by decide) rfl (fun ls hl => ?_)
    refine lv_iload_n hx hb dX9_high_8 rfl (lv_at hl 0 rfl) ?_
    refine lv_if_eq (tgt := 15) hx hb dX9_high_9 (by decide) (fun c_412 => absurd c_412 (by decide)) (fun _ => ?_)
    refine lv_iload_n hx hb dX9_high_12 rfl (lv_at hl 0 rfl) ?_
    refine lv_i2l (v := (-3)) hx hb dX9_high_13 (by decide +kernel) ?_
    have z_0 := Int32.lt_iff_toInt_lt.mp hq0
    have z_1 := Int32.le_iff_toInt_le.mp (Int32.not_lt.mp c_117)
    have z_2 := Int32.lt_iff_toInt_lt.mp (Int32.not_le.mp c_118)
    have z_3 := Int32.le_iff_toInt_le.mp (Int32.not_lt.mp c_119)
    have z_4 := Int32.lt_iff_toInt_lt.mp (Int32.not_le.mp c_120)
    have z_5 := congrArg Int32.toInt c_121
    have z_6 := Int32.le_iff_toInt_le.mp c_122
    have z_7 := Int32.le_iff_toInt_le.mp (Int32.not_lt.mp c_123)
    have z_8 := Int32.le_iff_toInt_le.mp c_124
    have k_0 : (0 : Int32).toInt = 0 := (by decide)
    have k_1 : (1 : Int32).toInt = 1 := (by decide)
    have k_2 : (2 : Int32).toInt = 2 := (by decide)
    have k_4 : (4 : Int32).toInt = 4 := (by decide)
    have k_8 : (8 : Int32).toInt = 8 := (by decide)
    exfalso
    have g_0 := hf3
    exact absurd (g_125.trans g_0) (by decide)
  · have hP : va_P V.1 vwCl [(y 3, aI V 4 fy3), (y 9, aI V 900 fy9), (y 19, .inr (4, o4_rrrrrr (y 2) (y 20) (y 21) (y 22) (y 23) (y 24))), (y 20, aI V 2000 fy20), (y 21, aI V 6 fy21), (y 22, aI V 64 fy22), (Yw 0, .inr (8, o8_iirrriirrrrrrriii pYw0_0 (nI n) (Yw 1) (Yw 2) wa pYw0_5 pYw0_6 (y 19) (Yw 4) (Yw 5) (Yw 6) (Yw 7) (Yw 8) wb pYw0_14 pYw0_15 pYw0_16)), (Yw 1, aI V n fYw1), (Yw 2, aI V n fYw2), (wa, aI V n fwa), (Yw 4, aI V L fYw4), (Yw 5, aI V n fYw5), (Yw 6, aI V (n * 4) fYw6), (Yw 7, aI V n fYw7), (Yw 8, aI V 4 fYw8), (wb, aI V n fwb), (y 0, .inr (9, o9_rirrrrrrrrrviii (y 1) py0_1 (y 2) (y 10) (y 19) (y 25) (y 26) (y 30) (y 31) (y 32) (Yw 0) o11 py0_12 py0_13 py0_14)), (y 2, .inr (1, o1_iiiiiirrrrrrriiiii py2_0 py2_1 py2_2 py2_3 py2_4 py2_5 (y 3) (y 4) (y 5) (y 6) (y 7) (y 8) (y 9) py2_13 py2_14 py2_15 py2_16 py2_17)), (y 30, aT V 4 (va_up (va_up (va_up (va_up (fun _ => none) 0 (some (y 33))) 1 (some (y 35))) 2 (some (y 37))) 3 (some (y 39)))), (y 33, .inr (7, o7_rii (y 34) py33_1 py33_2)), (y 34, aJ V 40 fy34), (y 35, .inr (7, o7_rii (y 36) py35_1 py35_2)), (y 36, aJ V 40 fy36), (y 37, .inr (7, o7_rii (y 38) py37_1 py37_2)), (y 38, aJ V 40 fy38), (y 39, .inr (7, o7_rii (y 40) py39_1 py39_2)), (y 40, aJ V 40 fy40)] H := hP
    have hD := cpD hP hD
    have b_413 : iv 0 2147483647 a2 := iv_e2 (Int32.not_lt.mp c_128) (iv_c (0 : Int32) (a := 0) (b := 0) (by decide)) (iv_top a2) (by first | decide | omega)
    have b_414 : iv 0 3 a2 := iv_l1 (Int32.not_le.mp c_129) b_413 bpy2_1 (by first | decide | omega)
    have b_415 : iv 1 4 py2_1 := iv_l2 (Int32.not_le.mp c_129) b_413 bpy2_1 (by first | decide | omega)
    have b_416 : iv 2 2 a1 := iv_q c_130 (iv_c (2 : Int32) (a := 2) (b := 2) (by decide))
    have b_417 : iv 0 40 py37_1 := iv_e2 c_131 (iv_c (0 : Int32) (a := 0) (b := 0) (by decide)) bpy37_1 (by first | decide | omega)
    have b_418 : iv 1 40 py37_1 := iv_e2 (Int32.not_lt.mp c_132) (iv_c (1 : Int32) (a := 1) (b := 1) (by decide)) b_417 (by first | decide | omega)
    have b_419 : iv 9 40 py37_1 := iv_l2 (Int32.not_le.mp c_133) (iv_c (8 : Int32) (a := 8) (b := 8) (by decide)) b_418 (by first | decide | omega)
    refine lv_istore_n (lv' := [(3, .int (-4)), (0, .ref (y 0)), (1, .int a1), (2, .int a2)]) hx hb dX9_high_7 rfl hl (by decide) rfl (fun ls hl => ?_)
    refine lv_iload_n hx hb dX9_high_8 rfl (lv_at hl 0 rfl) ?_
    refine lv_if_eq (tgt := 15) hx hb dX9_high_9 (by decide) (fun c_421 => absurd c_421 (by decide)) (fun _ => ?_)
    refine lv_iload_n hx hb dX9_high_12 rfl (lv_at hl 0 rfl) ?_
    refine lv_i2l (v := (-4)) hx hb dX9_high_13 (by decide +kernel) ?_
    have z_0 := Int32.lt_iff_toInt_lt.mp hq0
    have z_1 := Int32.le_iff_toInt_le.mp (Int32.not_lt.mp c_126)
    have z_2 := Int32.lt_iff_toInt_lt.mp (Int32.not_le.mp c_127)
    have z_3 := Int32.le_iff_toInt_le.mp (Int32.not_lt.mp c_128)
    have z_4 := Int32.lt_iff_toInt_lt.mp (Int32.not_le.mp c_129)
    have z_5 := congrArg Int32.toInt c_130
    have z_6 := Int32.le_iff_toInt_le.mp c_131
    have z_7 := Int32.le_iff_toInt_le.mp (Int32.not_lt.mp c_132)
    have z_8 := Int32.lt_iff_toInt_lt.mp (Int32.not_le.mp c_133)
    have k_0 : (0 : Int32).toInt = 0 := (by decide)
    have k_1 : (1 : Int32).toInt = 1 := (by decide)
    have k_2 : (2 : Int32).toInt = 2 := (by decide)
    have k_4 : (4 : Int32).toInt = 4 := (by decide)
    have k_8 : (8 : Int32).toInt = 8 := (by decide)
    exfalso
    have g_0 := hf3
    exact absurd (g_134.trans g_0) (by decide)
  · have hP : va_P V.1 vwCl [(y 3, aI V 4 fy3), (y 9, aI V 900 fy9), (y 19, .inr (4, o4_rrrrrr (y 2) (y 20) (y 21) (y 22) (y 23) (y 24))), (y 20, aI V 2000 fy20), (y 21, aI V 6 fy21), (y 22, aI V 64 fy22), (Yw 0, .inr (8, o8_iirrriirrrrrrriii pYw0_0 (nI n) (Yw 1) (Yw 2) wa pYw0_5 pYw0_6 (y 19) (Yw 4) (Yw 5) (Yw 6) (Yw 7) (Yw 8) wb pYw0_14 pYw0_15 pYw0_16)), (Yw 1, aI V n fYw1), (Yw 2, aI V n fYw2), (wa, aI V n fwa), (Yw 4, aI V L fYw4), (Yw 5, aI V n fYw5), (Yw 6, aI V (n * 4) fYw6), (Yw 7, aI V n fYw7), (Yw 8, aI V 4 fYw8), (wb, aI V n fwb), (y 0, .inr (9, o9_rirrrrrrrrrviii (y 1) py0_1 (y 2) (y 10) (y 19) (y 25) (y 26) (y 30) (y 31) (y 32) (Yw 0) o11 py0_12 py0_13 py0_14)), (y 2, .inr (1, o1_iiiiiirrrrrrriiiii py2_0 py2_1 py2_2 py2_3 py2_4 py2_5 (y 3) (y 4) (y 5) (y 6) (y 7) (y 8) (y 9) py2_13 py2_14 py2_15 py2_16 py2_17)), (y 30, aT V 4 (va_up (va_up (va_up (va_up (fun _ => none) 0 (some (y 33))) 1 (some (y 35))) 2 (some (y 37))) 3 (some (y 39)))), (y 33, .inr (7, o7_rii (y 34) py33_1 py33_2)), (y 34, aJ V 40 fy34), (y 35, .inr (7, o7_rii (y 36) py35_1 py35_2)), (y 36, aJ V 40 fy36), (y 37, .inr (7, o7_rii (y 38) py37_1 py37_2)), (y 38, aJ V 40 fy38), (y 39, .inr (7, o7_rii (y 40) py39_1 py39_2)), (y 40, aJ V 40 fy40)] H := hP
    have hD := cpD hP hD
    have b_422 : iv 0 2147483647 a2 := iv_e2 (Int32.not_lt.mp c_137) (iv_c (0 : Int32) (a := 0) (b := 0) (by decide)) (iv_top a2) (by first | decide | omega)
    have b_423 : iv 0 3 a2 := iv_l1 (Int32.not_le.mp c_138) b_422 bpy2_1 (by first | decide | omega)
    have b_424 : iv 1 4 py2_1 := iv_l2 (Int32.not_le.mp c_138) b_422 bpy2_1 (by first | decide | omega)
    have b_425 : iv 2 2 a1 := iv_q c_139 (iv_c (2 : Int32) (a := 2) (b := 2) (by decide))
    have b_426 : iv (-1) (-1) py37_1 := iv_l1 (Int32.not_le.mp c_140) bpy37_1 (iv_c (0 : Int32) (a := 0) (b := 0) (by decide)) (by first | decide | omega)
    refine lv_istore_n (lv' := [(3, .int (-6)), (0, .ref (y 0)), (1, .int a1), (2, .int a2)]) hx hb dX9_high_7 rfl hl (by decide) rfl (fun ls hl => ?_)
    refine lv_iload_n hx hb dX9_high_8 rfl (lv_at hl 0 rfl) ?_
    refine lv_if_eq (tgt := 15) hx hb dX9_high_9 (by decide) (fun c_428 => absurd c_428 (by decide)) (fun _ => ?_)
    refine lv_iload_n hx hb dX9_high_12 rfl (lv_at hl 0 rfl) ?_
    refine lv_i2l (v := (-6)) hx hb dX9_high_13 (by decide +kernel) ?_
    have z_0 := Int32.lt_iff_toInt_lt.mp hq0
    have z_1 := Int32.le_iff_toInt_le.mp (Int32.not_lt.mp c_135)
    have z_2 := Int32.lt_iff_toInt_lt.mp (Int32.not_le.mp c_136)
    have z_3 := Int32.le_iff_toInt_le.mp (Int32.not_lt.mp c_137)
    have z_4 := Int32.lt_iff_toInt_lt.mp (Int32.not_le.mp c_138)
    have z_5 := congrArg Int32.toInt c_139
    have z_6 := Int32.lt_iff_toInt_lt.mp (Int32.not_le.mp c_140)
    have k_0 : (0 : Int32).toInt = 0 := (by decide)
    have k_2 : (2 : Int32).toInt = 2 := (by decide)
    have k_4 : (4 : Int32).toInt = 4 := (by decide)
    exfalso
    have g_0 := hf3
    exact absurd (g_141.trans g_0) (by decide)
  · have hP : va_P V.1 vwCl [(y 3, aI V 4 fy3), (y 9, aI V 900 fy9), (y 19, .inr (4, o4_rrrrrr (y 2) (y 20) (y 21) (y 22) (y 23) (y 24))), (y 20, aI V 2000 fy20), (y 21, aI V 6 fy21), (y 22, aI V 64 fy22), (Yw 0, .inr (8, o8_iirrriirrrrrrriii pYw0_0 (nI n) (Yw 1) (Yw 2) wa pYw0_5 pYw0_6 (y 19) (Yw 4) (Yw 5) (Yw 6) (Yw 7) (Yw 8) wb pYw0_14 pYw0_15 pYw0_16)), (Yw 1, aI V n fYw1), (Yw 2, aI V n fYw2), (wa, aI V n fwa), (Yw 4, aI V L fYw4), (Yw 5, aI V n fYw5), (Yw 6, aI V (n * 4) fYw6), (Yw 7, aI V n fYw7), (Yw 8, aI V 4 fYw8), (wb, aI V n fwb), (y 0, .inr (9, o9_rirrrrrrrrrviii (y 1) py0_1 (y 2) (y 10) (y 19) (y 25) (y 26) (y 30) (y 31) (y 32) (Yw 0) o11 py0_12 py0_13 py0_14)), (y 2, .inr (1, o1_iiiiiirrrrrrriiiii py2_0 py2_1 py2_2 py2_3 py2_4 py2_5 (y 3) (y 4) (y 5) (y 6) (y 7) (y 8) (y 9) py2_13 py2_14 py2_15 py2_16 py2_17)), (y 30, aT V 4 (va_up (va_up (va_up (va_up (fun _ => none) 0 (some (y 33))) 1 (some (y 35))) 2 (some (y 37))) 3 (some (y 39)))), (y 33, .inr (7, o7_rii (y 34) py33_1 py33_2)), (y 34, aJ V 40 fy34), (y 35, .inr (7, o7_rii (y 36) py35_1 py35_2)), (y 36, aJ V 40 fy36), (y 37, .inr (7, o7_rii (y 38) py37_1 py37_2)), (y 38, aJ V 40 fy38), (y 39, .inr (7, o7_rii (y 40) py39_1 py39_2)), (y 40, aJ V 40 fy40)] H := hP
    have hD := cpD hP hD
    have b_429 : iv 0 2147483647 a2 := iv_e2 (Int32.not_lt.mp c_144) (iv_c (0 : Int32) (a := 0) (b := 0) (by decide)) (iv_top a2) (by first | decide | omega)
    have b_430 : iv 0 3 a2 := iv_l1 (Int32.not_le.mp c_145) b_429 bpy2_1 (by first | decide | omega)
    have b_431 : iv 1 4 py2_1 := iv_l2 (Int32.not_le.mp c_145) b_429 bpy2_1 (by first | decide | omega)
    have b_432 : iv 3 3 a1 := iv_q c_146 (iv_c (3 : Int32) (a := 3) (b := 3) (by decide))
    have b_433 : iv 0 40 py39_1 := iv_e2 c_147 (iv_c (0 : Int32) (a := 0) (b := 0) (by decide)) bpy39_1 (by first | decide | omega)
    have b_434 : iv 0 0 py39_1 := iv_l1 c_148 b_433 (iv_c (1 : Int32) (a := 1) (b := 1) (by decide)) (by first | decide | omega)
    refine lv_istore_n (lv' := [(3, .int (-4)), (0, .ref (y 0)), (1, .int a1), (2, .int a2)]) hx hb dX9_high_7 rfl hl (by decide) rfl (fun ls hl => ?_)
    refine lv_iload_n hx hb dX9_high_8 rfl (lv_at hl 0 rfl) ?_
    refine lv_if_eq (tgt := 15) hx hb dX9_high_9 (by decide) (fun c_436 => absurd c_436 (by decide)) (fun _ => ?_)
    refine lv_iload_n hx hb dX9_high_12 rfl (lv_at hl 0 rfl) ?_
    refine lv_i2l (v := (-4)) hx hb dX9_high_13 (by decide +kernel) ?_
    have z_0 := Int32.lt_iff_toInt_lt.mp hq0
    have z_1 := Int32.le_iff_toInt_le.mp (Int32.not_lt.mp c_142)
    have z_2 := Int32.lt_iff_toInt_lt.mp (Int32.not_le.mp c_143)
    have z_3 := Int32.le_iff_toInt_le.mp (Int32.not_lt.mp c_144)
    have z_4 := Int32.lt_iff_toInt_lt.mp (Int32.not_le.mp c_145)
    have z_5 := congrArg Int32.toInt c_146
    have z_6 := Int32.le_iff_toInt_le.mp c_147
    have z_7 := Int32.lt_iff_toInt_lt.mp c_148
    have k_0 : (0 : Int32).toInt = 0 := (by decide)
    have k_1 : (1 : Int32).toInt = 1 := (by decide)
    have k_3 : (3 : Int32).toInt = 3 := (by decide)
    have k_4 : (4 : Int32).toInt = 4 := (by decide)
    exfalso
    have g_0 := hf3
    exact absurd (g_149.trans g_0) (by decide)
  · have hP : va_P V.1 vwCl [(y 3, aI V 4 fy3), (y 9, aI V 900 fy9), (y 19, .inr (4, o4_rrrrrr (y 2) (y 20) (y 21) (y 22) (y 23) (y 24))), (y 20, aI V 2000 fy20), (y 21, aI V 6 fy21), (y 22, aI V 64 fy22), (Yw 0, .inr (8, o8_iirrriirrrrrrriii pYw0_0 (nI n) (Yw 1) (Yw 2) wa pYw0_5 pYw0_6 (y 19) (Yw 4) (Yw 5) (Yw 6) (Yw 7) (Yw 8) wb pYw0_14 pYw0_15 pYw0_16)), (Yw 1, aI V n fYw1), (Yw 2, aI V n fYw2), (wa, aI V n fwa), (Yw 4, aI V L fYw4), (Yw 5, aI V n fYw5), (Yw 6, aI V (n * 4) fYw6), (Yw 7, aI V n fYw7), (Yw 8, aI V 4 fYw8), (wb, aI V n fwb), (y 0, .inr (9, o9_rirrrrrrrrrviii (y 1) py0_1 (y 2) (y 10) (y 19) (y 25) (y 26) (y 30) (y 31) (y 32) (Yw 0) o11 py0_12 py0_13 py0_14)), (y 2, .inr (1, o1_iiiiiirrrrrrriiiii py2_0 py2_1 py2_2 py2_3 py2_4 py2_5 (y 3) (y 4) (y 5) (y 6) (y 7) (y 8) (y 9) py2_13 py2_14 py2_15 py2_16 py2_17)), (y 30, aT V 4 (va_up (va_up (va_up (va_up (fun _ => none) 0 (some (y 33))) 1 (some (y 35))) 2 (some (y 37))) 3 (some (y 39)))), (y 33, .inr (7, o7_rii (y 34) py33_1 py33_2)), (y 34, aJ V 40 fy34), (y 35, .inr (7, o7_rii (y 36) py35_1 py35_2)), (y 36, aJ V 40 fy36), (y 37, .inr (7, o7_rii (y 38) py37_1 py37_2)), (y 38, aJ V 40 fy38), (y 39, .inr (7, o7_rii (y 40) py39_1 py39_2)), (y 40, aJ V 40 fy40)] H := hP
    have hD := cpD hP hD
    have b_437 : iv 0 2147483647 a2 := iv_e2 (Int32.not_lt.mp c_152) (iv_c (0 : Int32) (a := 0) (b := 0) (by decide)) (iv_top a2) (by first | decide | omega)
    have b_438 : iv 0 3 a2 := iv_l1 (Int32.not_le.mp c_153) b_437 bpy2_1 (by first | decide | omega)
    have b_439 : iv 1 4 py2_1 := iv_l2 (Int32.not_le.mp c_153) b_437 bpy2_1 (by first | decide | omega)
    have b_440 : iv 3 3 a1 := iv_q c_154 (iv_c (3 : Int32) (a := 3) (b := 3) (by decide))
    have b_441 : iv 0 40 py39_1 := iv_e2 c_155 (iv_c (0 : Int32) (a := 0) (b := 0) (by decide)) bpy39_1 (by first | decide | omega)
    have b_442 : iv 1 40 py39_1 := iv_e2 (Int32.not_lt.mp c_156) (iv_c (1 : Int32) (a := 1) (b := 1) (by decide)) b_441 (by first | decide | omega)
    have b_443 : iv 1 8 py39_1 := iv_e1 c_157 b_442 (iv_c (8 : Int32) (a := 8) (b := 8) (by decide)) (by first | decide | omega)
    refine lv_istore_n (lv' := [(3, .int 0), (0, .ref (y 0)), (1, .int a1), (2, .int a2)]) hx hb dX9_high_7 rfl hl (by decide) rfl (fun ls hl => ?_)
    refine lv_iload_n hx hb dX9_high_8 rfl (lv_at hl 0 rfl) ?_
    refine lv_if_eq (tgt := 15) hx hb dX9_high_9 (by decide) (fun _ => ?_) (fun c_445 => absurd c_445 (by decide))
    refine lv_aload_n hx hb dX9_high_15 rfl (lv_at hl 1 rfl) ?_
    refine lv_aload_n hx hb dX9_high_16 rfl (lv_at hl 1 rfl) ?_
    refine va_get (ci := 9) (v := .ref (y 30)) (C := RX9) (T := TX9) (N := 15) hx hb hg inX9 hown hK hP 16 rfl rfl 7 (by decide) (hg _ q_2_43) (fun _ h9 => h9) rfl dX9_high_17 ?_
    refine lv_iload_n hx hb dX9_high_20 rfl (lv_at hl 2 rfl) ?_
    have c_446 : a1 = 3 := by have q9 := b_440; unfold iv at q9; simp only [tI_eq, (by decide : (3 : Int32).toInt = 3)]; omega
    rcases c_446 with rfl
    · refine va_aldq hx hb hK hP 18 4 rfl rfl (vin (by decide +kernel)) dX9_high_21 ?_
      refine W.eq (g2 := F0 m 22 ls (.ref (y 39) :: .ref (y 0) :: [])) rfl ?_
      refine va_get (ci := 7) (v := .int py39_1) (C := RX7) (T := TX7) (N := 3) hx hb hg inX7 hown hK hP 25 rfl rfl 1 (by decide) (hg _ q_2_2) (fun _ h9 => h9) rfl dX9_high_22 ?_
      refine jnR (wr := [(y 30, aT V 4 (va_up (va_up (va_up (va_up (fun _ => none) 0 (some (y 33))) 1 (some (y 35))) 2 (some (y 37))) 3 (some (y 39)))), (y 33, .inr (7, o7_rii (y 34) py33_1 py33_2)), (y 34, aJ V 40 fy34), (y 35, .inr (7, o7_rii (y 36) py35_1 py35_2)), (y 36, aJ V 40 fy36), (y 37, .inr (7, o7_rii (y 38) py37_1 py37_2)), (y 38, aJ V 40 fy38), (y 39, .inr (7, o7_rii (y 40) py39_1 py39_2)), (y 40, aJ V 40 fy40)]) (rnV (rest := []) ⟨hx, hb, hml, hown, hg⟩ (k_X9_waysFromNow_2 l V n L Yw y D9 py39_1 fy3 fy9 fy20 fy21 fy22 pYw0_0 wa pYw0_5 pYw0_6 wb pYw0_14 pYw0_15 pYw0_16 fYw1 fYw2 fwa fYw4 fYw5 fYw6 fYw7 fYw8 fwb py0_1 o11 py0_12 py0_13 py0_14 py2_0 py2_1 py2_2 py2_3 py2_4 py2_5 py2_13 py2_14 py2_15 py2_16 py2_17 hn hL hq0 tfy20 bpYw0_0 bpYw0_5 bpYw0_6 bpYw0_14 bpYw0_15 bpYw0_16 tfYw1 tfYw4 tfYw5 tfYw6 tfYw7 bpy0_1 bpy0_12 bpy0_13 (iv_w b_439 (by first | decide | omega)) bpy2_2 bpy2_3 bpy2_4 bpy2_5 bpy2_13 bpy2_14 bpy2_15 bpy2_16 bpy2_17 hf0 hf1 hf2 hL9 hK9) mt_X9_waysFromNow q_4_52 ⟨Nat.le_of_ble_eq_true rfl, Nat.le_of_ble_eq_true rfl⟩ hK hP hD hS hA hE [0, 1, 2, 3, 4, 5, 6, 7, 8, 9, 10, 11, 12, 13, 14, 15, 16, 17] rfl rfl 16 rfl rfl rfl rfl hl.1 rfl (Nat.le_of_ble_eq_true rfl) dX9_high_25 ⟨Nat.le_of_ble_eq_true rfl, Nat.le_of_ble_eq_true rfl⟩) hP hD hS hA [0, 1, 2, 3, 4, 5, 6, 7, 8, 9, 10, 11, 12, 13, 14, 15, 16, 17] [18, 19, 20, 21, 22, 23, 24, 25, 26] rfl rfl rfl (by decide) (fun r_447 w H locs hw hP hD hS => ?_)
      refine W.widen (k := 10) (n := 46481) (Nat.le_of_ble_eq_true rfl) (Nat.le_of_ble_eq_true rfl) ?_
      obtain ⟨n, L, Yw, wa_448, wb_449, f_450, f_451, f_452, v_453, v_454, v_455, v_456, v_457, v_458, f_459, f_460, f_461, f_462, f_463, f_464, f_465, f_466, f_467, hn, hL, tf_450, bv_453, bv_454, bv_455, bv_456, bv_457, bv_458, tf_459, tf_462, tf_463, tf_464, tf_465, eW, g_468, g_469, g_470, g_471, g_472, kn_473, rfl⟩ := hw
      have hP : va_P V.1 vwCl [(y 30, aT V 4 (va_up (va_up (va_up (va_up (fun _ => none) 0 (some (y 33))) 1 (some (y 35))) 2 (some (y 37))) 3 (some (y 39)))), (y 33, .inr (7, o7_rii (y 34) py33_1 py33_2)), (y 34, aJ V 40 fy34), (y 35, .inr (7, o7_rii (y 36) py35_1 py35_2)), (y 36, aJ V 40 fy36), (y 37, .inr (7, o7_rii (y 38) py37_1 py37_2)), (y 38, aJ V 40 fy38), (y 39, .inr (7, o7_rii (y 40) py39_1 py39_2)), (y 40, aJ V 40 fy40), (y 3, aI V 4 fy3), (y 9, aI V 900 fy9), (y 19, .inr (4, o4_rrrrrr (y 2) (y 20) (y 21) (y 22) (y 23) (y 24))), (y 20, aI V 2000 f_450), (y 21, aI V 6 f_451), (y 22, aI V 64 f_452), (y 0, .inr (9, o9_rirrrrrrrrrviii (y 1) py0_1 (y 2) (y 10) (y 19) (y 25) (y 26) (y 30) (y 31) (y 32) (Yw 0) o11 py0_12 py0_13 py0_14)), (y 2, .inr (1, o1_iiiiiirrrrrrriiiii py2_0 py2_1 py2_2 py2_3 py2_4 py2_5 (y 3) (y 4) (y 5) (y 6) (y 7) (y 8) (y 9) py2_13 py2_14 py2_15 py2_16 py2_17)), (Yw 0, .inr (8, o8_iirrriirrrrrrriii v_453 (nI n) (Yw 1) (Yw 2) wa_448 v_454 v_455 (y 19) (Yw 4) (Yw 5) (Yw 6) (Yw 7) (Yw 8) wb_449 v_456 v_457 v_458)), (Yw 1, aI V n f_459), (Yw 2, aI V n f_460), (wa_448, aI V n f_461), (Yw 4, aI V L f_462), (Yw 5, aI V n f_463), (Yw 6, aI V (n * 4) f_464), (Yw 7, aI V n f_465), (Yw 8, aI V 4 f_466), (wb_449, aI V n f_467)] H := hP
      have hD := cpD hP hD
      rw [← eW]
      refine lv_astore (lv' := [(4, .ref (Yw 0)), (3, .int 0), (0, .ref (y 0)), (1, .int 3), (2, .int a2)]) hx hb dX9_high_28 hl (by decide) rfl (fun ls hl => ?_)
      refine lv_aload hx hb dX9_high_30 (lv_at hl 0 rfl) ?_
      refine lv_aload_n hx hb dX9_high_32 rfl (lv_at hl 2 rfl) ?_
      refine va_get (ci := 9) (v := .ref (y 30)) (C := RX9) (T := TX9) (N := 15) hx hb hg inX9 hown hK hP 15 rfl rfl 7 (by decide) (hg _ q_2_43) (fun _ h9 => h9) rfl dX9_high_33 ?_
      refine lv_iload_n hx hb dX9_high_36 rfl (lv_at hl 3 rfl) ?_
      refine va_aldq hx hb hK hP 0 4 rfl rfl (vin (by decide +kernel)) dX9_high_37 ?_
      refine W.eq (g2 := F0 m 38 ls (.ref (y 39) :: .ref (Yw 0) :: [])) rfl ?_
      refine lv_iload_n hx hb dX9_high_38 rfl (lv_at hl 4 rfl) ?_
      refine jnV (wr := [(y 30, aT V 4 (va_up (va_up (va_up (va_up (fun _ => none) 0 (some (y 33))) 1 (some (y 35))) 2 (some (y 37))) 3 (some (y 39)))), (y 33, .inr (7, o7_rii (y 34) py33_1 py33_2)), (y 34, aJ V 40 fy34), (y 35, .inr (7, o7_rii (y 36) py35_1 py35_2)), (y 36, aJ V 40 fy36), (y 37, .inr (7, o7_rii (y 38) py37_1 py37_2)), (y 38, aJ V 40 fy38), (y 3, aI V 4 fy3), (y 9, aI V 900 fy9), (y 19, .inr (4, o4_rrrrrr (y 2) (y 20) (y 21) (y 22) (y 23) (y 24))), (y 20, aI V 2000 f_450), (y 21, aI V 6 f_451), (y 22, aI V 64 f_452), (y 0, .inr (9, o9_rirrrrrrrrrviii (y 1) py0_1 (y 2) (y 10) (y 19) (y 25) (y 26) (y 30) (y 31) (y 32) (Yw 0) o11 py0_12 py0_13 py0_14)), (y 2, .inr (1, o1_iiiiiirrrrrrriiiii py2_0 py2_1 py2_2 py2_3 py2_4 py2_5 (y 3) (y 4) (y 5) (y 6) (y 7) (y 8) (y 9) py2_13 py2_14 py2_15 py2_16 py2_17)), (Yw 4, aI V L f_462), (Yw 5, aI V n f_463), (Yw 7, aI V n f_465), (Yw 8, aI V 4 f_466)]) (rnV (rest := []) ⟨hx, hb, hml, hown, hg⟩ (k_X8_spreadAsTold_3 l V n L Yw y a2 f_461 f_467 py39_1 py39_2 fy40 v_453 wa_448 v_454 v_455 wb_449 v_456 v_457 v_458 f_459 f_460 f_464 hn hL b_438 (iv_w b_443 (by first | decide | omega)) bv_453 bv_454 bv_455 bv_456 bv_457 bv_458 tf_459 tf_464) mt_X8_spreadAsTold q_5_26 ⟨Nat.le_of_ble_eq_true rfl, Nat.le_of_ble_eq_true rfl⟩ hK hP hD hS hA hE [20, 26, 7, 8, 17, 18, 19, 23] rfl rfl 17 rfl rfl rfl rfl hl.1 rfl (Nat.le_of_ble_eq_true rfl) dX9_high_39 ⟨Nat.le_of_ble_eq_true rfl, Nat.le_of_ble_eq_true rfl⟩) hP hD hS hA [20, 26, 7, 8, 17, 18, 19, 23] [0, 1, 2, 3, 4, 5, 6, 9, 10, 11, 12, 13, 14, 15, 16, 21, 22, 24, 25] rfl rfl rfl (by decide) (fun  w H locs hw hP hD hS => ?_)
      obtain ⟨f_474, f_475, wa_476, wb_477, rfl⟩ := hw
      have hP : va_P V.1 vwCl [(y 30, aT V 4 (va_up (va_up (va_up (va_up (fun _ => none) 0 (some (y 33))) 1 (some (y 35))) 2 (some (y 37))) 3 (some (y 39)))), (y 33, .inr (7, o7_rii (y 34) py33_1 py33_2)), (y 34, aJ V 40 fy34), (y 35, .inr (7, o7_rii (y 36) py35_1 py35_2)), (y 36, aJ V 40 fy36), (y 37, .inr (7, o7_rii (y 38) py37_1 py37_2)), (y 38, aJ V 40 fy38), (y 3, aI V 4 fy3), (y 9, aI V 900 fy9), (y 19, .inr (4, o4_rrrrrr (y 2) (y 20) (y 21) (y 22) (y 23) (y 24))), (y 20, aI V 2000 f_450), (y 21, aI V 6 f_451), (y 22, aI V 64 f_452), (y 0, .inr (9, o9_rirrrrrrrrrviii (y 1) py0_1 (y 2) (y 10) (y 19) (y 25) (y 26) (y 30) (y 31) (y 32) (Yw 0) o11 py0_12 py0_13 py0_14)), (y 2, .inr (1, o1_iiiiiirrrrrrriiiii py2_0 py2_1 py2_2 py2_3 py2_4 py2_5 (y 3) (y 4) (y 5) (y 6) (y 7) (y 8) (y 9) py2_13 py2_14 py2_15 py2_16 py2_17)), (Yw 4, aI V L f_462), (Yw 5, aI V n f_463), (Yw 7, aI V n f_465), (Yw 8, aI V 4 f_466), (wa_476, aI V n f_474), (wb_477, aI V n f_475), (y 39, .inr (7, o7_rii (y 40) py39_1 py39_2)), (y 40, aJ V 40 fy40), (Yw 0, .inr (8, o8_iirrriirrrrrrriii v_453 (nI n) (Yw 1) (Yw 2) wa_476 v_454 v_455 (y 19) (Yw 4) (Yw 5) (Yw 6) (Yw 7) (Yw 8) wb_477 v_456 v_457 v_458)), (Yw 1, aI V n f_459), (Yw 2, aI V n f_460), (Yw 6, aI V (n * 4) f_464)] H := hP
      have hD := cpD hP hD
      refine lv_aload hx hb dX9_high_42 (lv_at hl 0 rfl) ?_
      refine lv_iload_n hx hb dX9_high_44 rfl (lv_at hl 4 rfl) ?_
      refine lv_iconst (v := 0) hx hb dX9_high_45 (by decide) ?_
      refine lv_iconst (v := 4) hx hb dX9_high_46 (by decide) ?_
      refine jnI (wr := [(y 30, aT V 4 (va_up (va_up (va_up (va_up (fun _ => none) 0 (some (y 33))) 1 (some (y 35))) 2 (some (y 37))) 3 (some (y 39)))), (y 33, .inr (7, o7_rii (y 34) py33_1 py33_2)), (y 34, aJ V 40 fy34), (y 35, .inr (7, o7_rii (y 36) py35_1 py35_2)), (y 36, aJ V 40 fy36), (y 37, .inr (7, o7_rii (y 38) py37_1 py37_2)), (y 38, aJ V 40 fy38), (y 3, aI V 4 fy3), (y 9, aI V 900 fy9), (y 19, .inr (4, o4_rrrrrr (y 2) (y 20) (y 21) (y 22) (y 23) (y 24))), (y 20, aI V 2000 f_450), (y 21, aI V 6 f_451), (y 22, aI V 64 f_452), (y 0, .inr (9, o9_rirrrrrrrrrviii (y 1) py0_1 (y 2) (y 10) (y 19) (y 25) (y 26) (y 30) (y 31) (y 32) (Yw 0) o11 py0_12 py0_13 py0_14)), (y 2, .inr (1, o1_iiiiiirrrrrrriiiii py2_0 py2_1 py2_2 py2_3 py2_4 py2_5 (y 3) (y 4) (y 5) (y 6) (y 7) (y 8) (y 9) py2_13 py2_14 py2_15 py2_16 py2_17)), (Yw 4, aI V L f_462), (Yw 5, aI V n f_463), (Yw 7, aI V n f_465), (Yw 8, aI V 4 f_466), (wb_477, aI V n f_475), (y 39, .inr (7, o7_rii (y 40) py39_1 py39_2)), (y 40, aJ V 40 fy40), (Yw 2, aI V n f_460), (Yw 6, aI V (n * 4) f_464)]) (rnV (rest := []) ⟨hx, hb, hml, hown, hg⟩ (k_X8_weightOf_0 l V n L Yw y a2 0 4 v_453 wa_476 v_454 v_455 wb_477 v_456 v_457 v_458 f_459 f_474 hn hL b_438 bv_453 bv_454 bv_455 bv_456 bv_457 bv_458 tf_459) mt_X8_weightOf q_4_186 ⟨Nat.le_of_ble_eq_true rfl, Nat.le_of_ble_eq_true rfl⟩ hK hP hD hS hA hE [23, 24, 19] rfl rfl 23 rfl rfl rfl rfl hl.1 rfl (Nat.le_of_ble_eq_true rfl) dX9_high_47 ⟨Nat.le_of_ble_eq_true rfl, Nat.le_of_ble_eq_true rfl⟩) hP hD hS hA [23, 24, 19] [0, 1, 2, 3, 4, 5, 6, 7, 8, 9, 10, 11, 12, 13, 14, 15, 16, 17, 18, 20, 21, 22, 25, 26] rfl rfl rfl (by decide) (fun r_478 w H locs hw hP hD hS => ?_)
      subst hw
      have hP : va_P V.1 vwCl [(y 30, aT V 4 (va_up (va_up (va_up (va_up (fun _ => none) 0 (some (y 33))) 1 (some (y 35))) 2 (some (y 37))) 3 (some (y 39)))), (y 33, .inr (7, o7_rii (y 34) py33_1 py33_2)), (y 34, aJ V 40 fy34), (y 35, .inr (7, o7_rii (y 36) py35_1 py35_2)), (y 36, aJ V 40 fy36), (y 37, .inr (7, o7_rii (y 38) py37_1 py37_2)), (y 38, aJ V 40 fy38), (y 3, aI V 4 fy3), (y 9, aI V 900 fy9), (y 19, .inr (4, o4_rrrrrr (y 2) (y 20) (y 21) (y 22) (y 23) (y 24))), (y 20, aI V 2000 f_450), (y 21, aI V 6 f_451), (y 22, aI V 64 f_452), (y 0, .inr (9, o9_rirrrrrrrrrviii (y 1) py0_1 (y 2) (y 10) (y 19) (y 25) (y 26) (y 30) (y 31) (y 32) (Yw 0) o11 py0_12 py0_13 py0_14)), (y 2, .inr (1, o1_iiiiiirrrrrrriiiii py2_0 py2_1 py2_2 py2_3 py2_4 py2_5 (y 3) (y 4) (y 5) (y 6) (y 7) (y 8) (y 9) py2_13 py2_14 py2_15 py2_16 py2_17)), (Yw 4, aI V L f_462), (Yw 5, aI V n f_463), (Yw 7, aI V n f_465), (Yw 8, aI V 4 f_466), (wb_477, aI V n f_475), (y 39, .inr (7, o7_rii (y 40) py39_1 py39_2)), (y 40, aJ V 40 fy40), (Yw 2, aI V n f_460), (Yw 6, aI V (n * 4) f_464), (Yw 0, .inr (8, o8_iirrriirrrrrrriii v_453 (nI n) (Yw 1) (Yw 2) wa_476 v_454 v_455 (y 19) (Yw 4) (Yw 5) (Yw 6) (Yw 7) (Yw 8) wb_477 v_456 v_457 v_458)), (Yw 1, aI V n f_459), (wa_476, aI V n f_474)] H := hP
      have hD := cpD hP hD
      refine lv_i2l hx hb dX9_high_50 rfl ?_
      refine lv_topl (fun j_479 ej_479 => ?_)
      have hP := subP (ws' := [(y 0, .inr (9, o9_rirrrrrrrrrviii (y 1) py0_1 (y 2) (y 10) (y 19) (y 25) (y 26) (y 30) (y 31) (y 32) (Yw 0) o11 py0_12 py0_13 py0_14)), (y 2, .inr (1, o1_iiiiiirrrrrrriiiii py2_0 py2_1 py2_2 py2_3 py2_4 py2_5 (y 3) (y 4) (y 5) (y 6) (y 7) (y 8) (y 9) py2_13 py2_14 py2_15 py2_16 py2_17)), (y 3, aI V 4 fy3), (y 9, aI V 900 fy9), (y 19, .inr (4, o4_rrrrrr (y 2) (y 20) (y 21) (y 22) (y 23) (y 24))), (y 20, aI V 2000 f_450), (y 21, aI V 6 f_451), (y 22, aI V 64 f_452), (y 30, aT V 4 (va_up (va_up (va_up (va_up (fun _ => none) 0 (some (y 33))) 1 (some (y 35))) 2 (some (y 37))) 3 (some (y 39)))), (y 33, .inr (7, o7_rii (y 34) py33_1 py33_2)), (y 34, aJ V 40 fy34), (y 35, .inr (7, o7_rii (y 36) py35_1 py35_2)), (y 36, aJ V 40 fy36), (y 37, .inr (7, o7_rii (y 38) py37_1 py37_2)), (y 38, aJ V 40 fy38), (y 39, .inr (7, o7_rii (y 40) py39_1 py39_2)), (y 40, aJ V 40 fy40), (Yw 0, .inr (8, o8_iirrriirrrrrrriii v_453 (nI n) (Yw 1) (Yw 2) wa_476 v_454 v_455 (y 19) (Yw 4) (Yw 5) (Yw 6) (Yw 7) (Yw 8) wb_477 v_456 v_457 v_458)), (Yw 1, aI V n f_459), (Yw 2, aI V n f_460), (wa_476, aI V n f_474), (Yw 4, aI V L f_462), (Yw 5, aI V n f_463), (Yw 6, aI V (n * 4) f_464), (Yw 7, aI V n f_465), (Yw 8, aI V 4 f_466), (wb_477, aI V n f_475)]) hP [13, 14, 7, 8, 9, 10, 11, 12, 0, 1, 2, 3, 4, 5, 6, 20, 21, 24, 25, 22, 26, 15, 16, 23, 17, 18, 19] rfl
      have hD := subD hP hD [13, 14, 7, 8, 9, 10, 11, 12, 0, 1, 2, 3, 4, 5, 6, 20, 21, 24, 25, 22, 26, 15, 16, 23, 17, 18, 19] rfl rfl
      exact fiL hx hb hr hlk hK (subP (ws' := [(y 0, .inr (9, o9_rirrrrrrrrrviii (y 1) py0_1 (y 2) (y 10) (y 19) (y 25) (y 26) (y 30) (y 31) (y 32) (Yw 0) o11 py0_12 py0_13 py0_14)), (y 2, .inr (1, o1_iiiiiirrrrrrriiiii py2_0 py2_1 py2_2 py2_3 py2_4 py2_5 (y 3) (y 4) (y 5) (y 6) (y 7) (y 8) (y 9) py2_13 py2_14 py2_15 py2_16 py2_17)), (y 3, aI V 4 fy3), (y 9, aI V 900 fy9), (y 19, .inr (4, o4_rrrrrr (y 2) (y 20) (y 21) (y 22) (y 23) (y 24))), (y 20, aI V 2000 f_450), (y 21, aI V 6 f_451), (y 22, aI V 64 f_452), (y 30, aT V 4 (va_up (va_up (va_up (va_up (fun _ => none) 0 (some (y 33))) 1 (some (y 35))) 2 (some (y 37))) 3 (some (y 39)))), (y 33, .inr (7, o7_rii (y 34) py33_1 py33_2)), (y 34, aJ V 40 fy34), (y 35, .inr (7, o7_rii (y 36) py35_1 py35_2)), (y 36, aJ V 40 fy36), (y 37, .inr (7, o7_rii (y 38) py37_1 py37_2)), (y 38, aJ V 40 fy38), (y 39, .inr (7, o7_rii (y 40) py39_1 py39_2)), (y 40, aJ V 40 fy40), (Yw 0, .inr (8, o8_iirrriirrrrrrriii v_453 (nI n) (Yw 1) (Yw 2) wa_476 v_454 v_455 (y 19) (Yw 4) (Yw 5) (Yw 6) (Yw 7) (Yw 8) wb_477 v_456 v_457 v_458)), (Yw 1, aI V n f_459), (Yw 2, aI V n f_460), (wa_476, aI V n f_474), (Yw 4, aI V L f_462), (Yw 5, aI V n f_463), (Yw 6, aI V (n * 4) f_464), (Yw 7, aI V n f_465), (Yw 8, aI V 4 f_466), (wb_477, aI V n f_475)]) hP [0, 1, 2, 3, 4, 5, 6, 7, 8, 9, 10, 11, 12, 13, 14, 15, 16, 17, 18, 19, 20, 21, 22, 23, 24, 25, 26] rfl) (hD.sub [0, 1, 2, 3, 4, 5, 6, 7, 8, 9, 10, 11, 12, 13, 14, 15, 16, 17, 18, 19, 20, 21, 22, 23, 24, 25, 26] rfl rfl) hS dX9_high_51 (Nat.le_of_ble_eq_true rfl) (Nat.le_of_ble_eq_true rfl) (⟨n, L, Yw, wa_476, wb_477, f_450, f_451, f_452, v_453, v_454, v_455, v_456, v_457, v_458, f_459, f_460, f_474, f_462, f_463, f_464, f_465, f_466, f_475, hn, hL, tf_450, bv_453, bv_454, bv_455, bv_456, bv_457, bv_458, tf_459, tf_462, tf_463, tf_464, tf_465, g_468, g_469, g_470, g_472, kn_473, rfl⟩)
  · have hP : va_P V.1 vwCl [(y 3, aI V 4 fy3), (y 9, aI V 900 fy9), (y 19, .inr (4, o4_rrrrrr (y 2) (y 20) (y 21) (y 22) (y 23) (y 24))), (y 20, aI V 2000 fy20), (y 21, aI V 6 fy21), (y 22, aI V 64 fy22), (Yw 0, .inr (8, o8_iirrriirrrrrrriii pYw0_0 (nI n) (Yw 1) (Yw 2) wa pYw0_5 pYw0_6 (y 19) (Yw 4) (Yw 5) (Yw 6) (Yw 7) (Yw 8) wb pYw0_14 pYw0_15 pYw0_16)), (Yw 1, aI V n fYw1), (Yw 2, aI V n fYw2), (wa, aI V n fwa), (Yw 4, aI V L fYw4), (Yw 5, aI V n fYw5), (Yw 6, aI V (n * 4) fYw6), (Yw 7, aI V n fYw7), (Yw 8, aI V 4 fYw8), (wb, aI V n fwb), (y 0, .inr (9, o9_rirrrrrrrrrviii (y 1) py0_1 (y 2) (y 10) (y 19) (y 25) (y 26) (y 30) (y 31) (y 32) (Yw 0) o11 py0_12 py0_13 py0_14)), (y 2, .inr (1, o1_iiiiiirrrrrrriiiii py2_0 py2_1 py2_2 py2_3 py2_4 py2_5 (y 3) (y 4) (y 5) (y 6) (y 7) (y 8) (y 9) py2_13 py2_14 py2_15 py2_16 py2_17)), (y 30, aT V 4 (va_up (va_up (va_up (va_up (fun _ => none) 0 (some (y 33))) 1 (some (y 35))) 2 (some (y 37))) 3 (some (y 39)))), (y 33, .inr (7, o7_rii (y 34) py33_1 py33_2)), (y 34, aJ V 40 fy34), (y 35, .inr (7, o7_rii (y 36) py35_1 py35_2)), (y 36, aJ V 40 fy36), (y 37, .inr (7, o7_rii (y 38) py37_1 py37_2)), (y 38, aJ V 40 fy38), (y 39, .inr (7, o7_rii (y 40) py39_1 py39_2)), (y 40, aJ V 40 fy40)] H := hP
    have hD := cpD hP hD
    have b_480 : iv 0 2147483647 a2 := iv_e2 (Int32.not_lt.mp c_161) (iv_c (0 : Int32) (a := 0) (b := 0) (by decide)) (iv_top a2) (by first | decide | omega)
    have b_481 : iv 0 3 a2 := iv_l1 (Int32.not_le.mp c_162) b_480 bpy2_1 (by first | decide | omega)
    have b_482 : iv 1 4 py2_1 := iv_l2 (Int32.not_le.mp c_162) b_480 bpy2_1 (by first | decide | omega)
    have b_483 : iv 3 3 a1 := iv_q c_163 (iv_c (3 : Int32) (a := 3) (b := 3) (by decide))
    have b_484 : iv 0 40 py39_1 := iv_e2 c_164 (iv_c (0 : Int32) (a := 0) (b := 0) (by decide)) bpy39_1 (by first | decide | omega)
    have b_485 : iv 1 40 py39_1 := iv_e2 (Int32.not_lt.mp c_165) (iv_c (1 : Int32) (a := 1) (b := 1) (by decide)) b_484 (by first | decide | omega)
    have b_486 : iv 1 8 py39_1 := iv_e1 c_166 b_485 (iv_c (8 : Int32) (a := 8) (b := 8) (by decide)) (by first | decide | omega)
    refine lv_istore_n (lv' := [(3, .int (-3)), (0, .ref (y 0)), (1, .int a1), (2, .int a2)]) hx hb dX9_high_7 rfl hl (by decide) rfl (fun ls hl => ?_)
    refine lv_iload_n hx hb dX9_high_8 rfl (lv_at hl 0 rfl) ?_
    refine lv_if_eq (tgt := 15) hx hb dX9_high_9 (by decide) (fun c_488 => absurd c_488 (by decide)) (fun _ => ?_)
    refine lv_iload_n hx hb dX9_high_12 rfl (lv_at hl 0 rfl) ?_
    refine lv_i2l (v := (-3)) hx hb dX9_high_13 (by decide +kernel) ?_
    have z_0 := Int32.lt_iff_toInt_lt.mp hq0
    have z_1 := Int32.le_iff_toInt_le.mp (Int32.not_lt.mp c_159)
    have z_2 := Int32.lt_iff_toInt_lt.mp (Int32.not_le.mp c_160)
    have z_3 := Int32.le_iff_toInt_le.mp (Int32.not_lt.mp c_161)
    have z_4 := Int32.lt_iff_toInt_lt.mp (Int32.not_le.mp c_162)
    have z_5 := congrArg Int32.toInt c_163
    have z_6 := Int32.le_iff_toInt_le.mp c_164
    have z_7 := Int32.le_iff_toInt_le.mp (Int32.not_lt.mp c_165)
    have z_8 := Int32.le_iff_toInt_le.mp c_166
    have k_0 : (0 : Int32).toInt = 0 := (by decide)
    have k_1 : (1 : Int32).toInt = 1 := (by decide)
    have k_3 : (3 : Int32).toInt = 3 := (by decide)
    have k_4 : (4 : Int32).toInt = 4 := (by decide)
    have k_8 : (8 : Int32).toInt = 8 := (by decide)
    exfalso
    have g_0 := hf3
    exact absurd (g_167.trans g_0) (by decide)
  · have hP : va_P V.1 vwCl [(y 3, aI V 4 fy3), (y 9, aI V 900 fy9), (y 19, .inr (4, o4_rrrrrr (y 2) (y 20) (y 21) (y 22) (y 23) (y 24))), (y 20, aI V 2000 fy20), (y 21, aI V 6 fy21), (y 22, aI V 64 fy22), (Yw 0, .inr (8, o8_iirrriirrrrrrriii pYw0_0 (nI n) (Yw 1) (Yw 2) wa pYw0_5 pYw0_6 (y 19) (Yw 4) (Yw 5) (Yw 6) (Yw 7) (Yw 8) wb pYw0_14 pYw0_15 pYw0_16)), (Yw 1, aI V n fYw1), (Yw 2, aI V n fYw2), (wa, aI V n fwa), (Yw 4, aI V L fYw4), (Yw 5, aI V n fYw5), (Yw 6, aI V (n * 4) fYw6), (Yw 7, aI V n fYw7), (Yw 8, aI V 4 fYw8), (wb, aI V n fwb), (y 0, .inr (9, o9_rirrrrrrrrrviii (y 1) py0_1 (y 2) (y 10) (y 19) (y 25) (y 26) (y 30) (y 31) (y 32) (Yw 0) o11 py0_12 py0_13 py0_14)), (y 2, .inr (1, o1_iiiiiirrrrrrriiiii py2_0 py2_1 py2_2 py2_3 py2_4 py2_5 (y 3) (y 4) (y 5) (y 6) (y 7) (y 8) (y 9) py2_13 py2_14 py2_15 py2_16 py2_17)), (y 30, aT V 4 (va_up (va_up (va_up (va_up (fun _ => none) 0 (some (y 33))) 1 (some (y 35))) 2 (some (y 37))) 3 (some (y 39)))), (y 33, .inr (7, o7_rii (y 34) py33_1 py33_2)), (y 34, aJ V 40 fy34), (y 35, .inr (7, o7_rii (y 36) py35_1 py35_2)), (y 36, aJ V 40 fy36), (y 37, .inr (7, o7_rii (y 38) py37_1 py37_2)), (y 38, aJ V 40 fy38), (y 39, .inr (7, o7_rii (y 40) py39_1 py39_2)), (y 40, aJ V 40 fy40)] H := hP
    have hD := cpD hP hD
    have b_489 : iv 0 2147483647 a2 := iv_e2 (Int32.not_lt.mp c_170) (iv_c (0 : Int32) (a := 0) (b := 0) (by decide)) (iv_top a2) (by first | decide | omega)
    have b_490 : iv 0 3 a2 := iv_l1 (Int32.not_le.mp c_171) b_489 bpy2_1 (by first | decide | omega)
    have b_491 : iv 1 4 py2_1 := iv_l2 (Int32.not_le.mp c_171) b_489 bpy2_1 (by first | decide | omega)
    have b_492 : iv 3 3 a1 := iv_q c_172 (iv_c (3 : Int32) (a := 3) (b := 3) (by decide))
    have b_493 : iv 0 40 py39_1 := iv_e2 c_173 (iv_c (0 : Int32) (a := 0) (b := 0) (by decide)) bpy39_1 (by first | decide | omega)
    have b_494 : iv 1 40 py39_1 := iv_e2 (Int32.not_lt.mp c_174) (iv_c (1 : Int32) (a := 1) (b := 1) (by decide)) b_493 (by first | decide | omega)
    have b_495 : iv 9 40 py39_1 := iv_l2 (Int32.not_le.mp c_175) (iv_c (8 : Int32) (a := 8) (b := 8) (by decide)) b_494 (by first | decide | omega)
    refine lv_istore_n (lv' := [(3, .int (-4)), (0, .ref (y 0)), (1, .int a1), (2, .int a2)]) hx hb dX9_high_7 rfl hl (by decide) rfl (fun ls hl => ?_)
    refine lv_iload_n hx hb dX9_high_8 rfl (lv_at hl 0 rfl) ?_
    refine lv_if_eq (tgt := 15) hx hb dX9_high_9 (by decide) (fun c_497 => absurd c_497 (by decide)) (fun _ => ?_)
    refine lv_iload_n hx hb dX9_high_12 rfl (lv_at hl 0 rfl) ?_
    refine lv_i2l (v := (-4)) hx hb dX9_high_13 (by decide +kernel) ?_
    have z_0 := Int32.lt_iff_toInt_lt.mp hq0
    have z_1 := Int32.le_iff_toInt_le.mp (Int32.not_lt.mp c_168)
    have z_2 := Int32.lt_iff_toInt_lt.mp (Int32.not_le.mp c_169)
    have z_3 := Int32.le_iff_toInt_le.mp (Int32.not_lt.mp c_170)
    have z_4 := Int32.lt_iff_toInt_lt.mp (Int32.not_le.mp c_171)
    have z_5 := congrArg Int32.toInt c_172
    have z_6 := Int32.le_iff_toInt_le.mp c_173
    have z_7 := Int32.le_iff_toInt_le.mp (Int32.not_lt.mp c_174)
    have z_8 := Int32.lt_iff_toInt_lt.mp (Int32.not_le.mp c_175)
    have k_0 : (0 : Int32).toInt = 0 := (by decide)
    have k_1 : (1 : Int32).toInt = 1 := (by decide)
    have k_3 : (3 : Int32).toInt = 3 := (by decide)
    have k_4 : (4 : Int32).toInt = 4 := (by decide)
    have k_8 : (8 : Int32).toInt = 8 := (by decide)
    exfalso
    have g_0 := hf3
    exact absurd (g_176.trans g_0) (by decide)
  · have hP : va_P V.1 vwCl [(y 3, aI V 4 fy3), (y 9, aI V 900 fy9), (y 19, .inr (4, o4_rrrrrr (y 2) (y 20) (y 21) (y 22) (y 23) (y 24))), (y 20, aI V 2000 fy20), (y 21, aI V 6 fy21), (y 22, aI V 64 fy22), (Yw 0, .inr (8, o8_iirrriirrrrrrriii pYw0_0 (nI n) (Yw 1) (Yw 2) wa pYw0_5 pYw0_6 (y 19) (Yw 4) (Yw 5) (Yw 6) (Yw 7) (Yw 8) wb pYw0_14 pYw0_15 pYw0_16)), (Yw 1, aI V n fYw1), (Yw 2, aI V n fYw2), (wa, aI V n fwa), (Yw 4, aI V L fYw4), (Yw 5, aI V n fYw5), (Yw 6, aI V (n * 4) fYw6), (Yw 7, aI V n fYw7), (Yw 8, aI V 4 fYw8), (wb, aI V n fwb), (y 0, .inr (9, o9_rirrrrrrrrrviii (y 1) py0_1 (y 2) (y 10) (y 19) (y 25) (y 26) (y 30) (y 31) (y 32) (Yw 0) o11 py0_12 py0_13 py0_14)), (y 2, .inr (1, o1_iiiiiirrrrrrriiiii py2_0 py2_1 py2_2 py2_3 py2_4 py2_5 (y 3) (y 4) (y 5) (y 6) (y 7) (y 8) (y 9) py2_13 py2_14 py2_15 py2_16 py2_17)), (y 30, aT V 4 (va_up (va_up (va_up (va_up (fun _ => none) 0 (some (y 33))) 1 (some (y 35))) 2 (some (y 37))) 3 (some (y 39)))), (y 33, .inr (7, o7_rii (y 34) py33_1 py33_2)), (y 34, aJ V 40 fy34), (y 35, .inr (7, o7_rii (y 36) py35_1 py35_2)), (y 36, aJ V 40 fy36), (y 37, .inr (7, o7_rii (y 38) py37_1 py37_2)), (y 38, aJ V 40 fy38), (y 39, .inr (7, o7_rii (y 40) py39_1 py39_2)), (y 40, aJ V 40 fy40)] H := hP
    have hD := cpD hP hD
    have b_498 : iv 0 2147483647 a2 := iv_e2 (Int32.not_lt.mp c_179) (iv_c (0 : Int32) (a := 0) (b := 0) (by decide)) (iv_top a2) (by first | decide | omega)
    have b_499 : iv 0 3 a2 := iv_l1 (Int32.not_le.mp c_180) b_498 bpy2_1 (by first | decide | omega)
    have b_500 : iv 1 4 py2_1 := iv_l2 (Int32.not_le.mp c_180) b_498 bpy2_1 (by first | decide | omega)
    have b_501 : iv 3 3 a1 := iv_q c_181 (iv_c (3 : Int32) (a := 3) (b := 3) (by decide))
    have b_502 : iv (-1) (-1) py39_1 := iv_l1 (Int32.not_le.mp c_182) bpy39_1 (iv_c (0 : Int32) (a := 0) (b := 0) (by decide)) (by first | decide | omega)
    refine lv_istore_n (lv' := [(3, .int (-6)), (0, .ref (y 0)), (1, .int a1), (2, .int a2)]) hx hb dX9_high_7 rfl hl (by decide) rfl (fun ls hl => ?_)
    refine lv_iload_n hx hb dX9_high_8 rfl (lv_at hl 0 rfl) ?_
    refine lv_if_eq (tgt := 15) hx hb dX9_high_9 (by decide) (fun c_504 => absurd c_504 (by decide)) (fun _ => ?_)
    refine lv_iload_n hx hb dX9_high_12 rfl (lv_at hl 0 rfl) ?_
    refine lv_i2l (v := (-6)) hx hb dX9_high_13 (by decide +kernel) ?_
    have z_0 := Int32.lt_iff_toInt_lt.mp hq0
    have z_1 := Int32.le_iff_toInt_le.mp (Int32.not_lt.mp c_177)
    have z_2 := Int32.lt_iff_toInt_lt.mp (Int32.not_le.mp c_178)
    have z_3 := Int32.le_iff_toInt_le.mp (Int32.not_lt.mp c_179)
    have z_4 := Int32.lt_iff_toInt_lt.mp (Int32.not_le.mp c_180)
    have z_5 := congrArg Int32.toInt c_181
    have z_6 := Int32.lt_iff_toInt_lt.mp (Int32.not_le.mp c_182)
    have k_0 : (0 : Int32).toInt = 0 := (by decide)
    have k_3 : (3 : Int32).toInt = 3 := (by decide)
    have k_4 : (4 : Int32).toInt = 4 := (by decide)
    exfalso
    have g_0 := hf3
    exact absurd (g_183.trans g_0) (by decide)
