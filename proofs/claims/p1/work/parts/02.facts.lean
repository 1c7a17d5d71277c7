
theorem tI_lt {a b : Int32} : (a < b) = (a.toInt < b.toInt) := propext Int32.lt_iff_toInt_lt
theorem tI_le {a b : Int32} : (a ≤ b) = (a.toInt ≤ b.toInt) := propext Int32.le_iff_toInt_le
theorem tI_eq {a b : Int32} : (a = b) = (a.toInt = b.toInt) := propext Int32.toInt_inj.symm
theorem tL_lt {a b : Int64} : (a < b) = (a.toInt < b.toInt) := propext Int64.lt_iff_toInt_lt
theorem tL_le {a b : Int64} : (a ≤ b) = (a.toInt ≤ b.toInt) := propext Int64.le_iff_toInt_le
theorem tL_eq {a b : Int64} : (a = b) = (a.toInt = b.toInt) := propext Int64.toInt_inj.symm
theorem tWx (x : Int32) : x.toInt64.toInt = x.toInt := Int32.toInt_toInt64 x
theorem vp_mono {i : Int32} {n N : Nat} (h : n ≤ N) (hi : vp_in i n) : vp_in i N := fun q => hi (q.elim Or.inl (fun z => Or.inr (Nat.le_trans h z)))
theorem cpy0 (a b n : Nat) : va_cpy (fun _ => (0 : Int32)) (fun _ => 0) a b n = fun _ => 0 := by
  funext k; unfold va_cpy; split <;> rfl
theorem upd0 (k : Nat) : upd (fun _ => (0 : Int32)) k 0 = fun _ => 0 := by
  funext j; unfold upd; split <;> rfl
theorem updL0 (k : Nat) : vp_updL (fun _ => (0 : Int64)) k 0 = fun _ => 0 := by
  funext j; unfold vp_updL; split <;> rfl
theorem updup (f : Nat → Int32) (k : Nat) (a b : Int32) : upd (upd f k a) k b = upd f k b := by
  funext j; unfold upd; split <;> rfl
theorem updLup (f : Nat → Int64) (k : Nat) (a b : Int64) : vp_updL (vp_updL f k a) k b = vp_updL f k b := by
  funext j; unfold vp_updL; split <;> rfl
theorem updid {f : Nat → Int32} {k : Nat} {v : Int32} (h : f k = v) : upd f k v = f := by
  funext j; unfold upd; split
  · next e => rw [e, h]
  · rfl
theorem updLid {f : Nat → Int64} {k : Nat} {v : Int64} (h : f k = v) : vp_updL f k v = f := by
  funext j; unfold vp_updL; split
  · next e => rw [e, h]
  · rfl

theorem gw_ws {ws : List Cond} (ps : List Nat) (hp : ws = ps.filterMap (fun i => tables_1[i]?)) (h : ws.all goodWord = true) : ∀ w ∈ ws, w ∈ gw := fun w hw => by
  have h1 := List.all_eq_true.mp h w hw
  rw [hp] at hw
  obtain ⟨i, -, hi⟩ := List.mem_filterMap.mp hw
  exact gw_m (List.mem_append_right _ (List.mem_of_getElem? hi)) h1

def mo (z : Nat → Nat) (i0 i5 i6 i7 i8 i9 i10 i11 i12 i13 i14 i18 i19 i22 i23 i29 : Int32) : List Value := [.int i0, .ref (z 1), .ref (z 2), .ref (z 3), .ref (z 4), .int i5, .int i6, .int i7, .int i8, .int i9, .int i10, .int i11, .int i12, .int i13, .int i14, .ref (z 15), .ref (z 16), .ref (z 17), .int i18, .int i19, .ref (z 20), .ref (z 21), .int i22, .int i23, .ref (z 24), .ref (z 25), .ref (z 26), .ref (z 27), .ref (z 28), .int i29, .ref (z 30), .ref (z 31), .ref (z 32), .ref (z 33), .ref (z 34), .ref (z 35), .ref (z 36), .ref (z 37), .ref (z 38), .ref (z 39)]
theorem inX0 : ∀ w ∈ wsX00, w ∈ gw := gw_ws [200, 202] (by decide +kernel) (by decide +kernel)
theorem dfX0 : ∀ j, j < 2 → defaultValue (tyX0 j) = vp_V [.int 0, .int 0] j := fun j hj => match j, hj with
  | 0, _ => rfl
  | 1, _ => rfl
  | n + 2, h => absurd h (by omega)
theorem inX1 : ∀ w ∈ wsX10, w ∈ gw := gw_ws [87, 89, 91, 93, 95, 97, 99, 101, 103, 105, 107, 109, 111, 113, 115, 117, 119, 121] (by decide +kernel) (by decide +kernel)
theorem dfX1 : ∀ j, j < 18 → defaultValue (tyX1 j) = vp_V [.int 0, .int 0, .int 0, .int 0, .int 0, .int 0, .null, .null, .null, .null, .null, .null, .null, .int 0, .int 0, .int 0, .int 0, .int 0] j := fun j hj => match j, hj with
  | 0, _ => rfl
  | 1, _ => rfl
  | 2, _ => rfl
  | 3, _ => rfl
  | 4, _ => rfl
  | 5, _ => rfl
  | 6, _ => rfl
  | 7, _ => rfl
  | 8, _ => rfl
  | 9, _ => rfl
  | 10, _ => rfl
  | 11, _ => rfl
  | 12, _ => rfl
  | 13, _ => rfl
  | 14, _ => rfl
  | 15, _ => rfl
  | 16, _ => rfl
  | 17, _ => rfl
  | n + 18, h => absurd h (by omega)
theorem inX2 : ∀ w ∈ wsX20, w ∈ gw := gw_ws [1068, 1070, 1072, 1074, 1076, 1078, 1080] (by decide +kernel) (by decide +kernel)
theorem dfX2 : ∀ j, j < 7 → defaultValue (tyX2 j) = vp_V [.int 0, .null, .null, .null, .null, .null, .int 0] j := fun j hj => match j, hj with
  | 0, _ => rfl
  | 1, _ => rfl
  | 2, _ => rfl
  | 3, _ => rfl
  | 4, _ => rfl
  | 5, _ => rfl
  | 6, _ => rfl
  | n + 7, h => absurd h (by omega)
theorem inX3 : ∀ w ∈ wsX30, w ∈ gw := gw_ws [265, 267, 269, 271, 273] (by decide +kernel) (by decide +kernel)
theorem dfX3 : ∀ j, j < 5 → defaultValue (tyX3 j) = vp_V [.null, .int 0, .int 0, .int 0, .int 0] j := fun j hj => match j, hj with
  | 0, _ => rfl
  | 1, _ => rfl
  | 2, _ => rfl
  | 3, _ => rfl
  | 4, _ => rfl
  | n + 5, h => absurd h (by omega)
theorem inX4 : ∀ w ∈ wsX40, w ∈ gw := gw_ws [177, 179, 181, 183, 185, 187] (by decide +kernel) (by decide +kernel)
theorem dfX4 : ∀ j, j < 6 → defaultValue (tyX4 j) = vp_V [.null, .null, .null, .null, .null, .null] j := fun j hj => match j, hj with
  | 0, _ => rfl
  | 1, _ => rfl
  | 2, _ => rfl
  | 3, _ => rfl
  | 4, _ => rfl
  | 5, _ => rfl
  | n + 6, h => absurd h (by omega)
theorem inX5 : ∀ w ∈ wsX50, w ∈ gw := gw_ws [219, 221, 223, 225] (by decide +kernel) (by decide +kernel)
theorem dfX5 : ∀ j, j < 4 → defaultValue (tyX5 j) = vp_V [.null, .null, .null, .int 0] j := fun j hj => match j, hj with
  | 0, _ => rfl
  | 1, _ => rfl
  | 2, _ => rfl
  | 3, _ => rfl
  | n + 4, h => absurd h (by omega)
theorem inX6 : ∀ w ∈ wsX60, w ∈ gw := gw_ws [146, 148, 150, 152, 154, 156, 158, 160, 162] (by decide +kernel) (by decide +kernel)
theorem dfX6 : ∀ j, j < 9 → defaultValue (tyX6 j) = vp_V [.null, .int 0, .int 0, .null, .int 0, .int 0, .int 0, .int 0, .int 0] j := fun j hj => match j, hj with
  | 0, _ => rfl
  | 1, _ => rfl
  | 2, _ => rfl
  | 3, _ => rfl
  | 4, _ => rfl
  | 5, _ => rfl
  | 6, _ => rfl
  | 7, _ => rfl
  | 8, _ => rfl
  | n + 9, h => absurd h (by omega)
theorem inX7 : ∀ w ∈ wsX70, w ∈ gw := gw_ws [244, 246, 248] (by decide +kernel) (by decide +kernel)
theorem dfX7 : ∀ j, j < 3 → defaultValue (tyX7 j) = vp_V [.null, .int 0, .int 0] j := fun j hj => match j, hj with
  | 0, _ => rfl
  | 1, _ => rfl
  | 2, _ => rfl
  | n + 3, h => absurd h (by omega)
theorem inX8 : ∀ w ∈ wsX80, w ∈ gw := gw_ws [811, 813, 815, 817, 819, 821, 823, 825, 827, 829, 831, 833, 835, 837, 839, 841, 843] (by decide +kernel) (by decide +kernel)
theorem dfX8 : ∀ j, j < 17 → defaultValue (tyX8 j) = vp_V [.int 0, .int 0, .null, .null, .null, .int 0, .int 0, .null, .null, .null, .null, .null, .null, .null, .int 0, .int 0, .int 0] j := fun j hj => match j, hj with
  | 0, _ => rfl
  | 1, _ => rfl
  | 2, _ => rfl
  | 3, _ => rfl
  | 4, _ => rfl
  | 5, _ => rfl
  | 6, _ => rfl
  | 7, _ => rfl
  | 8, _ => rfl
  | 9, _ => rfl
  | 10, _ => rfl
  | 11, _ => rfl
  | 12, _ => rfl
  | 13, _ => rfl
  | 14, _ => rfl
  | 15, _ => rfl
  | 16, _ => rfl
  | n + 17, h => absurd h (by omega)
theorem inX9 : ∀ w ∈ wsX90, w ∈ gw := gw_ws [291, 293, 295, 297, 299, 301, 303, 305, 307, 309, 311, 313, 315, 317, 319] (by decide +kernel) (by decide +kernel)
theorem dfX9 : ∀ j, j < 15 → defaultValue (tyX9 j) = vp_V [.null, .int 0, .null, .null, .null, .null, .null, .null, .null, .null, .null, .null, .int 0, .int 0, .int 0] j := fun j hj => match j, hj with
  | 0, _ => rfl
  | 1, _ => rfl
  | 2, _ => rfl
  | 3, _ => rfl
  | 4, _ => rfl
  | 5, _ => rfl
  | 6, _ => rfl
  | 7, _ => rfl
  | 8, _ => rfl
  | 9, _ => rfl
  | 10, _ => rfl
  | 11, _ => rfl
  | 12, _ => rfl
  | 13, _ => rfl
  | 14, _ => rfl
  | n + 15, h => absurd h (by omega)
theorem inX10 : ∀ w ∈ wsX100, w ∈ gw := gw_ws [1224, 1226, 1228, 1230, 1232, 1234, 1236, 1238, 1240, 1242, 1244, 1246, 1248, 1250, 1252, 1254, 1256, 1258, 1260, 1262, 1264, 1266, 1268, 1270, 1272, 1274, 1276, 1278, 1280, 1282, 1284, 1286, 1288, 1290, 1292, 1294, 1296, 1298, 1300, 1302] (by decide +kernel) (by decide +kernel)
theorem dfX10 : ∀ j, j < 40 → defaultValue (tyX10 j) = vp_V [.int 0, .null, .null, .null, .null, .int 0, .int 0, .int 0, .int 0, .int 0, .int 0, .int 0, .int 0, .int 0, .int 0, .null, .null, .null, .int 0, .int 0, .null, .null, .int 0, .int 0, .null, .null, .null, .null, .null, .int 0, .null, .null, .null, .null, .null, .null, .null, .null, .null, .null] j := fun j hj => match j, hj with
  | 0, _ => rfl
  | 1, _ => rfl
  | 2, _ => rfl
  | 3, _ => rfl
  | 4, _ => rfl
  | 5, _ => rfl
  | 6, _ => rfl
  | 7, _ => rfl
  | 8, _ => rfl
  | 9, _ => rfl
  | 10, _ => rfl
  | 11, _ => rfl
  | 12, _ => rfl
  | 13, _ => rfl
  | 14, _ => rfl
  | 15, _ => rfl
  | 16, _ => rfl
  | 17, _ => rfl
  | 18, _ => rfl
  | 19, _ => rfl
  | 20, _ => rfl
  | 21, _ => rfl
  | 22, _ => rfl
  | 23, _ => rfl
  | 24, _ => rfl
  | 25, _ => rfl
  | 26, _ => rfl
  | 27, _ => rfl
  | 28, _ => rfl
  | 29, _ => rfl
  | 30, _ => rfl
  | 31, _ => rfl
  | 32, _ => rfl
  | 33, _ => rfl
  | 34, _ => rfl
  | 35, _ => rfl
  | 36, _ => rfl
  | 37, _ => rfl
  | 38, _ => rfl
  | 39, _ => rfl
  | n + 40, h => absurd h (by omega)
theorem q_5_224 : Cond.fieldLink "BeaconDelayModel" 1 "BeaconDelayModel" "thrown" "I" ∈ gw := gw_5 (i := 224) (by decide +kernel) rfl
theorem q_5_225 : Cond.fieldLink "BeaconDelayModel" 13 "BeaconDelayModel" "all" "[I" ∈ gw := gw_5 (i := 225) (by decide +kernel) rfl
theorem q_6_116 : Cond.code yX10_within prog_12_method_2_code 6 (some FieldType.boolean) ∈ gw := gw_6 (i := 116) (rfl) rfl
theorem q_1_9 : Cond.initialized "BeaconDelayModel" ∈ gw := gw_1 (i := 9) (by decide +kernel) rfl
theorem q_6_115 : Cond.static yX10_within ∈ gw := gw_6 (i := 115) (by decide +kernel) rfl
theorem q_6_114 : Cond.methodLink "BeaconDelayModel" 159 yX10_within ∈ gw := gw_6 (i := 114) (by decide +kernel) rfl
theorem q_6_238 : Cond.code yX10_isHill prog_12_method_36_code 3 (some FieldType.boolean) ∈ gw := gw_6 (i := 238) (rfl) rfl
theorem q_6_237 : Cond.instanceMethod yX10_isHill ∈ gw := gw_6 (i := 237) (by decide +kernel) rfl
theorem q_s_79 : Cond.selects "BeaconDelayModel" yX10_isHill yX10_isHill ∈ gw := gw_s (i := 79) (by decide +kernel) rfl
theorem q_6_235 : Cond.methodLink "BeaconDelayModel" 262 yX10_isHill ∈ gw := gw_6 (i := 235) (by decide +kernel) rfl
theorem q_7_88 : Cond.code yX10_whySteal prog_12_method_62_code 3 (some FieldType.int) ∈ gw := gw_7 (i := 88) (rfl) rfl
theorem q_7_87 : Cond.instanceMethod yX10_whySteal ∈ gw := gw_7 (i := 87) (by decide +kernel) rfl
theorem q_s_91 : Cond.selects "BeaconDelayModel" yX10_whySteal yX10_whySteal ∈ gw := gw_s (i := 91) (by decide +kernel) rfl
theorem q_7_85 : Cond.methodLink "BeaconDelayModel" 289 yX10_whySteal ∈ gw := gw_7 (i := 85) (by decide +kernel) rfl
theorem q_7_102 : Cond.constantLong "BeaconDelayModel" 298 (10 : Int64) ∈ gw := gw_7 (i := 102) (by decide +kernel) rfl
theorem q_5_238 : Cond.fieldLink "BeaconDelayModel" 27 "BeaconDelayModel" "faultPlace" "I" ∈ gw := gw_5 (i := 238) (by decide +kernel) rfl
theorem q_5_237 : Cond.fieldLink "BeaconDelayModel" 225 "BeaconDelayModel" "faultKind" "I" ∈ gw := gw_5 (i := 237) (by decide +kernel) rfl
theorem q_7_107 : Cond.constantLong "BeaconDelayModel" 315 (3 : Int64) ∈ gw := gw_7 (i := 107) (by decide +kernel) rfl
theorem q_6_21 : Cond.fieldLink "BeaconDelayModel" 84 "BeaconDelayModel" "rowSort" "[I" ∈ gw := gw_6 (i := 21) (by decide +kernel) rfl
theorem q_7_111 : Cond.code yX10_noTray prog_12_method_70_code 2 (some FieldType.int) ∈ gw := gw_7 (i := 111) (rfl) rfl
theorem q_7_110 : Cond.instanceMethod yX10_noTray ∈ gw := gw_7 (i := 110) (by decide +kernel) rfl
theorem q_s_93 : Cond.selects "BeaconDelayModel" yX10_noTray yX10_noTray ∈ gw := gw_s (i := 93) (by decide +kernel) rfl
theorem q_7_108 : Cond.methodLink "BeaconDelayModel" 317 yX10_noTray ∈ gw := gw_7 (i := 108) (by decide +kernel) rfl
theorem q_7_185 : Cond.code yX10_noHigh prog_12_method_88_code 3 (some FieldType.int) ∈ gw := gw_7 (i := 185) (rfl) rfl
theorem q_7_184 : Cond.instanceMethod yX10_noHigh ∈ gw := gw_7 (i := 184) (by decide +kernel) rfl
theorem q_s_103 : Cond.selects "BeaconDelayModel" yX10_noHigh yX10_noHigh ∈ gw := gw_s (i := 103) (by decide +kernel) rfl
theorem q_7_182 : Cond.methodLink "BeaconDelayModel" 373 yX10_noHigh ∈ gw := gw_7 (i := 182) (by decide +kernel) rfl
theorem q_7_10 : Cond.code yX10_isNight prog_12_method_51_code 3 (some FieldType.boolean) ∈ gw := gw_7 (i := 10) (rfl) rfl
theorem q_7_9 : Cond.instanceMethod yX10_isNight ∈ gw := gw_7 (i := 9) (by decide +kernel) rfl
theorem q_s_80 : Cond.selects "BeaconDelayModel" yX10_isNight yX10_isNight ∈ gw := gw_s (i := 80) (by decide +kernel) rfl
theorem q_7_7 : Cond.methodLink "BeaconDelayModel" 266 yX10_isNight ∈ gw := gw_7 (i := 7) (by decide +kernel) rfl
theorem q_6_1 : Cond.fieldLink "BeaconDelayModel" 36 "BeaconDelayModel" "was" "[I" ∈ gw := gw_6 (i := 1) (by decide +kernel) rfl
theorem q_7_63 : Cond.code yX10_stores prog_12_method_56_code 2 none ∈ gw := gw_7 (i := 63) (rfl) rfl
theorem q_7_62 : Cond.instanceMethod yX10_stores ∈ gw := gw_7 (i := 62) (by decide +kernel) rfl
theorem q_s_87 : Cond.selects "BeaconDelayModel" yX10_stores yX10_stores ∈ gw := gw_s (i := 87) (by decide +kernel) rfl
theorem q_7_60 : Cond.methodLink "BeaconDelayModel" 278 yX10_stores ∈ gw := gw_7 (i := 60) (by decide +kernel) rfl
theorem q_7_14 : Cond.code yX10_standNow prog_12_method_40_code 3 (some FieldType.int) ∈ gw := gw_7 (i := 14) (rfl) rfl
theorem q_7_13 : Cond.instanceMethod yX10_standNow ∈ gw := gw_7 (i := 13) (by decide +kernel) rfl
theorem q_s_81 : Cond.selects "BeaconDelayModel" yX10_standNow yX10_standNow ∈ gw := gw_s (i := 81) (by decide +kernel) rfl
theorem q_7_11 : Cond.methodLink "BeaconDelayModel" 269 yX10_standNow ∈ gw := gw_7 (i := 11) (by decide +kernel) rfl
theorem q_7_21 : Cond.code yX10_nightTo prog_12_method_50_code 6 (some FieldType.int) ∈ gw := gw_7 (i := 21) (rfl) rfl
theorem q_7_20 : Cond.instanceMethod yX10_nightTo ∈ gw := gw_7 (i := 20) (by decide +kernel) rfl
theorem q_s_82 : Cond.selects "BeaconDelayModel" yX10_nightTo yX10_nightTo ∈ gw := gw_s (i := 82) (by decide +kernel) rfl
theorem q_7_18 : Cond.methodLink "BeaconDelayModel" 272 yX10_nightTo ∈ gw := gw_7 (i := 18) (by decide +kernel) rfl
theorem q_7_31 : Cond.code yX10_tookIn prog_12_method_39_code 1 (some FieldType.int) ∈ gw := gw_7 (i := 31) (rfl) rfl
theorem q_7_30 : Cond.static yX10_tookIn ∈ gw := gw_7 (i := 30) (by decide +kernel) rfl
theorem q_7_29 : Cond.methodLink "BeaconDelayModel" 234 yX10_tookIn ∈ gw := gw_7 (i := 29) (by decide +kernel) rfl
theorem q_7_71 : Cond.code yX10_isStand prog_12_method_41_code 3 none ∈ gw := gw_7 (i := 71) (rfl) rfl
theorem q_7_70 : Cond.instanceMethod yX10_isStand ∈ gw := gw_7 (i := 70) (by decide +kernel) rfl
theorem q_s_89 : Cond.selects "BeaconDelayModel" yX10_isStand yX10_isStand ∈ gw := gw_s (i := 89) (by decide +kernel) rfl
theorem q_7_68 : Cond.methodLink "BeaconDelayModel" 275 yX10_isStand ∈ gw := gw_7 (i := 68) (by decide +kernel) rfl
theorem q_7_67 : Cond.code yX10_goesNight prog_12_method_59_code 2 none ∈ gw := gw_7 (i := 67) (rfl) rfl
theorem q_7_66 : Cond.instanceMethod yX10_goesNight ∈ gw := gw_7 (i := 66) (by decide +kernel) rfl
theorem q_s_88 : Cond.selects "BeaconDelayModel" yX10_goesNight yX10_goesNight ∈ gw := gw_s (i := 88) (by decide +kernel) rfl
theorem q_7_64 : Cond.methodLink "BeaconDelayModel" 281 yX10_goesNight ∈ gw := gw_7 (i := 64) (by decide +kernel) rfl
theorem q_7_75 : Cond.code yX10_notes prog_12_method_58_code 2 none ∈ gw := gw_7 (i := 75) (rfl) rfl
theorem q_7_74 : Cond.instanceMethod yX10_notes ∈ gw := gw_7 (i := 74) (by decide +kernel) rfl
theorem q_s_90 : Cond.selects "BeaconDelayModel" yX10_notes yX10_notes ∈ gw := gw_s (i := 90) (by decide +kernel) rfl
theorem q_7_72 : Cond.methodLink "BeaconDelayModel" 284 yX10_notes ∈ gw := gw_7 (i := 72) (by decide +kernel) rfl
theorem q_7_97 : Cond.constantLong "BeaconDelayModel" 296 (9 : Int64) ∈ gw := gw_7 (i := 97) (by decide +kernel) rfl
theorem q_7_134 : Cond.code yX10_sumIn prog_12_method_43_code 4 (some FieldType.int) ∈ gw := gw_7 (i := 134) (rfl) rfl
theorem q_7_133 : Cond.instanceMethod yX10_sumIn ∈ gw := gw_7 (i := 133) (by decide +kernel) rfl
theorem q_s_98 : Cond.selects "BeaconDelayModel" yX10_sumIn yX10_sumIn ∈ gw := gw_s (i := 98) (by decide +kernel) rfl
theorem q_7_131 : Cond.methodLink "BeaconDelayModel" 326 yX10_sumIn ∈ gw := gw_7 (i := 131) (by decide +kernel) rfl
theorem q_5_229 : Cond.fieldLink "BeaconDelayModel" 97 "BeaconDelayModel" "taped" "I" ∈ gw := gw_5 (i := 229) (by decide +kernel) rfl
theorem mt_X10_within : MtS yX10_within cX10_within 6 (some .boolean) 3 := ⟨⟨q_6_116, q_1_9, by decide +kernel, by decide +kernel, by decide +kernel⟩, q_6_115⟩
theorem mt_X10_isHill : MtV yX10_isHill cX10_isHill 3 (some .boolean) 1 := ⟨⟨q_6_238, q_1_9, by decide +kernel, by decide +kernel, by decide +kernel⟩, q_6_237, q_s_79⟩
theorem mt_X10_whySteal : MtV yX10_whySteal cX10_whySteal 3 (some .int) 1 := ⟨⟨q_7_88, q_1_9, by decide +kernel, by decide +kernel, by decide +kernel⟩, q_7_87, q_s_91⟩
theorem mt_X10_noTray : MtV yX10_noTray cX10_noTray 2 (some .int) 1 := ⟨⟨q_7_111, q_1_9, by decide +kernel, by decide +kernel, by decide +kernel⟩, q_7_110, q_s_93⟩
theorem mt_X10_noHigh : MtV yX10_noHigh cX10_noHigh 3 (some .int) 2 := ⟨⟨q_7_185, q_1_9, by decide +kernel, by decide +kernel, by decide +kernel⟩, q_7_184, q_s_103⟩
theorem mt_X10_isNight : MtV yX10_isNight cX10_isNight 3 (some .boolean) 1 := ⟨⟨q_7_10, q_1_9, by decide +kernel, by decide +kernel, by decide +kernel⟩, q_7_9, q_s_80⟩
theorem mt_X10_stores : MtV yX10_stores cX10_stores 2 none 0 := ⟨⟨q_7_63, q_1_9, by decide +kernel, by decide +kernel, by decide +kernel⟩, q_7_62, q_s_87⟩
theorem mt_X10_standNow : MtV yX10_standNow cX10_standNow 3 (some .int) 0 := ⟨⟨q_7_14, q_1_9, by decide +kernel, by decide +kernel, by decide +kernel⟩, q_7_13, q_s_81⟩
theorem mt_X10_nightTo : MtV yX10_nightTo cX10_nightTo 6 (some .int) 3 := ⟨⟨q_7_21, q_1_9, by decide +kernel, by decide +kernel, by decide +kernel⟩, q_7_20, q_s_82⟩
theorem mt_X10_tookIn : MtS yX10_tookIn cX10_tookIn 1 (some .int) 1 := ⟨⟨q_7_31, q_1_9, by decide +kernel, by decide +kernel, by decide +kernel⟩, q_7_30⟩
theorem mt_X10_isStand : MtV yX10_isStand cX10_isStand 3 none 1 := ⟨⟨q_7_71, q_1_9, by decide +kernel, by decide +kernel, by decide +kernel⟩, q_7_70, q_s_89⟩
theorem mt_X10_goesNight : MtV yX10_goesNight cX10_goesNight 2 none 1 := ⟨⟨q_7_67, q_1_9, by decide +kernel, by decide +kernel, by decide +kernel⟩, q_7_66, q_s_88⟩
theorem mt_X10_notes : MtV yX10_notes cX10_notes 2 none 0 := ⟨⟨q_7_75, q_1_9, by decide +kernel, by decide +kernel, by decide +kernel⟩, q_7_74, q_s_90⟩
theorem mt_X10_sumIn : MtV yX10_sumIn cX10_sumIn 4 (some .int) 1 := ⟨⟨q_7_134, q_1_9, by decide +kernel, by decide +kernel, by decide +kernel⟩, q_7_133, q_s_98⟩
