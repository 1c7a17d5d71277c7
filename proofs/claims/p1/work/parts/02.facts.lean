
theorem tI_lt {a b : Int32} : (a < b) = (a.toInt < b.toInt) := propext Int32.lt_iff_toInt_lt
theorem tI_le {a b : Int32} : (a ≤ b) = (a.toInt ≤ b.toInt) := propext Int32.le_iff_toInt_le
theorem tI_eq {a b : Int32} : (a = b) = (a.toInt = b.toInt) := propext Int32.toInt_inj.symm
theorem tL_lt {a b : Int64} : (a < b) = (a.toInt < b.toInt) := propext Int64.lt_iff_toInt_lt
theorem tL_le {a b : Int64} : (a ≤ b) = (a.toInt ≤ b.toInt) := propext Int64.le_iff_toInt_le
theorem tL_eq {a b : Int64} : (a = b) = (a.toInt = b.toInt) := propext Int64.toInt_inj.symm
theorem tWx (x : Int32) : x.toInt64.toInt = x.toInt := Int32.toInt_toInt64 x
theorem vp_mono {i : Int32} {n N : Nat} (h : n ≤ N) (hi : vp_in i n) : vp_in i N := fun q => hi (q.elim Or.inl (fun z => Or.inr (Nat.le_trans h z)))
theorem cpy0 (a b n : Nat) : va_cpy (fun _ => (0 : Int32)) (fun _ => 0) a b n = fun _ => 0 := by
  funext k; unfold va_cpy; split <;> rfl
theorem upd0 (k : Nat) : upd (fun _ => (0 : Int32)) k 0 = fun _ => 0 := by
  funext j; unfold upd; split <;> rfl
theorem updL0 (k : Nat) : vp_updL (fun _ => (0 : Int64)) k 0 = fun _ => 0 := by
  funext j; unfold vp_updL; split <;> rfl
theorem updup (f : Nat → Int32) (k : Nat) (a b : Int32) : upd (upd f k a) k b = upd f k b := by
  funext j; unfold upd; split <;> rfl
theorem updLup (f : Nat → Int64) (k : Nat) (a b : Int64) : vp_updL (vp_updL f k a) k b = vp_updL f k b := by
  funext j; unfold vp_updL; split <;> rfl
theorem updid {f : Nat → Int32} {k : Nat} {v : Int32} (h : f k = v) : upd f k v = f := by
  funext j; unfold upd; split
  · next e => rw [e, h]
  · rfl
theorem updLid {f : Nat → Int64} {k : Nat} {v : Int64} (h : f k = v) : vp_updL f k v = f := by
  funext j; unfold vp_updL; split
  · next e => rw [e, h]
  · rfl
theorem fill_s {f : Nat → Int32} {i : Nat} {c : Int32} (h : ∀ j : Nat, j < i → f j = c) (hi : i < 2 ^ 31) : ∀ j : Nat, j < i + 1 → upd f (nI i).toNatClampNeg c j = c := fun j hj => by
  rw [nI_clamp hi]
  unfold upd
  split
  · rfl
  · exact h j (by omega)
theorem loopW {p : Program} {l : Launch} {e : Env} {R : Room} {s : State} {m : MethodId} {args : Array Value} {below : List Frame} {meth : Method} {c : Code} {cells slots : Nat} {Q : State → Prop} (N : Nat) (X : Nat → Heap → List Loc → Array Slot → Prop) (g : Array Slot → JFrame)
    (step : ∀ (i : Nat) (H : Heap) (locs : List Loc) (ls : Array Slot), i ≤ N → X i H locs ls → (i < N → ∀ (H' : Heap) (locs' : List Loc) (ls' : Array Slot), X (i + 1) H' locs' ls' → W p l e R s m args below meth c H' locs' cells slots Q (g ls')) → W p l e R s m args below meth c H locs cells slots Q (g ls))
    (i0 : Nat) (h0 : i0 ≤ N) {H : Heap} {locs : List Loc} {ls : Array Slot} (hX : X i0 H locs ls) : W p l e R s m args below meth c H locs cells slots Q (g ls) := by
  have key : ∀ n i : Nat, N - i = n → i ≤ N → ∀ (H : Heap) (locs : List Loc) (ls : Array Slot), X i H locs ls → W p l e R s m args below meth c H locs cells slots Q (g ls) := by
    intro n
    induction n with
    | zero => intro i hn hi H locs ls hX; exact step i H locs ls hi hX (fun h => absurd h (by omega))
    | succ n ih => intro i hn hi H locs ls hX; exact step i H locs ls hi hX (fun h H' l' ls' hX' => ih (i + 1) (by omega) (by omega) H' l' ls' hX')
  exact key _ i0 rfl h0 H locs ls hX
theorem natOf {x M c : Int32} {n m : Nat} (hM : M.toInt = n) (hc : c.toInt = m) (h : c ≤ x) (h5 : x ≤ M) : ∃ j : Nat, m ≤ j ∧ j ≤ n ∧ x = nI j := by
  rw [Int32.le_iff_toInt_le] at h h5
  obtain ⟨j, hj, e⟩ := nI_of2 hM (show ¬ x < 0 by rw [Int32.lt_iff_toInt_lt, (by decide : (0 : Int32).toInt = 0)]; omega) (Int32.le_iff_toInt_le.mpr h5)
  refine ⟨j, ?_, hj, e⟩
  rw [e, nI_toInt (by have := Int32.toInt_lt M; omega)] at h
  omega

theorem gw_ws {ws : List Cond} (ps : List Nat) (hp : ws = ps.filterMap (fun i => tables_1[i]?)) (h : ws.all goodWord = true) : ∀ w ∈ ws, w ∈ gw := fun w hw => by
  have h1 := List.all_eq_true.mp h w hw
  rw [hp] at hw
  obtain ⟨i, -, hi⟩ := List.mem_filterMap.mp hw
  exact gw_m (List.mem_append_right _ (List.mem_of_getElem? hi)) h1

def mo (z : Nat → Nat) (i0 i5 i6 i7 i8 i9 i10 i11 i12 i13 i14 i18 i19 i22 i23 i29 : Int32) : List Value := [.int i0, .ref (z 1), .ref (z 2), .ref (z 3), .ref (z 4), .int i5, .int i6, .int i7, .int i8, .int i9, .int i10, .int i11, .int i12, .int i13, .int i14, .ref (z 15), .ref (z 16), .ref (z 17), .int i18, .int i19, .ref (z 20), .ref (z 21), .int i22, .int i23, .ref (z 24), .ref (z 25), .ref (z 26), .ref (z 27), .ref (z 28), .int i29, .ref (z 30), .ref (z 31), .ref (z 32), .ref (z 33), .ref (z 34), .ref (z 35), .ref (z 36), .ref (z 37), .ref (z 38), .ref (z 39)]
theorem inX0 : ∀ w ∈ wsX00, w ∈ gw := gw_ws [200, 202] (by decide +kernel) (by decide +kernel)
theorem dfX0 : ∀ j, j < 2 → defaultValue (tyX0 j) = vp_V [.int 0, .int 0] j := fun j hj => match j, hj with
  | 0, _ => rfl
  | 1, _ => rfl
  | n + 2, h => absurd h (by omega)
theorem inX1 : ∀ w ∈ wsX10, w ∈ gw := gw_ws [87, 89, 91, 93, 95, 97, 99, 101, 103, 105, 107, 109, 111, 113, 115, 117, 119, 121] (by decide +kernel) (by decide +kernel)
theorem dfX1 : ∀ j, j < 18 → defaultValue (tyX1 j) = vp_V [.int 0, .int 0, .int 0, .int 0, .int 0, .int 0, .null, .null, .null, .null, .null, .null, .null, .int 0, .int 0, .int 0, .int 0, .int 0] j := fun j hj => match j, hj with
  | 0, _ => rfl
  | 1, _ => rfl
  | 2, _ => rfl
  | 3, _ => rfl
  | 4, _ => rfl
  | 5, _ => rfl
  | 6, _ => rfl
  | 7, _ => rfl
  | 8, _ => rfl
  | 9, _ => rfl
  | 10, _ => rfl
  | 11, _ => rfl
  | 12, _ => rfl
  | 13, _ => rfl
  | 14, _ => rfl
  | 15, _ => rfl
  | 16, _ => rfl
  | 17, _ => rfl
  | n + 18, h => absurd h (by omega)
theorem inX2 : ∀ w ∈ wsX20, w ∈ gw := gw_ws [1068, 1070, 1072, 1074, 1076, 1078, 1080] (by decide +kernel) (by decide +kernel)
theorem dfX2 : ∀ j, j < 7 → defaultValue (tyX2 j) = vp_V [.int 0, .null, .null, .null, .null, .null, .int 0] j := fun j hj => match j, hj with
  | 0, _ => rfl
  | 1, _ => rfl
  | 2, _ => rfl
  | 3, _ => rfl
  | 4, _ => rfl
  | 5, _ => rfl
  | 6, _ => rfl
  | n + 7, h => absurd h (by omega)
theorem inX3 : ∀ w ∈ wsX30, w ∈ gw := gw_ws [265, 267, 269, 271, 273] (by decide +kernel) (by decide +kernel)
theorem dfX3 : ∀ j, j < 5 → defaultValue (tyX3 j) = vp_V [.null, .int 0, .int 0, .int 0, .int 0] j := fun j hj => match j, hj with
  | 0, _ => rfl
  | 1, _ => rfl
  | 2, _ => rfl
  | 3, _ => rfl
  | 4, _ => rfl
  | n + 5, h => absurd h (by omega)
theorem inX4 : ∀ w ∈ wsX40, w ∈ gw := gw_ws [177, 179, 181, 183, 185, 187] (by decide +kernel) (by decide +kernel)
theorem dfX4 : ∀ j, j < 6 → defaultValue (tyX4 j) = vp_V [.null, .null, .null, .null, .null, .null] j := fun j hj => match j, hj with
  | 0, _ => rfl
  | 1, _ => rfl
  | 2, _ => rfl
  | 3, _ => rfl
  | 4, _ => rfl
  | 5, _ => rfl
  | n + 6, h => absurd h (by omega)
theorem inX5 : ∀ w ∈ wsX50, w ∈ gw := gw_ws [219, 221, 223, 225] (by decide +kernel) (by decide +kernel)
theorem dfX5 : ∀ j, j < 4 → defaultValue (tyX5 j) = vp_V [.null, .null, .null, .int 0] j := fun j hj => match j, hj with
  | 0, _ => rfl
  | 1, _ => rfl
  | 2, _ => rfl
  | 3, _ => rfl
  | n + 4, h => absurd h (by omega)
theorem inX6 : ∀ w ∈ wsX60, w ∈ gw := gw_ws [146, 148, 150, 152, 154, 156, 158, 160, 162] (by decide +kernel) (by decide +kernel)
theorem dfX6 : ∀ j, j < 9 → defaultValue (tyX6 j) = vp_V [.null, .int 0, .int 0, .null, .int 0, .int 0, .int 0, .int 0, .int 0] j := fun j hj => match j, hj with
  | 0, _ => rfl
  | 1, _ => rfl
  | 2, _ => rfl
  | 3, _ => rfl
  | 4, _ => rfl
  | 5, _ => rfl
  | 6, _ => rfl
  | 7, _ => rfl
  | 8, _ => rfl
  | n + 9, h => absurd h (by omega)
theorem inX7 : ∀ w ∈ wsX70, w ∈ gw := gw_ws [244, 246, 248] (by decide +kernel) (by decide +kernel)
theorem dfX7 : ∀ j, j < 3 → defaultValue (tyX7 j) = vp_V [.null, .int 0, .int 0] j := fun j hj => match j, hj with
  | 0, _ => rfl
  | 1, _ => rfl
  | 2, _ => rfl
  | n + 3, h => absurd h (by omega)
theorem inX8 : ∀ w ∈ wsX80, w ∈ gw := gw_ws [811, 813, 815, 817, 819, 821, 823, 825, 827, 829, 831, 833, 835, 837, 839, 841, 843] (by decide +kernel) (by decide +kernel)
theorem dfX8 : ∀ j, j < 17 → defaultValue (tyX8 j) = vp_V [.int 0, .int 0, .null, .null, .null, .int 0, .int 0, .null, .null, .null, .null, .null, .null, .null, .int 0, .int 0, .int 0] j := fun j hj => match j, hj with
  | 0, _ => rfl
  | 1, _ => rfl
  | 2, _ => rfl
  | 3, _ => rfl
  | 4, _ => rfl
  | 5, _ => rfl
  | 6, _ => rfl
  | 7, _ => rfl
  | 8, _ => rfl
  | 9, _ => rfl
  | 10, _ => rfl
  | 11, _ => rfl
  | 12, _ => rfl
  | 13, _ => rfl
  | 14, _ => rfl
  | 15, _ => rfl
  | 16, _ => rfl
  | n + 17, h => absurd h (by omega)
theorem inX9 : ∀ w ∈ wsX90, w ∈ gw := gw_ws [291, 293, 295, 297, 299, 301, 303, 305, 307, 309, 311, 313, 315, 317, 319] (by decide +kernel) (by decide +kernel)
theorem dfX9 : ∀ j, j < 15 → defaultValue (tyX9 j) = vp_V [.null, .int 0, .null, .null, .null, .null, .null, .null, .null, .null, .null, .null, .int 0, .int 0, .int 0] j := fun j hj => match j, hj with
  | 0, _ => rfl
  | 1, _ => rfl
  | 2, _ => rfl
  | 3, _ => rfl
  | 4, _ => rfl
  | 5, _ => rfl
  | 6, _ => rfl
  | 7, _ => rfl
  | 8, _ => rfl
  | 9, _ => rfl
  | 10, _ => rfl
  | 11, _ => rfl
  | 12, _ => rfl
  | 13, _ => rfl
  | 14, _ => rfl
  | n + 15, h => absurd h (by omega)
theorem inX10 : ∀ w ∈ wsX100, w ∈ gw := gw_ws [1224, 1226, 1228, 1230, 1232, 1234, 1236, 1238, 1240, 1242, 1244, 1246, 1248, 1250, 1252, 1254, 1256, 1258, 1260, 1262, 1264, 1266, 1268, 1270, 1272, 1274, 1276, 1278, 1280, 1282, 1284, 1286, 1288, 1290, 1292, 1294, 1296, 1298, 1300, 1302] (by decide +kernel) (by decide +kernel)
theorem dfX10 : ∀ j, j < 40 → defaultValue (tyX10 j) = vp_V [.int 0, .null, .null, .null, .null, .int 0, .int 0, .int 0, .int 0, .int 0, .int 0, .int 0, .int 0, .int 0, .int 0, .null, .null, .null, .int 0, .int 0, .null, .null, .int 0, .int 0, .null, .null, .null, .null, .null, .int 0, .null, .null, .null, .null, .null, .null, .null, .null, .null, .null] j := fun j hj => match j, hj with
  | 0, _ => rfl
  | 1, _ => rfl
  | 2, _ => rfl
  | 3, _ => rfl
  | 4, _ => rfl
  | 5, _ => rfl
  | 6, _ => rfl
  | 7, _ => rfl
  | 8, _ => rfl
  | 9, _ => rfl
  | 10, _ => rfl
  | 11, _ => rfl
  | 12, _ => rfl
  | 13, _ => rfl
  | 14, _ => rfl
  | 15, _ => rfl
  | 16, _ => rfl
  | 17, _ => rfl
  | 18, _ => rfl
  | 19, _ => rfl
  | 20, _ => rfl
  | 21, _ => rfl
  | 22, _ => rfl
  | 23, _ => rfl
  | 24, _ => rfl
  | 25, _ => rfl
  | 26, _ => rfl
  | 27, _ => rfl
  | 28, _ => rfl
  | 29, _ => rfl
  | 30, _ => rfl
  | 31, _ => rfl
  | 32, _ => rfl
  | 33, _ => rfl
  | 34, _ => rfl
  | 35, _ => rfl
  | 36, _ => rfl
  | 37, _ => rfl
  | 38, _ => rfl
  | 39, _ => rfl
  | n + 40, h => absurd h (by omega)
theorem q_5_218 : Cond.methodLink "BeaconDelayModel" 7 objectInit ∈ gw := gw_5 (i := 218) (by decide +kernel) rfl
theorem q_1_27 : Cond.instanceMethod objectInit ∈ gw := gw_1 (i := 27) (by decide +kernel) rfl
theorem q_1_28 : Cond.code objectInit object_method_1_code 1 none ∈ gw := gw_1 (i := 28) (rfl) rfl
theorem q_1_125 : Cond.arrayClass FieldType.int ∈ gw := gw_1 (i := 125) (by decide +kernel) rfl
theorem q_5_225 : Cond.fieldLink "BeaconDelayModel" 13 "BeaconDelayModel" "all" "[I" ∈ gw := gw_5 (i := 225) (by decide +kernel) rfl
theorem q_6_105 : Cond.arrayClass FieldType.boolean ∈ gw := gw_6 (i := 105) (by decide +kernel) rfl
theorem q_5_226 : Cond.fieldLink "BeaconDelayModel" 17 "BeaconDelayModel" "hasImage" "[Z" ∈ gw := gw_5 (i := 226) (by decide +kernel) rfl
theorem q_5_227 : Cond.fieldLink "BeaconDelayModel" 21 "BeaconDelayModel" "tape" "[I" ∈ gw := gw_5 (i := 227) (by decide +kernel) rfl
theorem q_5_228 : Cond.fieldLink "BeaconDelayModel" 24 "BeaconDelayModel" "fresh" "[I" ∈ gw := gw_5 (i := 228) (by decide +kernel) rfl
theorem q_5_238 : Cond.fieldLink "BeaconDelayModel" 27 "BeaconDelayModel" "faultPlace" "I" ∈ gw := gw_5 (i := 238) (by decide +kernel) rfl
theorem q_5_239 : Cond.fieldLink "BeaconDelayModel" 30 "BeaconDelayModel" "reckoned" "[I" ∈ gw := gw_5 (i := 239) (by decide +kernel) rfl
theorem q_6_0 : Cond.fieldLink "BeaconDelayModel" 33 "BeaconDelayModel" "words" "[I" ∈ gw := gw_6 (i := 0) (by decide +kernel) rfl
theorem q_6_1 : Cond.fieldLink "BeaconDelayModel" 36 "BeaconDelayModel" "was" "[I" ∈ gw := gw_6 (i := 1) (by decide +kernel) rfl
theorem q_6_4 : Cond.fieldLink "BeaconDelayModel" 39 "BeaconDelayModel" "line" "[I" ∈ gw := gw_6 (i := 4) (by decide +kernel) rfl
theorem q_6_5 : Cond.fieldLink "BeaconDelayModel" 42 "BeaconDelayModel" "placeIn" "[I" ∈ gw := gw_6 (i := 5) (by decide +kernel) rfl
theorem q_6_8 : Cond.fieldLink "BeaconDelayModel" 45 "BeaconDelayModel" "stand" "[I" ∈ gw := gw_6 (i := 8) (by decide +kernel) rfl
theorem q_5_219 : Cond.constant "BeaconDelayModel" 48 (40000 : Int32) ∈ gw := gw_5 (i := 219) (by decide +kernel) rfl
theorem q_6_9 : Cond.fieldLink "BeaconDelayModel" 49 "BeaconDelayModel" "then" "[I" ∈ gw := gw_6 (i := 9) (by decide +kernel) rfl
theorem q_6_10 : Cond.fieldLink "BeaconDelayModel" 52 "BeaconDelayModel" "far" "[I" ∈ gw := gw_6 (i := 10) (by decide +kernel) rfl
theorem q_6_11 : Cond.fieldLink "BeaconDelayModel" 55 "BeaconDelayModel" "farOther" "[I" ∈ gw := gw_6 (i := 11) (by decide +kernel) rfl
theorem q_6_12 : Cond.fieldLink "BeaconDelayModel" 58 "BeaconDelayModel" "known" "[Z" ∈ gw := gw_6 (i := 12) (by decide +kernel) rfl
theorem q_2_11 : Cond.arrayClass FieldType.long ∈ gw := gw_2 (i := 11) (by decide +kernel) rfl
theorem q_6_14 : Cond.fieldLink "BeaconDelayModel" 61 "BeaconDelayModel" "many" "[J" ∈ gw := gw_6 (i := 14) (by decide +kernel) rfl
theorem q_6_15 : Cond.fieldLink "BeaconDelayModel" 65 "BeaconDelayModel" "manyThen" "[J" ∈ gw := gw_6 (i := 15) (by decide +kernel) rfl
theorem q_6_16 : Cond.fieldLink "BeaconDelayModel" 68 "BeaconDelayModel" "room" "[I" ∈ gw := gw_6 (i := 16) (by decide +kernel) rfl
theorem q_6_17 : Cond.fieldLink "BeaconDelayModel" 71 "BeaconDelayModel" "comeBy" "[I" ∈ gw := gw_6 (i := 17) (by decide +kernel) rfl
theorem q_6_18 : Cond.fieldLink "BeaconDelayModel" 74 "BeaconDelayModel" "queue" "[I" ∈ gw := gw_6 (i := 18) (by decide +kernel) rfl
theorem q_5_220 : Cond.constant "BeaconDelayModel" 77 (90000 : Int32) ∈ gw := gw_5 (i := 220) (by decide +kernel) rfl
theorem q_6_19 : Cond.fieldLink "BeaconDelayModel" 78 "BeaconDelayModel" "on" "[J" ∈ gw := gw_6 (i := 19) (by decide +kernel) rfl
theorem q_6_20 : Cond.fieldLink "BeaconDelayModel" 81 "BeaconDelayModel" "highBy1" "[I" ∈ gw := gw_6 (i := 20) (by decide +kernel) rfl
theorem q_6_21 : Cond.fieldLink "BeaconDelayModel" 84 "BeaconDelayModel" "rowSort" "[I" ∈ gw := gw_6 (i := 21) (by decide +kernel) rfl
theorem q_6_22 : Cond.fieldLink "BeaconDelayModel" 87 "BeaconDelayModel" "rowMany" "[I" ∈ gw := gw_6 (i := 22) (by decide +kernel) rfl
theorem q_6_23 : Cond.fieldLink "BeaconDelayModel" 90 "BeaconDelayModel" "numbers" "[J" ∈ gw := gw_6 (i := 23) (by decide +kernel) rfl
theorem q_5_223 : Cond.code yX10_plain prog_12_method_4_code 2 none ∈ gw := gw_5 (i := 223) (rfl) rfl
theorem q_1_9 : Cond.initialized "BeaconDelayModel" ∈ gw := gw_1 (i := 9) (by decide +kernel) rfl
theorem q_5_222 : Cond.static yX10_plain ∈ gw := gw_5 (i := 222) (by decide +kernel) rfl
theorem q_5_221 : Cond.methodLink "BeaconDelayModel" 93 yX10_plain ∈ gw := gw_5 (i := 221) (by decide +kernel) rfl
theorem q_1_26 : Cond.methodLink "BeaconDelay" 1 objectInit ∈ gw := gw_1 (i := 26) (by decide +kernel) rfl
theorem q_1_124 : Cond.arrayClass FieldType.byte ∈ gw := gw_1 (i := 124) (by decide +kernel) rfl
theorem q_2_36 : Cond.fieldLink "BeaconDelay" 9 "BeaconDelay" "tape" "[B" ∈ gw := gw_2 (i := 36) (by decide +kernel) rfl
theorem q_1_29 : Cond.classLink "BeaconDelay" 13 "BeaconDelay$Coast" ∈ gw := gw_1 (i := 29) (by decide +kernel) rfl
theorem q_1_30 : Cond.instantiable "BeaconDelay$Coast" 18 ∈ gw := gw_1 (i := 30) (by decide +kernel) rfl
theorem q_1_2 : Cond.initialized "BeaconDelay$Coast" ∈ gw := gw_1 (i := 2) (by decide +kernel) rfl
theorem q_1_34 : Cond.methodLink "BeaconDelay$Coast" 3 objectInit ∈ gw := gw_1 (i := 34) (by decide +kernel) rfl
theorem q_1_54 : Cond.fieldLink "BeaconDelay$Coast" 9 "BeaconDelay$Coast" "fear" "[I" ∈ gw := gw_1 (i := 54) (by decide +kernel) rfl
theorem q_1_58 : Cond.fieldLink "BeaconDelay$Coast" 15 "BeaconDelay$Coast" "gap" "[I" ∈ gw := gw_1 (i := 58) (by decide +kernel) rfl
theorem q_1_61 : Cond.fieldLink "BeaconDelay$Coast" 18 "BeaconDelay$Coast" "needs" "[I" ∈ gw := gw_1 (i := 61) (by decide +kernel) rfl
theorem q_1_64 : Cond.fieldLink "BeaconDelay$Coast" 21 "BeaconDelay$Coast" "roadFrom" "[I" ∈ gw := gw_1 (i := 64) (by decide +kernel) rfl
theorem q_1_66 : Cond.fieldLink "BeaconDelay$Coast" 24 "BeaconDelay$Coast" "roadTo" "[I" ∈ gw := gw_1 (i := 66) (by decide +kernel) rfl
theorem q_1_68 : Cond.fieldLink "BeaconDelay$Coast" 27 "BeaconDelay$Coast" "carries" "[I" ∈ gw := gw_1 (i := 68) (by decide +kernel) rfl
theorem q_1_70 : Cond.fieldLink "BeaconDelay$Coast" 30 "BeaconDelay$Coast" "steps" "[I" ∈ gw := gw_1 (i := 70) (by decide +kernel) rfl
theorem q_1_33 : Cond.code yX1_init prog_3_method_1_code 1 none ∈ gw := gw_1 (i := 33) (rfl) rfl
theorem q_1_32 : Cond.instanceMethod yX1_init ∈ gw := gw_1 (i := 32) (by decide +kernel) rfl
theorem q_2_38 : Cond.fieldLink "BeaconDelay" 16 "BeaconDelay" "coast" "LBeaconDelay$Coast;" ∈ gw := gw_2 (i := 38) (by decide +kernel) rfl
theorem q_1_126 : Cond.classLink "BeaconDelay" 20 "BeaconDelay$Reader" ∈ gw := gw_1 (i := 126) (by decide +kernel) rfl
theorem q_1_127 : Cond.instantiable "BeaconDelay$Reader" 9 ∈ gw := gw_1 (i := 127) (by decide +kernel) rfl
theorem q_1_3 : Cond.initialized "BeaconDelay$Reader" ∈ gw := gw_1 (i := 3) (by decide +kernel) rfl
theorem q_1_131 : Cond.methodLink "BeaconDelay$Reader" 3 objectInit ∈ gw := gw_1 (i := 131) (by decide +kernel) rfl
theorem q_1_132 : Cond.classLink "BeaconDelay$Reader" 9 "BeaconDelay$Coast" ∈ gw := gw_1 (i := 132) (by decide +kernel) rfl
theorem q_1_134 : Cond.fieldLink "BeaconDelay$Reader" 12 "BeaconDelay$Reader" "told" "LBeaconDelay$Coast;" ∈ gw := gw_1 (i := 134) (by decide +kernel) rfl
theorem q_1_138 : Cond.fieldLink "BeaconDelay$Reader" 18 "BeaconDelay$Reader" "faultPlace" "I" ∈ gw := gw_1 (i := 138) (by decide +kernel) rfl
theorem q_1_140 : Cond.fieldLink "BeaconDelay$Reader" 22 "BeaconDelay$Reader" "text" "[B" ∈ gw := gw_1 (i := 140) (by decide +kernel) rfl
theorem q_1_130 : Cond.code yX6_init prog_8_method_1_code 2 none ∈ gw := gw_1 (i := 130) (rfl) rfl
theorem q_1_129 : Cond.instanceMethod yX6_init ∈ gw := gw_1 (i := 129) (by decide +kernel) rfl
theorem q_1_128 : Cond.methodLink "BeaconDelay" 22 yX6_init ∈ gw := gw_1 (i := 128) (by decide +kernel) rfl
theorem q_2_39 : Cond.fieldLink "BeaconDelay" 25 "BeaconDelay" "reader" "LBeaconDelay$Reader;" ∈ gw := gw_2 (i := 39) (by decide +kernel) rfl
theorem q_1_165 : Cond.classLink "BeaconDelay" 29 "BeaconDelay$Laws" ∈ gw := gw_1 (i := 165) (by decide +kernel) rfl
theorem q_1_166 : Cond.instantiable "BeaconDelay$Laws" 6 ∈ gw := gw_1 (i := 166) (by decide +kernel) rfl
theorem q_1_4 : Cond.initialized "BeaconDelay$Laws" ∈ gw := gw_1 (i := 4) (by decide +kernel) rfl
theorem q_1_170 : Cond.methodLink "BeaconDelay$Laws" 3 objectInit ∈ gw := gw_1 (i := 170) (by decide +kernel) rfl
theorem q_1_172 : Cond.fieldLink "BeaconDelay$Laws" 9 "BeaconDelay$Laws" "known" "[I" ∈ gw := gw_1 (i := 172) (by decide +kernel) rfl
theorem q_1_173 : Cond.fieldLink "BeaconDelay$Laws" 15 "BeaconDelay$Laws" "named" "[I" ∈ gw := gw_1 (i := 173) (by decide +kernel) rfl
theorem q_1_174 : Cond.fieldLink "BeaconDelay$Laws" 18 "BeaconDelay$Laws" "waiting" "[I" ∈ gw := gw_1 (i := 174) (by decide +kernel) rfl
theorem q_1_175 : Cond.fieldLink "BeaconDelay$Laws" 21 "BeaconDelay$Laws" "staying" "[I" ∈ gw := gw_1 (i := 175) (by decide +kernel) rfl
theorem q_1_176 : Cond.fieldLink "BeaconDelay$Laws" 24 "BeaconDelay$Laws" "stayingEast" "[I" ∈ gw := gw_1 (i := 176) (by decide +kernel) rfl
theorem q_1_171 : Cond.fieldLink "BeaconDelay$Laws" 27 "BeaconDelay$Laws" "coast" "LBeaconDelay$Coast;" ∈ gw := gw_1 (i := 171) (by decide +kernel) rfl
theorem q_1_169 : Cond.code yX4_init prog_6_method_1_code 2 none ∈ gw := gw_1 (i := 169) (rfl) rfl
theorem q_1_168 : Cond.instanceMethod yX4_init ∈ gw := gw_1 (i := 168) (by decide +kernel) rfl
theorem q_1_167 : Cond.methodLink "BeaconDelay" 31 yX4_init ∈ gw := gw_1 (i := 167) (by decide +kernel) rfl
theorem q_2_40 : Cond.fieldLink "BeaconDelay" 34 "BeaconDelay" "laws" "LBeaconDelay$Laws;" ∈ gw := gw_2 (i := 40) (by decide +kernel) rfl
theorem q_1_190 : Cond.classLink "BeaconDelay" 38 "BeaconDelay$Calm" ∈ gw := gw_1 (i := 190) (by decide +kernel) rfl
theorem q_1_191 : Cond.instantiable "BeaconDelay$Calm" 2 ∈ gw := gw_1 (i := 191) (by decide +kernel) rfl
theorem q_1_5 : Cond.initialized "BeaconDelay$Calm" ∈ gw := gw_1 (i := 5) (by decide +kernel) rfl
theorem q_1_195 : Cond.methodLink "BeaconDelay$Calm" 3 objectInit ∈ gw := gw_1 (i := 195) (by decide +kernel) rfl
theorem q_1_194 : Cond.code yX0_init prog_2_method_1_code 1 none ∈ gw := gw_1 (i := 194) (rfl) rfl
theorem q_1_193 : Cond.instanceMethod yX0_init ∈ gw := gw_1 (i := 193) (by decide +kernel) rfl
theorem q_2_41 : Cond.fieldLink "BeaconDelay" 41 "BeaconDelay" "calm" "LBeaconDelay$Calm;" ∈ gw := gw_2 (i := 41) (by decide +kernel) rfl
theorem q_1_205 : Cond.classLink "BeaconDelay" 45 "BeaconDelay$Past" ∈ gw := gw_1 (i := 205) (by decide +kernel) rfl
theorem q_1_206 : Cond.instantiable "BeaconDelay$Past" 4 ∈ gw := gw_1 (i := 206) (by decide +kernel) rfl
theorem q_1_6 : Cond.initialized "BeaconDelay$Past" ∈ gw := gw_1 (i := 6) (by decide +kernel) rfl
theorem q_1_210 : Cond.methodLink "BeaconDelay$Past" 3 objectInit ∈ gw := gw_1 (i := 210) (by decide +kernel) rfl
theorem q_1_211 : Cond.fieldLink "BeaconDelay$Past" 9 "BeaconDelay$Past" "standing" "[I" ∈ gw := gw_1 (i := 211) (by decide +kernel) rfl
theorem q_1_213 : Cond.fieldLink "BeaconDelay$Past" 15 "BeaconDelay$Past" "weather" "[I" ∈ gw := gw_1 (i := 213) (by decide +kernel) rfl
theorem q_1_215 : Cond.fieldLink "BeaconDelay$Past" 18 "BeaconDelay$Past" "nights" "[I" ∈ gw := gw_1 (i := 215) (by decide +kernel) rfl
theorem q_1_209 : Cond.code yX5_init prog_7_method_1_code 1 none ∈ gw := gw_1 (i := 209) (rfl) rfl
theorem q_1_208 : Cond.instanceMethod yX5_init ∈ gw := gw_1 (i := 208) (by decide +kernel) rfl
theorem q_2_42 : Cond.fieldLink "BeaconDelay" 48 "BeaconDelay" "past" "LBeaconDelay$Past;" ∈ gw := gw_2 (i := 42) (by decide +kernel) rfl
theorem q_1_228 : Cond.classLink "BeaconDelay" 52 "BeaconDelay$Tray" ∈ gw := gw_1 (i := 228) (by decide +kernel) rfl
theorem q_2_43 : Cond.fieldLink "BeaconDelay" 54 "BeaconDelay" "trays" "[LBeaconDelay$Tray;" ∈ gw := gw_2 (i := 43) (by decide +kernel) rfl
theorem q_1_230 : Cond.classLink "BeaconDelay" 58 "BeaconDelay$Image" ∈ gw := gw_1 (i := 230) (by decide +kernel) rfl
theorem q_2_44 : Cond.fieldLink "BeaconDelay" 60 "BeaconDelay" "images" "[LBeaconDelay$Image;" ∈ gw := gw_2 (i := 44) (by decide +kernel) rfl
theorem q_2_45 : Cond.fieldLink "BeaconDelay" 64 "BeaconDelay" "standingBy" "[I" ∈ gw := gw_2 (i := 45) (by decide +kernel) rfl
theorem q_1_232 : Cond.instantiable "BeaconDelay$Tray" 3 ∈ gw := gw_1 (i := 232) (by decide +kernel) rfl
theorem q_1_7 : Cond.initialized "BeaconDelay$Tray" ∈ gw := gw_1 (i := 7) (by decide +kernel) rfl
theorem q_1_236 : Cond.methodLink "BeaconDelay$Tray" 3 objectInit ∈ gw := gw_1 (i := 236) (by decide +kernel) rfl
theorem q_1_237 : Cond.fieldLink "BeaconDelay$Tray" 9 "BeaconDelay$Tray" "numbers" "[J" ∈ gw := gw_1 (i := 237) (by decide +kernel) rfl
theorem q_2_0 : Cond.fieldLink "BeaconDelay$Tray" 15 "BeaconDelay$Tray" "count" "I" ∈ gw := gw_2 (i := 0) (by decide +kernel) rfl
theorem q_1_235 : Cond.code yX7_init prog_9_method_1_code 1 none ∈ gw := gw_1 (i := 235) (rfl) rfl
theorem q_1_234 : Cond.instanceMethod yX7_init ∈ gw := gw_1 (i := 234) (by decide +kernel) rfl
theorem q_2_12 : Cond.instantiable "BeaconDelay$Image" 5 ∈ gw := gw_2 (i := 12) (by decide +kernel) rfl
theorem q_1_8 : Cond.initialized "BeaconDelay$Image" ∈ gw := gw_1 (i := 8) (by decide +kernel) rfl
theorem q_2_16 : Cond.methodLink "BeaconDelay$Image" 1 objectInit ∈ gw := gw_2 (i := 16) (by decide +kernel) rfl
theorem q_2_17 : Cond.classLink "BeaconDelay$Image" 7 "BeaconDelay$Coast" ∈ gw := gw_2 (i := 17) (by decide +kernel) rfl
theorem q_2_19 : Cond.fieldLink "BeaconDelay$Image" 10 "BeaconDelay$Image" "coast" "LBeaconDelay$Coast;" ∈ gw := gw_2 (i := 19) (by decide +kernel) rfl
theorem q_2_15 : Cond.code yX3_init prog_5_method_1_code 1 none ∈ gw := gw_2 (i := 15) (rfl) rfl
theorem q_2_14 : Cond.instanceMethod yX3_init ∈ gw := gw_2 (i := 14) (by decide +kernel) rfl
theorem mt_X10_plain : MtS yX10_plain cX10_plain 2 none 1 := ⟨⟨q_5_223, q_1_9, by decide +kernel, by decide +kernel, by decide +kernel⟩, q_5_222⟩
theorem mt_X1_init : MtI yX1_init cX1_init 1 none 0 := ⟨⟨q_1_33, q_1_2, by decide +kernel, by decide +kernel, by decide +kernel⟩, rfl, q_1_32⟩
theorem mt_X6_init : MtI yX6_init cX6_init 2 none 1 := ⟨⟨q_1_130, q_1_3, by decide +kernel, by decide +kernel, by decide +kernel⟩, rfl, q_1_129⟩
theorem mt_X4_init : MtI yX4_init cX4_init 2 none 1 := ⟨⟨q_1_169, q_1_4, by decide +kernel, by decide +kernel, by decide +kernel⟩, rfl, q_1_168⟩
theorem mt_X0_init : MtI yX0_init cX0_init 1 none 0 := ⟨⟨q_1_194, q_1_5, by decide +kernel, by decide +kernel, by decide +kernel⟩, rfl, q_1_193⟩
theorem mt_X5_init : MtI yX5_init cX5_init 1 none 0 := ⟨⟨q_1_209, q_1_6, by decide +kernel, by decide +kernel, by decide +kernel⟩, rfl, q_1_208⟩
theorem mt_X7_init : MtI yX7_init cX7_init 1 none 0 := ⟨⟨q_1_235, q_1_7, by decide +kernel, by decide +kernel, by decide +kernel⟩, rfl, q_1_234⟩
theorem mt_X3_init : MtI yX3_init cX3_init 1 none 0 := ⟨⟨q_2_15, q_1_8, by decide +kernel, by decide +kernel, by decide +kernel⟩, rfl, q_2_14⟩
