theorem q_3_117 : Cond.code yX9_fault prog_1_method_6_code 2 (some FieldType.int) ∈ gw := gw_3 (i := 117) (rfl) rfl
theorem q_3_115 : Cond.instanceMethod yX9_fault ∈ gw := gw_3 (i := 115) (by decide +kernel) rfl
theorem q_3_116 : Cond.selects "BeaconDelay" yX9_fault yX9_fault ∈ gw := gw_3 (i := 116) (by decide +kernel) rfl
theorem mt_X9_fault : MtV yX9_fault cX9_fault 2 (some .int) 1 := ⟨⟨q_3_117, q_1_1, by decide +kernel, by decide +kernel, by decide +kernel⟩, q_3_115, q_3_116⟩
theorem q_3_114 : Cond.methodLink "BeaconDelayLaw" 23 yX9_fault ∈ gw := gw_3 (i := 114) (by decide +kernel) rfl
theorem dL_law_316 : decode cL_law 316 = .ok (.invokevirtual 23, 3) := by decide +kernel
set_option maxHeartbeats 4000000 in
set_option maxRecDepth 100000 in
theorem cx_2_s {p : Program} {e : Env} {s : State} {m : MethodId} {below : List Frame} {meth : Method} {c : Code} {l : Launch} {b Lk : Nat} {xs : Nat → Int32} {V : GV} {y : Nat → Nat} {H : Heap} {locs : List Loc} {cells slots : Nat} {wz : va_W} {ls : Array Slot} (G : LCx p s m meth c b Lk xs V) (a1 : Int32) {pp : Nat → Int32} {ff : Nat → Nat → Int32} {gg : Nat → Nat → Int64} {o10 o11 : Value} {rest : va_W} (hp : ivT tX pp) (hR : RRo V y cells slots o10 o11 rest)  (hP : va_P V.1 vwCl (wB V y pp ff gg o10 o11 ++ rest ++ wz) H) (hD : va_D (AAs s) (wB V y pp ff gg o10 o11 ++ rest ++ wz)) (hS : va_S (AAs s) s.heap H locs) (hlz : ls.size = 4) (kk : (∀ (r : Int32) (H : Heap) (locs : List Loc) (cells slots : Nat) (wx : va_W), KX V y cells slots wx → va_P V.1 vwCl (wx ++ wz) H → va_D (AAs s) (wx ++ wz) → va_S (AAs s) s.heap H locs → W p l e room_1 s m #[Value.ref b] below meth c H locs cells slots (lw_Z below #[Value.ref b] s) (F0 m 319 ls [.int r]))) : W p l e room_1 s m #[Value.ref b] below meth c H locs cells slots (lw_Z below #[Value.ref b] s) (F0 m 316 ls [.int a1, .ref (y 0)]) := by
  rw [as3] at hP hD
  refine cSI (X := wB V y pp ff gg o10 o11) (pl := rest ++ wz) (rest := []) G (k_X9_fault_0 l V y a1 (pp 0) o10 o11 (pp 1) (pp 2) (pp 3) (pp 15) (pp 16) (pp 17) (pp 18) (pp 19) (pp 20) (pp 21) (hp 0) (hp 17) (hp 19) (hp 20)) mt_X9_fault q_3_114 ⟨Nat.le_of_ble_eq_true rfl, Nat.le_of_ble_eq_true rfl⟩ hP hD hS [0, 10] (by decide +kernel) rfl 0 rfl rfl rfl rfl hlz rfl (Nat.le_of_ble_eq_true rfl) dL_law_316 hR.room (fun r w H locs hw hPD hS => ?_)
  subst hw
  obtain ⟨hP, hD⟩ := hPD (wB V y pp ff gg o10 o11) rfl rfl
  rw [← as3] at hP hD
  exact kk r H locs (cells + 0) (slots + 0) _ ⟨pp, ff, gg, o10, o11, rest, hp, hR, rfl⟩ hP hD hS
set_option maxHeartbeats 4000000 in
set_option maxRecDepth 100000 in
theorem cx_2 {p : Program} {e : Env} {s : State} {m : MethodId} {below : List Frame} {meth : Method} {c : Code} {l : Launch} {b Lk : Nat} {xs : Nat → Int32} {V : GV} {y : Nat → Nat} {H : Heap} {locs : List Loc} {cells slots : Nat} {wz : va_W} {ls : Array Slot} (G : LCx p s m meth c b Lk xs V) (a1 : Int32) {wx : va_W} (kx : KX V y cells slots wx) (hP : va_P V.1 vwCl (wx ++ wz) H) (hD : va_D (AAs s) (wx ++ wz)) (hS : va_S (AAs s) s.heap H locs) (hlz : ls.size = 4) (kk : (∀ (r : Int32) (H : Heap) (locs : List Loc) (cells slots : Nat) (wx : va_W), KX V y cells slots wx → va_P V.1 vwCl (wx ++ wz) H → va_D (AAs s) (wx ++ wz) → va_S (AAs s) s.heap H locs → W p l e room_1 s m #[Value.ref b] below meth c H locs cells slots (lw_Z below #[Value.ref b] s) (F0 m 319 ls [.int r]))) : W p l e room_1 s m #[Value.ref b] below meth c H locs cells slots (lw_Z below #[Value.ref b] s) (F0 m 316 ls [.int a1, .ref (y 0)]) := by
  obtain ⟨pp, ff, gg, o10, o11, rest, hp, hR, rfl⟩ := kx
  exact cx_2_s G _ hp hR hP hD hS hlz kk
theorem q_6_230 : Cond.code yX10_fault prog_12_method_35_code 2 (some FieldType.int) ∈ gw := gw_6 (i := 230) (rfl) rfl
theorem q_6_228 : Cond.instanceMethod yX10_fault ∈ gw := gw_6 (i := 228) (by decide +kernel) rfl
theorem q_6_229 : Cond.selects "BeaconDelayModel" yX10_fault yX10_fault ∈ gw := gw_6 (i := 229) (by decide +kernel) rfl
theorem mt_X10_fault : MtV yX10_fault cX10_fault 2 (some .int) 1 := ⟨⟨q_6_230, q_1_9, by decide +kernel, by decide +kernel, by decide +kernel⟩, q_6_228, q_6_229⟩
theorem q_6_227 : Cond.methodLink "BeaconDelayLaw" 26 yX10_fault ∈ gw := gw_6 (i := 227) (by decide +kernel) rfl
theorem dL_law_326 : decode cL_law 326 = .ok (.invokevirtual 26, 3) := by decide +kernel
set_option maxHeartbeats 4000000 in
set_option maxRecDepth 100000 in
theorem cz_2 {p : Program} {e : Env} {s : State} {m : MethodId} {below : List Frame} {meth : Method} {c : Code} {l : Launch} {b Lk : Nat} {xs : Nat → Int32} {V : GV} {z : Nat → Nat} {H : Heap} {locs : List Loc} {cells slots : Nat} {wx : va_W} {ls : Array Slot} {rest : List Value} (G : LCx p s m meth c b Lk xs V) (a1 : Int32) {wz : va_W} (kz : KZ V z wz) (hP : va_P V.1 vwCl (wx ++ wz) H) (hD : va_D (AAs s) (wx ++ wz)) (hS : va_S (AAs s) s.heap H locs) (hcs : cells + 0 ≤ 600000 ∧ slots + 0 ≤ 7302250) (hro : (rest.map fun v => v.category).sum ≤ 8) (hlz : ls.size = 4) (kk : (∀ (r : Int32) (H : Heap) (locs : List Loc) (wz : va_W), KZ V z wz → va_P V.1 vwCl (wx ++ wz) H → va_D (AAs s) (wx ++ wz) → va_S (AAs s) s.heap H locs → W p l e room_1 s m #[Value.ref b] below meth c H locs cells slots (lw_Z below #[Value.ref b] s) (F0 m 329 ls (.int r :: rest)))) : W p l e room_1 s m #[Value.ref b] below meth c H locs cells slots (lw_Z below #[Value.ref b] s) (F0 m 326 ls (.int a1 :: .ref (z 0) :: rest)) := by
  obtain ⟨pz, fz, gz, hp, hz_tz1, hz_tz4, hz_tz16, hz_tz17, hz_tz20, hz_tz21, hz_tz24, hz_tz25, hz_tz26, hz_tz27, hz_tz33, hz_tz34, hz_tz37, hz_tz38, hz_RW, rfl⟩ := kz
  replace hP := swP hP
  replace hD := swD hD
  refine cSI (X := wZ V z pz fz gz) (pl := wx) (rest := rest) G (k_X10_fault_0 l V z a1 (pz 0) (pz 5) (pz 6) (pz 7) (pz 8) (pz 9) (pz 10) (pz 11) (pz 12) (pz 13) (pz 14) (pz 18) (pz 19) (pz 22) (pz 23) (pz 29) (hp 5) (hp 6) (hp 7) (hp 8) (hp 10) (hp 11) (hp 12) (hp 13) (hp 14) (hp 18) (hp 22) (hp 29)) mt_X10_fault q_6_227 ⟨Nat.le_of_ble_eq_true rfl, Nat.le_of_ble_eq_true rfl⟩ hP hD hS [0] (by decide +kernel) rfl 0 rfl rfl rfl rfl hlz rfl hro dL_law_326 hcs (fun r w H locs hw hPD hS => ?_)
  obtain ⟨v0, br, rfl⟩ := hw
  obtain ⟨hP, hD⟩ := hPD (wZ V z (up9 pz 0 v0) fz gz) rfl rfl
  replace hP := swP hP
  replace hD := swD hD
  exact kk r H locs _ ⟨(up9 pz 0 v0), fz, gz, (ivUp 0 hp (iv_top v0)), hz_tz1, hz_tz4, hz_tz16, hz_tz17, hz_tz20, hz_tz21, hz_tz24, hz_tz25, hz_tz26, hz_tz27, hz_tz33, hz_tz34, hz_tz37, hz_tz38, hz_RW, rfl⟩ hP hD hS
theorem q_5_176 : Cond.code yX9_numbers prog_1_method_69_code 4 (some FieldType.int) ∈ gw := gw_5 (i := 176) (rfl) rfl
theorem q_5_174 : Cond.instanceMethod yX9_numbers ∈ gw := gw_5 (i := 174) (by decide +kernel) rfl
theorem q_5_175 : Cond.selects "BeaconDelay" yX9_numbers yX9_numbers ∈ gw := gw_5 (i := 175) (by decide +kernel) rfl
theorem mt_X9_numbers : MtV yX9_numbers cX9_numbers 4 (some .int) 3 := ⟨⟨q_5_176, q_1_1, by decide +kernel, by decide +kernel, by decide +kernel⟩, q_5_174, q_5_175⟩
theorem q_5_173 : Cond.methodLink "BeaconDelayLaw" 173 yX9_numbers ∈ gw := gw_5 (i := 173) (by decide +kernel) rfl
theorem dL_law_1344 : decode cL_law 1344 = .ok (.invokevirtual 173, 3) := by decide +kernel
set_option maxHeartbeats 4000000 in
set_option maxRecDepth 100000 in
theorem cx_38_s {p : Program} {e : Env} {s : State} {m : MethodId} {below : List Frame} {meth : Method} {c : Code} {l : Launch} {b Lk : Nat} {xs : Nat → Int32} {V : GV} {y : Nat → Nat} {H : Heap} {locs : List Loc} {cells slots : Nat} {wz : va_W} {ls : Array Slot} (G : LCx p s m meth c b Lk xs V) (a1 : Int32) (a2 : Int32) (a3 : Int32) {pp : Nat → Int32} {ff : Nat → Nat → Int32} {gg : Nat → Nat → Int64} {o10 o11 : Value} {rest : va_W} (hp : ivT tX pp) (hR : RRo V y cells slots o10 o11 rest)  (hP : va_P V.1 vwCl (wB V y pp ff gg o10 o11 ++ rest ++ wz) H) (hD : va_D (AAs s) (wB V y pp ff gg o10 o11 ++ rest ++ wz)) (hS : va_S (AAs s) s.heap H locs) (hlz : ls.size = 4) (kk : (∀ (r : Int32) (H : Heap) (locs : List Loc) (cells slots : Nat) (wx : va_W), KX V y cells slots wx → r = nuF a1 a2 a3 → va_P V.1 vwCl (wx ++ wz) H → va_D (AAs s) (wx ++ wz) → va_S (AAs s) s.heap H locs → W p l e room_1 s m #[Value.ref b] below meth c H locs cells slots (lw_Z below #[Value.ref b] s) (F0 m 1347 ls [.int r]))) : W p l e room_1 s m #[Value.ref b] below meth c H locs cells slots (lw_Z below #[Value.ref b] s) (F0 m 1344 ls [.int a3, .int a2, .int a1, .ref (y 0)]) := by
  rw [as3] at hP hD
  refine cSI (X := wB V y pp ff gg o10 o11) (pl := rest ++ wz) (rest := []) G (k_X9_numbers_0 l V y a1 a2 a3 (pp 0) o10 o11 (pp 1) (pp 2) (pp 3) (pp 36) (pp 37) (gg 0) (pp 38) (pp 39) (gg 1) (pp 40) (pp 41) (gg 2) (pp 42) (pp 43) (gg 3) (hp 0) (hp 36) (hp 38) (hp 40) (hp 42)) mt_X9_numbers q_5_173 ⟨Nat.le_of_ble_eq_true rfl, Nat.le_of_ble_eq_true rfl⟩ hP hD hS [0, 30, 33, 34, 35, 36, 37, 38, 39, 40] (by decide +kernel) rfl 0 rfl rfl rfl rfl hlz rfl (Nat.le_of_ble_eq_true rfl) dL_law_1344 hR.room (fun r w H locs hw hPD hS => ?_)
  obtain ⟨v0, v1, g2, v3, v4, g5, v6, v7, g8, v9, v10, g11, bv0, bv3, bv6, bv9, br, ef, rfl⟩ := hw
  obtain ⟨hP, hD⟩ := hPD (wB V y (up9 (up9 (up9 (up9 (up9 (up9 (up9 (up9 pp 36 v0) 37 v1) 38 v3) 39 v4) 40 v6) 41 v7) 42 v9) 43 v10) ff (up9 (up9 (up9 (up9 gg 0 g2) 1 g5) 2 g8) 3 g11) o10 o11) rfl rfl
  rw [← as3] at hP hD
  exact kk r H locs (cells + 0) (slots + 0) _ ⟨(up9 (up9 (up9 (up9 (up9 (up9 (up9 (up9 pp 36 v0) 37 v1) 38 v3) 39 v4) 40 v6) 41 v7) 42 v9) 43 v10), ff, (up9 (up9 (up9 (up9 gg 0 g2) 1 g5) 2 g8) 3 g11), o10, o11, rest, (ivUp 43 (ivUp 42 (ivUp 41 (ivUp 40 (ivUp 39 (ivUp 38 (ivUp 37 (ivUp 36 hp bv0) (iv_top v1)) bv3) (iv_top v4)) bv6) (iv_top v7)) bv9) (iv_top v10)), hR, rfl⟩ ef hP hD hS
set_option maxHeartbeats 4000000 in
set_option maxRecDepth 100000 in
theorem cx_38 {p : Program} {e : Env} {s : State} {m : MethodId} {below : List Frame} {meth : Method} {c : Code} {l : Launch} {b Lk : Nat} {xs : Nat → Int32} {V : GV} {y : Nat → Nat} {H : Heap} {locs : List Loc} {cells slots : Nat} {wz : va_W} {ls : Array Slot} (G : LCx p s m meth c b Lk xs V) (a1 : Int32) (a2 : Int32) (a3 : Int32) {wx : va_W} (kx : KX V y cells slots wx) (hP : va_P V.1 vwCl (wx ++ wz) H) (hD : va_D (AAs s) (wx ++ wz)) (hS : va_S (AAs s) s.heap H locs) (hlz : ls.size = 4) (kk : (∀ (r : Int32) (H : Heap) (locs : List Loc) (cells slots : Nat) (wx : va_W), KX V y cells slots wx → r = nuF a1 a2 a3 → va_P V.1 vwCl (wx ++ wz) H → va_D (AAs s) (wx ++ wz) → va_S (AAs s) s.heap H locs → W p l e room_1 s m #[Value.ref b] below meth c H locs cells slots (lw_Z below #[Value.ref b] s) (F0 m 1347 ls [.int r]))) : W p l e room_1 s m #[Value.ref b] below meth c H locs cells slots (lw_Z below #[Value.ref b] s) (F0 m 1344 ls [.int a3, .int a2, .int a1, .ref (y 0)]) := by
  obtain ⟨pp, ff, gg, o10, o11, rest, hp, hR, rfl⟩ := kx
  exact cx_38_s G _ _ _ hp hR hP hD hS hlz kk
theorem q_8_134 : Cond.code yX10_numbers prog_12_method_129_code 5 (some FieldType.int) ∈ gw := gw_8 (i := 134) (rfl) rfl
theorem q_8_132 : Cond.instanceMethod yX10_numbers ∈ gw := gw_8 (i := 132) (by decide +kernel) rfl
theorem q_8_133 : Cond.selects "BeaconDelayModel" yX10_numbers yX10_numbers ∈ gw := gw_8 (i := 133) (by decide +kernel) rfl
theorem mt_X10_numbers : MtV yX10_numbers cX10_numbers 5 (some .int) 3 := ⟨⟨q_8_134, q_1_9, by decide +kernel, by decide +kernel, by decide +kernel⟩, q_8_132, q_8_133⟩
theorem q_8_131 : Cond.methodLink "BeaconDelayLaw" 176 yX10_numbers ∈ gw := gw_8 (i := 131) (by decide +kernel) rfl
theorem dL_law_1363 : decode cL_law 1363 = .ok (.invokevirtual 176, 3) := by decide +kernel
set_option maxHeartbeats 4000000 in
set_option maxRecDepth 100000 in
theorem cz_38 {p : Program} {e : Env} {s : State} {m : MethodId} {below : List Frame} {meth : Method} {c : Code} {l : Launch} {b Lk : Nat} {xs : Nat → Int32} {V : GV} {z : Nat → Nat} {H : Heap} {locs : List Loc} {cells slots : Nat} {wx : va_W} {ls : Array Slot} {rest : List Value} (G : LCx p s m meth c b Lk xs V) (a1 : Int32) (a2 : Int32) (a3 : Int32) {wz : va_W} (kz : KZ V z wz) (hP : va_P V.1 vwCl (wx ++ wz) H) (hD : va_D (AAs s) (wx ++ wz)) (hS : va_S (AAs s) s.heap H locs) (hcs : cells + 0 ≤ 600000 ∧ slots + 0 ≤ 7302250) (hro : (rest.map fun v => v.category).sum ≤ 8) (hlz : ls.size = 4) (kk : (∀ (r : Int32) (H : Heap) (locs : List Loc) (wz : va_W), KZ V z wz → r = nuF a1 a2 a3 → va_P V.1 vwCl (wx ++ wz) H → va_D (AAs s) (wx ++ wz) → va_S (AAs s) s.heap H locs → W p l e room_1 s m #[Value.ref b] below meth c H locs cells slots (lw_Z below #[Value.ref b] s) (F0 m 1366 ls (.int r :: rest)))) : W p l e room_1 s m #[Value.ref b] below meth c H locs cells slots (lw_Z below #[Value.ref b] s) (F0 m 1363 ls (.int a3 :: .int a2 :: .int a1 :: .ref (z 0) :: rest)) := by
  obtain ⟨pz, fz, gz, hp, hz_tz1, hz_tz4, hz_tz16, hz_tz17, hz_tz20, hz_tz21, hz_tz24, hz_tz25, hz_tz26, hz_tz27, hz_tz33, hz_tz34, hz_tz37, hz_tz38, hz_RW, rfl⟩ := kz
  replace hP := swP hP
  replace hD := swD hD
  refine cSI (X := wZ V z pz fz gz) (pl := wx) (rest := rest) G (k_X10_numbers_0 l V z a1 a2 a3 (pz 0) (pz 5) (pz 6) (pz 7) (pz 8) (pz 9) (pz 10) (pz 11) (pz 12) (pz 13) (pz 14) (pz 18) (pz 19) (pz 22) (pz 23) (pz 29) (fz 18) (fz 19) (gz 3) (hp 5) (hp 6) (hp 7) (hp 8) (hp 10) (hp 11) (hp 12) (hp 13) (hp 14) (hp 18) (hp 22) (hp 29) hz_tz37 hz_tz38) mt_X10_numbers q_8_131 ⟨Nat.le_of_ble_eq_true rfl, Nat.le_of_ble_eq_true rfl⟩ hP hD hS [0, 22, 23, 24] (by decide +kernel) rfl 0 rfl rfl rfl rfl hlz rfl hro dL_law_1363 hcs (fun r w H locs hw hPD hS => ?_)
  obtain ⟨v0, g1, g2, g3, bg1, bg2, br, ef, rfl⟩ := hw
  obtain ⟨hP, hD⟩ := hPD (wZ V z (up9 pz 0 v0) (up9 (up9 fz 18 g1) 19 g2) (up9 gz 3 g3)) rfl rfl
  replace hP := swP hP
  replace hD := swD hD
  exact kk r H locs _ ⟨(up9 pz 0 v0), (up9 (up9 fz 18 g1) 19 g2), (up9 gz 3 g3), (ivUp 0 hp (iv_top v0)), hz_tz1, hz_tz4, hz_tz16, hz_tz17, hz_tz20, hz_tz21, hz_tz24, hz_tz25, hz_tz26, hz_tz27, hz_tz33, hz_tz34, bg1, bg2, hz_RW, rfl⟩ ef hP hD hS
theorem q_5_187 : Cond.code yX9_write prog_1_method_70_code 6 (some FieldType.long) ∈ gw := gw_5 (i := 187) (rfl) rfl
theorem q_5_185 : Cond.instanceMethod yX9_write ∈ gw := gw_5 (i := 185) (by decide +kernel) rfl
theorem q_5_186 : Cond.selects "BeaconDelay" yX9_write yX9_write ∈ gw := gw_5 (i := 186) (by decide +kernel) rfl
theorem mt_X9_write : MtV yX9_write cX9_write 6 (some .long) 3 := ⟨⟨q_5_187, q_1_1, by decide +kernel, by decide +kernel, by decide +kernel⟩, q_5_185, q_5_186⟩
theorem q_5_184 : Cond.methodLink "BeaconDelayLaw" 179 yX9_write ∈ gw := gw_5 (i := 184) (by decide +kernel) rfl
theorem dL_law_1402 : decode cL_law 1402 = .ok (.invokevirtual 179, 3) := by decide +kernel
set_option maxHeartbeats 4000000 in
set_option maxRecDepth 100000 in
theorem cx_39_s {p : Program} {e : Env} {s : State} {m : MethodId} {below : List Frame} {meth : Method} {c : Code} {l : Launch} {b Lk : Nat} {xs : Nat → Int32} {V : GV} {y : Nat → Nat} {H : Heap} {locs : List Loc} {cells slots : Nat} {wz : va_W} {ls : Array Slot} (G : LCx p s m meth c b Lk xs V) (a1 : Int32) (a2 : Int32) (k3 : Int64) {pp : Nat → Int32} {ff : Nat → Nat → Int32} {gg : Nat → Nat → Int64} {o10 o11 : Value} {rest : va_W} (hp : ivT tX pp) (hR : RRo V y cells slots o10 o11 rest)  (hP : va_P V.1 vwCl (wB V y pp ff gg o10 o11 ++ rest ++ wz) H) (hD : va_D (AAs s) (wB V y pp ff gg o10 o11 ++ rest ++ wz)) (hS : va_S (AAs s) s.heap H locs) (hlz : ls.size = 4) (kk : (∀ (r : Int64) (H : Heap) (locs : List Loc) (cells slots : Nat) (wx : va_W), KX V y cells slots wx → va_P V.1 vwCl (wx ++ wz) H → va_D (AAs s) (wx ++ wz) → va_S (AAs s) s.heap H locs → W p l e room_1 s m #[Value.ref b] below meth c H locs cells slots (lw_Z below #[Value.ref b] s) (F0 m 1405 ls [.long r]))) : W p l e room_1 s m #[Value.ref b] below meth c H locs cells slots (lw_Z below #[Value.ref b] s) (F0 m 1402 ls [.long k3, .int a2, .int a1, .ref (y 0)]) := by
  rw [as3] at hP hD
  refine cSL (X := wB V y pp ff gg o10 o11) (pl := rest ++ wz) (rest := []) G (k_X9_write_0 l V y a1 a2 k3 (pp 0) o10 o11 (pp 1) (pp 2) (pp 3) (pp 36) (pp 37) (gg 0) (pp 38) (pp 39) (gg 1) (pp 40) (pp 41) (gg 2) (pp 42) (pp 43) (gg 3) (hp 0) (hp 36) (hp 38) (hp 40) (hp 42)) mt_X9_write q_5_184 ⟨Nat.le_of_ble_eq_true rfl, Nat.le_of_ble_eq_true rfl⟩ hP hD hS [0, 30, 33, 34, 35, 36, 37, 38, 39, 40] (by decide +kernel) rfl 0 rfl rfl rfl rfl hlz rfl (Nat.le_of_ble_eq_true rfl) dL_law_1402 hR.room (fun r w H locs hw hPD hS => ?_)
  obtain ⟨g0, g1, g2, g3, rfl⟩ := hw
  obtain ⟨hP, hD⟩ := hPD (wB V y pp ff (up9 (up9 (up9 (up9 gg 0 g0) 1 g1) 2 g2) 3 g3) o10 o11) rfl rfl
  rw [← as3] at hP hD
  exact kk r H locs (cells + 0) (slots + 0) _ ⟨pp, ff, (up9 (up9 (up9 (up9 gg 0 g0) 1 g1) 2 g2) 3 g3), o10, o11, rest, hp, hR, rfl⟩ hP hD hS
set_option maxHeartbeats 4000000 in
set_option maxRecDepth 100000 in
theorem cx_39 {p : Program} {e : Env} {s : State} {m : MethodId} {below : List Frame} {meth : Method} {c : Code} {l : Launch} {b Lk : Nat} {xs : Nat → Int32} {V : GV} {y : Nat → Nat} {H : Heap} {locs : List Loc} {cells slots : Nat} {wz : va_W} {ls : Array Slot} (G : LCx p s m meth c b Lk xs V) (a1 : Int32) (a2 : Int32) (k3 : Int64) {wx : va_W} (kx : KX V y cells slots wx) (hP : va_P V.1 vwCl (wx ++ wz) H) (hD : va_D (AAs s) (wx ++ wz)) (hS : va_S (AAs s) s.heap H locs) (hlz : ls.size = 4) (kk : (∀ (r : Int64) (H : Heap) (locs : List Loc) (cells slots : Nat) (wx : va_W), KX V y cells slots wx → va_P V.1 vwCl (wx ++ wz) H → va_D (AAs s) (wx ++ wz) → va_S (AAs s) s.heap H locs → W p l e room_1 s m #[Value.ref b] below meth c H locs cells slots (lw_Z below #[Value.ref b] s) (F0 m 1405 ls [.long r]))) : W p l e room_1 s m #[Value.ref b] below meth c H locs cells slots (lw_Z below #[Value.ref b] s) (F0 m 1402 ls [.long k3, .int a2, .int a1, .ref (y 0)]) := by
  obtain ⟨pp, ff, gg, o10, o11, rest, hp, hR, rfl⟩ := kx
  exact cx_39_s G _ _ _ hp hR hP hD hS hlz kk
theorem q_8_138 : Cond.code yX10_write prog_12_method_130_code 6 (some FieldType.long) ∈ gw := gw_8 (i := 138) (rfl) rfl
theorem q_8_136 : Cond.instanceMethod yX10_write ∈ gw := gw_8 (i := 136) (by decide +kernel) rfl
theorem q_8_137 : Cond.selects "BeaconDelayModel" yX10_write yX10_write ∈ gw := gw_8 (i := 137) (by decide +kernel) rfl
theorem mt_X10_write : MtV yX10_write cX10_write 6 (some .long) 3 := ⟨⟨q_8_138, q_1_9, by decide +kernel, by decide +kernel, by decide +kernel⟩, q_8_136, q_8_137⟩
theorem q_8_135 : Cond.methodLink "BeaconDelayLaw" 183 yX10_write ∈ gw := gw_8 (i := 135) (by decide +kernel) rfl
theorem dL_law_1437 : decode cL_law 1437 = .ok (.invokevirtual 183, 3) := by decide +kernel
set_option maxHeartbeats 4000000 in
set_option maxRecDepth 100000 in
theorem cz_39 {p : Program} {e : Env} {s : State} {m : MethodId} {below : List Frame} {meth : Method} {c : Code} {l : Launch} {b Lk : Nat} {xs : Nat → Int32} {V : GV} {z : Nat → Nat} {H : Heap} {locs : List Loc} {cells slots : Nat} {wx : va_W} {ls : Array Slot} {rest : List Value} (G : LCx p s m meth c b Lk xs V) (a1 : Int32) (a2 : Int32) (k3 : Int64) {wz : va_W} (kz : KZ V z wz) (hP : va_P V.1 vwCl (wx ++ wz) H) (hD : va_D (AAs s) (wx ++ wz)) (hS : va_S (AAs s) s.heap H locs) (hcs : cells + 0 ≤ 600000 ∧ slots + 0 ≤ 7302250) (hro : (rest.map fun v => v.category).sum ≤ 8) (hlz : ls.size = 4) (kk : (∀ (r : Int64) (H : Heap) (locs : List Loc) (wz : va_W), KZ V z wz → va_P V.1 vwCl (wx ++ wz) H → va_D (AAs s) (wx ++ wz) → va_S (AAs s) s.heap H locs → W p l e room_1 s m #[Value.ref b] below meth c H locs cells slots (lw_Z below #[Value.ref b] s) (F0 m 1440 ls (.long r :: rest)))) : W p l e room_1 s m #[Value.ref b] below meth c H locs cells slots (lw_Z below #[Value.ref b] s) (F0 m 1437 ls (.long k3 :: .int a2 :: .int a1 :: .ref (z 0) :: rest)) := by
  obtain ⟨pz, fz, gz, hp, hz_tz1, hz_tz4, hz_tz16, hz_tz17, hz_tz20, hz_tz21, hz_tz24, hz_tz25, hz_tz26, hz_tz27, hz_tz33, hz_tz34, hz_tz37, hz_tz38, hz_RW, rfl⟩ := kz
  replace hP := swP hP
  replace hD := swD hD
  refine cSL (X := wZ V z pz fz gz) (pl := wx) (rest := rest) G (k_X10_write_0 l V z a1 a2 k3 (pz 0) (pz 5) (pz 6) (pz 7) (pz 8) (pz 9) (pz 10) (pz 11) (pz 12) (pz 13) (pz 14) (pz 18) (pz 19) (pz 22) (pz 23) (pz 29) (fz 18) (fz 19) (gz 3) (hp 5) (hp 6) (hp 7) (hp 8) (hp 10) (hp 11) (hp 12) (hp 13) (hp 14) (hp 18) (hp 22) (hp 29) hz_tz37 hz_tz38) mt_X10_write q_8_135 ⟨Nat.le_of_ble_eq_true rfl, Nat.le_of_ble_eq_true rfl⟩ hP hD hS [0, 22, 23, 24] (by decide +kernel) rfl 0 rfl rfl rfl rfl hlz rfl hro dL_law_1437 hcs (fun r w H locs hw hPD hS => ?_)
  obtain ⟨v0, g1, rfl⟩ := hw
  obtain ⟨hP, hD⟩ := hPD (wZ V z (up9 pz 0 v0) fz (up9 gz 3 g1)) rfl rfl
  replace hP := swP hP
  replace hD := swD hD
  exact kk r H locs _ ⟨(up9 pz 0 v0), fz, (up9 gz 3 g1), (ivUp 0 hp (iv_top v0)), hz_tz1, hz_tz4, hz_tz16, hz_tz17, hz_tz20, hz_tz21, hz_tz24, hz_tz25, hz_tz26, hz_tz27, hz_tz33, hz_tz34, hz_tz37, hz_tz38, hz_RW, rfl⟩ hP hD hS
theorem q_2_93 : Cond.code yX9_coast prog_1_method_4_code 3 (some FieldType.int) ∈ gw := gw_2 (i := 93) (rfl) rfl
theorem q_2_91 : Cond.instanceMethod yX9_coast ∈ gw := gw_2 (i := 91) (by decide +kernel) rfl
theorem q_2_92 : Cond.selects "BeaconDelay" yX9_coast yX9_coast ∈ gw := gw_2 (i := 92) (by decide +kernel) rfl
theorem mt_X9_coast : MtV yX9_coast cX9_coast 3 (some .int) 1 := ⟨⟨q_2_93, q_1_1, by decide +kernel, by decide +kernel, by decide +kernel⟩, q_2_91, q_2_92⟩
theorem q_2_90 : Cond.methodLink "BeaconDelayLaw" 18 yX9_coast ∈ gw := gw_2 (i := 90) (by decide +kernel) rfl
theorem dL_law_293 : decode cL_law 293 = .ok (.invokevirtual 18, 3) := by decide +kernel
set_option maxHeartbeats 4000000 in
set_option maxRecDepth 100000 in
theorem cx_1_0 {p : Program} {e : Env} {s : State} {m : MethodId} {below : List Frame} {meth : Method} {c : Code} {l : Launch} {b Lk : Nat} {xs : Nat → Int32} {V : GV} {y : Nat → Nat} {H : Heap} {locs : List Loc} {cells slots : Nat} {wz : va_W} {ls : Array Slot} (G : LCx p s m meth c b Lk xs V) (a1 : Int32) {pp : Nat → Int32} {ff : Nat → Nat → Int32} {gg : Nat → Nat → Int64} (hp : ivT tX pp) (hc : cells + 116 ≤ 600000 ∧ slots + 633553 ≤ 7302250)  (hP : va_P V.1 vwCl (wB V y pp ff gg .null .null ++ [] ++ wz) H) (hD : va_D (AAs s) (wB V y pp ff gg .null .null ++ [] ++ wz)) (hS : va_S (AAs s) s.heap H locs) (hlz : ls.size = 4) (kk : (∀ (r : Int32) (H : Heap) (locs : List Loc) (cells slots : Nat) (wx : va_W), KX V y cells slots wx → va_P V.1 vwCl (wx ++ wz) H → va_D (AAs s) (wx ++ wz) → va_S (AAs s) s.heap H locs → W p l e room_1 s m #[Value.ref b] below meth c H locs cells slots (lw_Z below #[Value.ref b] s) (F0 m 296 ls [.int r]))) : W p l e room_1 s m #[Value.ref b] below meth c H locs cells slots (lw_Z below #[Value.ref b] s) (F0 m 293 ls [.int a1, .ref (y 0)]) := by
  refine cSI (X := wB V y pp ff gg .null .null ++ []) (pl := wz) (rest := []) G (k_X9_coast_0 l V y a1 (pp 0) (.null) (pp 1) (pp 2) (pp 3) (ff 0) (pp 4) (pp 5) (pp 6) (pp 7) (pp 8) (pp 9) (pp 10) (pp 11) (pp 12) (pp 13) (pp 14) (ff 1) (ff 2) (ff 3) (ff 4) (ff 5) (ff 6) (ff 7) (pp 15) (pp 16) (pp 17) (pp 18) (pp 19) (pp 20) (pp 21) (pp 22) (pp 23) (pp 24) (pp 25) (pp 26) (pp 27) (pp 28) (pp 29) (pp 30) (pp 31) (pp 32) (ff 8) (ff 9) (ff 10) (ff 11) (ff 12) (ff 13) (ff 14) (ff 15) (pp 35) (hp 0) (hp 5) (hp 6) (hp 7) (hp 10) (hp 11) (hp 12) (hp 13) (hp 14) (hp 17) (hp 19) (hp 20) (hp 23) (hp 24) (hp 25) (hp 28) (hp 29) (hp 30) (hp 31) (hp 32) (hp 35)) mt_X9_coast q_2_90 ⟨Nat.le_of_ble_eq_true rfl, Nat.le_of_ble_eq_true rfl⟩ hP hD hS [0, 1, 2, 3, 4, 5, 6, 7, 8, 9, 10, 11, 12, 13, 14, 15, 16, 17, 18, 19, 20, 26] (by decide +kernel) rfl 0 rfl rfl rfl rfl hlz rfl (Nat.le_of_ble_eq_true rfl) dL_law_293 (by omega) (fun r w H locs hw hPD hS => ?_)
  obtain ⟨v0, v1, v2, v3, v4, v5, v6, v7, v8, v9, v10, v11, v12, v13, v14, g15, g16, g17, g18, g19, g20, g21, v22, v23, v24, v25, v26, v27, v28, v29, v30, v31, v32, v33, v34, v35, v36, v37, v38, v39, g40, g41, g42, g43, g44, g45, g46, g47, v48, bv0, bv5, bv6, bv7, bv10, bv11, bv12, bv13, bv14, bv24, bv26, bv27, bv30, bv31, bv32, bv35, bv36, bv37, bv38, bv39, bv48, rfl⟩ := hw
  obtain ⟨hP, hD⟩ := hPD (wB V y (up9 (up9 (up9 (up9 (up9 (up9 (up9 (up9 (up9 (up9 (up9 (up9 (up9 (up9 (up9 (up9 (up9 (up9 (up9 (up9 (up9 (up9 (up9 (up9 (up9 (up9 (up9 (up9 (up9 (up9 (up9 (up9 (up9 (up9 pp 0 v0) 1 v1) 2 v2) 3 v3) 4 v4) 5 v5) 6 v6) 7 v7) 8 v8) 9 v9) 10 v10) 11 v11) 12 v12) 13 v13) 14 v14) 15 v22) 16 v23) 17 v24) 18 v25) 19 v26) 20 v27) 21 v28) 22 v29) 23 v30) 24 v31) 25 v32) 26 v33) 27 v34) 28 v35) 29 v36) 30 v37) 31 v38) 32 v39) 35 v48) (up9 (up9 (up9 (up9 (up9 (up9 (up9 (up9 (up9 (up9 (up9 (up9 (up9 (up9 (up9 ff 1 g15) 2 g16) 3 g17) 4 g18) 5 g19) 6 g20) 7 g21) 8 g40) 9 g41) 10 g42) 11 g43) 12 g44) 13 g45) 14 g46) 15 g47) gg .null .null ++ []) rfl rfl
  exact kk r H locs (cells + 0) (slots + 0) _ ⟨(up9 (up9 (up9 (up9 (up9 (up9 (up9 (up9 (up9 (up9 (up9 (up9 (up9 (up9 (up9 (up9 (up9 (up9 (up9 (up9 (up9 (up9 (up9 (up9 (up9 (up9 (up9 (up9 (up9 (up9 (up9 (up9 (up9 (up9 pp 0 v0) 1 v1) 2 v2) 3 v3) 4 v4) 5 v5) 6 v6) 7 v7) 8 v8) 9 v9) 10 v10) 11 v11) 12 v12) 13 v13) 14 v14) 15 v22) 16 v23) 17 v24) 18 v25) 19 v26) 20 v27) 21 v28) 22 v29) 23 v30) 24 v31) 25 v32) 26 v33) 27 v34) 28 v35) 29 v36) 30 v37) 31 v38) 32 v39) 35 v48), (up9 (up9 (up9 (up9 (up9 (up9 (up9 (up9 (up9 (up9 (up9 (up9 (up9 (up9 (up9 ff 1 g15) 2 g16) 3 g17) 4 g18) 5 g19) 6 g20) 7 g21) 8 g40) 9 g41) 10 g42) 11 g43) 12 g44) 13 g45) 14 g46) 15 g47), gg, .null, .null, [], (ivUp 35 (ivUp 32 (ivUp 31 (ivUp 30 (ivUp 29 (ivUp 28 (ivUp 27 (ivUp 26 (ivUp 25 (ivUp 24 (ivUp 23 (ivUp 22 (ivUp 21 (ivUp 20 (ivUp 19 (ivUp 18 (ivUp 17 (ivUp 16 (ivUp 15 (ivUp 14 (ivUp 13 (ivUp 12 (ivUp 11 (ivUp 10 (ivUp 9 (ivUp 8 (ivUp 7 (ivUp 6 (ivUp 5 (ivUp 4 (ivUp 3 (ivUp 2 (ivUp 1 (ivUp 0 hp bv0) (iv_top v1)) (iv_top v2)) (iv_top v3)) (iv_top v4)) bv5) bv6) bv7) (iv_top v8)) (iv_top v9)) bv10) bv11) bv12) bv13) bv14) (iv_top v22)) (iv_top v23)) bv24) (iv_top v25)) bv26) bv27) (iv_top v28)) (iv_top v29)) bv30) bv31) bv32) (iv_top v33)) (iv_top v34)) bv35) bv36) bv37) bv38) bv39) bv48), Or.inl ⟨rfl, rfl, rfl, hc⟩, rfl⟩ hP hD hS
set_option maxHeartbeats 4000000 in
set_option maxRecDepth 100000 in
theorem cx_1_a {p : Program} {e : Env} {s : State} {m : MethodId} {below : List Frame} {meth : Method} {c : Code} {l : Launch} {b Lk : Nat} {xs : Nat → Int32} {V : GV} {y : Nat → Nat} {H : Heap} {locs : List Loc} {cells slots : Nat} {wz : va_W} {ls : Array Slot} (G : LCx p s m meth c b Lk xs V) (a1 : Int32) {pp : Nat → Int32} {ff : Nat → Nat → Int32} {gg : Nat → Nat → Int64} {n L : Nat} {Yw : Nat → Nat} {wa wb : Nat} {qq : Nat → Int32} {ee : Nat → Nat → Int32} {o11 : Value} {fr : va_W} {fm : Nat} (hp : ivT tX pp) (hW : WFa n L qq ee) (hF : RFo V o11 fr fm) (hT : PTn cells slots n fm (qq 0))  (hP : va_P V.1 vwCl (wB V y pp ff gg (.ref (Yw 0)) o11 ++ (wY V y n L Yw wa wb qq ee ++ fr) ++ wz) H) (hD : va_D (AAs s) (wB V y pp ff gg (.ref (Yw 0)) o11 ++ (wY V y n L Yw wa wb qq ee ++ fr) ++ wz)) (hS : va_S (AAs s) s.heap H locs) (hlz : ls.size = 4) (kk : (∀ (r : Int32) (H : Heap) (locs : List Loc) (cells slots : Nat) (wx : va_W), KX V y cells slots wx → va_P V.1 vwCl (wx ++ wz) H → va_D (AAs s) (wx ++ wz) → va_S (AAs s) s.heap H locs → W p l e room_1 s m #[Value.ref b] below meth c H locs cells slots (lw_Z below #[Value.ref b] s) (F0 m 296 ls [.int r]))) : W p l e room_1 s m #[Value.ref b] below meth c H locs cells slots (lw_Z below #[Value.ref b] s) (F0 m 293 ls [.int a1, .ref (y 0)]) := by
  obtain ⟨hn, hL, hw_q0, hw_q5, hw_q6, hw_q14, hw_q16, hw_tYw1, hw_tYw4, hw_tYw5, hw_tYw6, hw_tYw7, hw_WA, hw_WB, hw_WC⟩ := id hW
  rw [as4] at hP hD
  refine cSI (X := wB V y pp ff gg (.ref (Yw 0)) o11 ++ wY V y n L Yw wa wb qq ee) (pl := fr ++ wz) (rest := []) G (k_X9_coast_1 l V n L Yw y a1 (pp 0) o11 (pp 1) (pp 2) (pp 3) (ff 0) (pp 4) (pp 5) (pp 6) (pp 7) (pp 8) (pp 9) (pp 10) (pp 11) (pp 12) (pp 13) (pp 14) (ff 1) (ff 2) (ff 3) (ff 4) (ff 5) (ff 6) (ff 7) (pp 15) (pp 16) (pp 17) (pp 18) (pp 19) (pp 20) (pp 21) (pp 22) (pp 23) (pp 24) (pp 25) (pp 26) (pp 27) (pp 28) (pp 29) (pp 30) (pp 31) (pp 32) (ff 8) (ff 9) (ff 10) (ff 11) (ff 12) (ff 13) (ff 14) (ff 15) (pp 35) (qq 0) wa (qq 5) (qq 6) wb (qq 14) (qq 15) (qq 16) (ee 0) (ee 1) (ee 3) (ee 5) hn hL (hp 0) (hp 5) (hp 6) (hp 7) (hp 10) (hp 11) (hp 12) (hp 13) (hp 14) (hp 17) (hp 19) (hp 20) (hp 23) (hp 24) (hp 25) (hp 28) (hp 29) (hp 30) (hp 31) (hp 32) (hp 35) hw_q0 hw_q5 hw_q6 hw_q14 hw_q16 hw_tYw1 hw_tYw4 hw_tYw6 hw_WA hw_WB hw_WC) mt_X9_coast q_2_90 ⟨Nat.le_of_ble_eq_true rfl, Nat.le_of_ble_eq_true rfl⟩ hP hD hS [0, 1, 2, 3, 4, 5, 6, 7, 8, 9, 10, 11, 12, 13, 14, 15, 16, 17, 18, 19, 20, 26, 59, 60, 61, 63, 65] (by decide +kernel) rfl 0 rfl rfl rfl rfl hlz rfl (Nat.le_of_ble_eq_true rfl) dL_law_293 (PTn_room hT hw_q0) (fun r w H locs hw hPD hS => ?_)
  obtain ⟨v0, v1, v2, v3, v4, v5, v6, v7, v8, v9, v10, v11, v12, v13, v14, g15, g16, g17, g18, g19, g20, g21, v22, v23, v24, v25, v26, v27, v28, v29, v30, v31, v32, v33, v34, v35, v36, v37, v38, v39, g40, g41, g42, g43, g44, g45, g46, g47, v48, v49, v50, g51, bv0, bv5, bv6, bv7, bv10, bv11, bv12, bv13, bv14, bv24, bv26, bv27, bv30, bv31, bv32, bv35, bv36, bv37, bv38, bv39, bv48, bv49, bv50, bg51, g_0, g_1, g_2, rfl⟩ := hw
  obtain ⟨hP, hD⟩ := hPD (wB V y (up9 (up9 (up9 (up9 (up9 (up9 (up9 (up9 (up9 (up9 (up9 (up9 (up9 (up9 (up9 (up9 (up9 (up9 (up9 (up9 (up9 (up9 (up9 (up9 (up9 (up9 (up9 (up9 (up9 (up9 (up9 (up9 (up9 (up9 pp 0 v0) 1 v1) 2 v2) 3 v3) 4 v4) 5 v5) 6 v6) 7 v7) 8 v8) 9 v9) 10 v10) 11 v11) 12 v12) 13 v13) 14 v14) 15 v22) 16 v23) 17 v24) 18 v25) 19 v26) 20 v27) 21 v28) 22 v29) 23 v30) 24 v31) 25 v32) 26 v33) 27 v34) 28 v35) 29 v36) 30 v37) 31 v38) 32 v39) 35 v48) (up9 (up9 (up9 (up9 (up9 (up9 (up9 (up9 (up9 (up9 (up9 (up9 (up9 (up9 (up9 ff 1 g15) 2 g16) 3 g17) 4 g18) 5 g19) 6 g20) 7 g21) 8 g40) 9 g41) 10 g42) 11 g43) 12 g44) 13 g45) 14 g46) 15 g47) gg (.ref (Yw 0)) o11 ++ wY V y n L Yw wa wb (up9 (up9 qq 5 v49) 16 v50) (up9 ee 3 g51)) rfl rfl
  rw [← as4] at hP hD
  exact kk r H locs (cells + 0) (slots + 0) _ ⟨(up9 (up9 (up9 (up9 (up9 (up9 (up9 (up9 (up9 (up9 (up9 (up9 (up9 (up9 (up9 (up9 (up9 (up9 (up9 (up9 (up9 (up9 (up9 (up9 (up9 (up9 (up9 (up9 (up9 (up9 (up9 (up9 (up9 (up9 pp 0 v0) 1 v1) 2 v2) 3 v3) 4 v4) 5 v5) 6 v6) 7 v7) 8 v8) 9 v9) 10 v10) 11 v11) 12 v12) 13 v13) 14 v14) 15 v22) 16 v23) 17 v24) 18 v25) 19 v26) 20 v27) 21 v28) 22 v29) 23 v30) 24 v31) 25 v32) 26 v33) 27 v34) 28 v35) 29 v36) 30 v37) 31 v38) 32 v39) 35 v48), (up9 (up9 (up9 (up9 (up9 (up9 (up9 (up9 (up9 (up9 (up9 (up9 (up9 (up9 (up9 ff 1 g15) 2 g16) 3 g17) 4 g18) 5 g19) 6 g20) 7 g21) 8 g40) 9 g41) 10 g42) 11 g43) 12 g44) 13 g45) 14 g46) 15 g47), gg, .ref (Yw 0), o11, _, (ivUp 35 (ivUp 32 (ivUp 31 (ivUp 30 (ivUp 29 (ivUp 28 (ivUp 27 (ivUp 26 (ivUp 25 (ivUp 24 (ivUp 23 (ivUp 22 (ivUp 21 (ivUp 20 (ivUp 19 (ivUp 18 (ivUp 17 (ivUp 16 (ivUp 15 (ivUp 14 (ivUp 13 (ivUp 12 (ivUp 11 (ivUp 10 (ivUp 9 (ivUp 8 (ivUp 7 (ivUp 6 (ivUp 5 (ivUp 4 (ivUp 3 (ivUp 2 (ivUp 1 (ivUp 0 hp bv0) (iv_top v1)) (iv_top v2)) (iv_top v3)) (iv_top v4)) bv5) bv6) bv7) (iv_top v8)) (iv_top v9)) bv10) bv11) bv12) bv13) bv14) (iv_top v22)) (iv_top v23)) bv24) (iv_top v25)) bv26) bv27) (iv_top v28)) (iv_top v29)) bv30) bv31) bv32) (iv_top v33)) (iv_top v34)) bv35) bv36) bv37) bv38) bv39) bv48), Or.inr ⟨n, L, Yw, wa, wb, (up9 (up9 qq 5 v49) 16 v50), (up9 ee 3 g51), fr, fm, ⟨hn, hL, hw_q0, bv49, hw_q6, hw_q14, bv50, hw_tYw1, bg51, hw_tYw5, hw_tYw6, hw_tYw7, g_0, g_1, g_2⟩, hF, hT, rfl, rfl⟩, rfl⟩ hP hD hS
set_option maxHeartbeats 4000000 in
set_option maxRecDepth 100000 in
theorem cx_1 {p : Program} {e : Env} {s : State} {m : MethodId} {below : List Frame} {meth : Method} {c : Code} {l : Launch} {b Lk : Nat} {xs : Nat → Int32} {V : GV} {y : Nat → Nat} {H : Heap} {locs : List Loc} {cells slots : Nat} {wz : va_W} {ls : Array Slot} (G : LCx p s m meth c b Lk xs V) (a1 : Int32) {wx : va_W} (kx : KX V y cells slots wx) (hP : va_P V.1 vwCl (wx ++ wz) H) (hD : va_D (AAs s) (wx ++ wz)) (hS : va_S (AAs s) s.heap H locs) (hlz : ls.size = 4) (kk : (∀ (r : Int32) (H : Heap) (locs : List Loc) (cells slots : Nat) (wx : va_W), KX V y cells slots wx → va_P V.1 vwCl (wx ++ wz) H → va_D (AAs s) (wx ++ wz) → va_S (AAs s) s.heap H locs → W p l e room_1 s m #[Value.ref b] below meth c H locs cells slots (lw_Z below #[Value.ref b] s) (F0 m 296 ls [.int r]))) : W p l e room_1 s m #[Value.ref b] below meth c H locs cells slots (lw_Z below #[Value.ref b] s) (F0 m 293 ls [.int a1, .ref (y 0)]) := by
  obtain ⟨pp, ff, gg, o10, o11, rest, hp, hR, rfl⟩ := kx
  rcases hR with ⟨rfl, rfl, rfl, hc⟩ | ⟨n, L, Yw, wa, wb, qq, ee, fr, fm, hW, hF, hT, rfl, rfl⟩
  · exact cx_1_0 G _ hp hc hP hD hS hlz kk
  · exact cx_1_a G _ hp hW hF hT hP hD hS hlz kk
theorem q_6_113 : Cond.code yX10_coast prog_12_method_34_code 3 (some FieldType.int) ∈ gw := gw_6 (i := 113) (rfl) rfl
theorem q_6_111 : Cond.instanceMethod yX10_coast ∈ gw := gw_6 (i := 111) (by decide +kernel) rfl
theorem q_6_112 : Cond.selects "BeaconDelayModel" yX10_coast yX10_coast ∈ gw := gw_6 (i := 112) (by decide +kernel) rfl
theorem mt_X10_coast : MtV yX10_coast cX10_coast 3 (some .int) 1 := ⟨⟨q_6_113, q_1_9, by decide +kernel, by decide +kernel, by decide +kernel⟩, q_6_111, q_6_112⟩
theorem q_6_110 : Cond.methodLink "BeaconDelayLaw" 22 yX10_coast ∈ gw := gw_6 (i := 110) (by decide +kernel) rfl
theorem dL_law_303 : decode cL_law 303 = .ok (.invokevirtual 22, 3) := by decide +kernel
set_option maxHeartbeats 4000000 in
set_option maxRecDepth 100000 in
theorem cz_1 {p : Program} {e : Env} {s : State} {m : MethodId} {below : List Frame} {meth : Method} {c : Code} {l : Launch} {b Lk : Nat} {xs : Nat → Int32} {V : GV} {z : Nat → Nat} {H : Heap} {locs : List Loc} {cells slots : Nat} {wx : va_W} {ls : Array Slot} {rest : List Value} (G : LCx p s m meth c b Lk xs V) (a1 : Int32) {wz : va_W} (kz : KZ V z wz) (hP : va_P V.1 vwCl (wx ++ wz) H) (hD : va_D (AAs s) (wx ++ wz)) (hS : va_S (AAs s) s.heap H locs) (hcs : cells + 0 ≤ 600000 ∧ slots + 0 ≤ 7302250) (hro : (rest.map fun v => v.category).sum ≤ 8) (hlz : ls.size = 4) (kk : (∀ (r : Int32) (H : Heap) (locs : List Loc) (wz : va_W), KZ V z wz → va_P V.1 vwCl (wx ++ wz) H → va_D (AAs s) (wx ++ wz) → va_S (AAs s) s.heap H locs → W p l e room_1 s m #[Value.ref b] below meth c H locs cells slots (lw_Z below #[Value.ref b] s) (F0 m 306 ls (.int r :: rest)))) : W p l e room_1 s m #[Value.ref b] below meth c H locs cells slots (lw_Z below #[Value.ref b] s) (F0 m 303 ls (.int a1 :: .ref (z 0) :: rest)) := by
  obtain ⟨pz, fz, gz, hp, hz_tz1, hz_tz4, hz_tz16, hz_tz17, hz_tz20, hz_tz21, hz_tz24, hz_tz25, hz_tz26, hz_tz27, hz_tz33, hz_tz34, hz_tz37, hz_tz38, hz_RW, rfl⟩ := kz
  replace hP := swP hP
  replace hD := swD hD
  refine cSI (X := wZ V z pz fz gz) (pl := wx) (rest := rest) G (k_X10_coast_0 l V z a1 (pz 0) (pz 5) (pz 6) (pz 7) (pz 8) (pz 9) (pz 10) (pz 11) (pz 12) (pz 13) (pz 14) (pz 18) (pz 19) (pz 22) (pz 23) (pz 29) (fz 0) (fz 2) (fz 3) (hp 5) (hp 6) (hp 7) (hp 8) (hp 10) (hp 11) (hp 12) (hp 13) (hp 14) (hp 18) (hp 22) (hp 29) hz_tz1 hz_tz4 hz_RW) mt_X10_coast q_6_110 ⟨Nat.le_of_ble_eq_true rfl, Nat.le_of_ble_eq_true rfl⟩ hP hD hS [0, 1, 3, 4] (by decide +kernel) rfl 0 rfl rfl rfl rfl hlz rfl hro dL_law_303 hcs (fun r w H locs hw hPD hS => ?_)
  obtain ⟨v0, v1, v2, v3, v4, v5, v6, v7, v8, v9, v10, g11, g12, bv1, bv2, bv3, bv4, bv6, bv7, bv8, bv9, bv10, bg11, bg12, g_0, rfl⟩ := hw
  obtain ⟨hP, hD⟩ := hPD (wZ V z (up9 (up9 (up9 (up9 (up9 (up9 (up9 (up9 (up9 (up9 (up9 pz 0 v0) 5 v1) 6 v2) 7 v3) 8 v4) 9 v5) 10 v6) 11 v7) 12 v8) 13 v9) 14 v10) (up9 (up9 fz 0 g11) 3 g12) gz) rfl rfl
  replace hP := swP hP
  replace hD := swD hD
  exact kk r H locs _ ⟨(up9 (up9 (up9 (up9 (up9 (up9 (up9 (up9 (up9 (up9 (up9 pz 0 v0) 5 v1) 6 v2) 7 v3) 8 v4) 9 v5) 10 v6) 11 v7) 12 v8) 13 v9) 14 v10), (up9 (up9 fz 0 g11) 3 g12), gz, (ivUp 14 (ivUp 13 (ivUp 12 (ivUp 11 (ivUp 10 (ivUp 9 (ivUp 8 (ivUp 7 (ivUp 6 (ivUp 5 (ivUp 0 hp (iv_top v0)) bv1) bv2) bv3) bv4) (iv_top v5)) bv6) bv7) bv8) bv9) bv10), bg11, bg12, hz_tz16, hz_tz17, hz_tz20, hz_tz21, hz_tz24, hz_tz25, hz_tz26, hz_tz27, hz_tz33, hz_tz34, hz_tz37, hz_tz38, g_0, rfl⟩ hP hD hS
theorem dL_law_310 : decode cL_law 310 = .ok (.aload_n 1, 1) := by decide +kernel
theorem dL_law_311 : decode cL_law 311 = .ok (.aload_n 0, 1) := by decide +kernel
theorem dL_law_312 : decode cL_law 312 = .ok (.iload_n 3, 1) := by decide +kernel
theorem dL_law_313 : decode cL_law 313 = .ok (.iconst 1, 1) := by decide +kernel
theorem dL_law_314 : decode cL_law 314 = .ok (.iadd, 1) := by decide +kernel
theorem dL_law_315 : decode cL_law 315 = .ok (.iaload, 1) := by decide +kernel
theorem dL_law_319 : decode cL_law 319 = .ok (.pop, 1) := by decide +kernel
theorem dL_law_320 : decode cL_law 320 = .ok (.aload_n 2, 1) := by decide +kernel
theorem dL_law_321 : decode cL_law 321 = .ok (.aload_n 0, 1) := by decide +kernel
theorem dL_law_322 : decode cL_law 322 = .ok (.iload_n 3, 1) := by decide +kernel
theorem dL_law_323 : decode cL_law 323 = .ok (.iconst 1, 1) := by decide +kernel
theorem dL_law_324 : decode cL_law 324 = .ok (.iadd, 1) := by decide +kernel
theorem dL_law_325 : decode cL_law 325 = .ok (.iaload, 1) := by decide +kernel
theorem dL_law_329 : decode cL_law 329 = .ok (.pop, 1) := by decide +kernel
theorem dL_law_330 : decode cL_law 330 = .ok (.goto 1216, 3) := by decide +kernel
set_option maxHeartbeats 4000000 in
set_option maxRecDepth 100000 in
theorem lc_2 {p : Program} {e : Env} {s : State} {m : MethodId} {below : List Frame} {meth : Method} {c : Code} {l : Launch} {b Lk : Nat} {xs : Nat → Int32} {V : GV} {y z : Nat → Nat} {H : Heap} {locs : List Loc} {cells slots : Nat} {ls : Array Slot} {jj : Nat} {wx wz : va_W} (G : LCx p s m meth c b Lk xs V) (hjj : jj + 6 ≤ Lk ∧ Lk ≤ 3072) (kx : KX V y cells slots wx) (kz : KZ V z wz) (hP : va_P V.1 vwCl (wx ++ wz) H) (hD : va_D (AAs s) (wx ++ wz)) (hS : va_S (AAs s) s.heap H locs) (hl : lv_has ls 4 [(0, .ref b), (1, .ref (y 0)), (2, .ref (z 0)), (3, .int (nI jj))]) (hnext : ∀ {H : Heap} {locs : List Loc} {cells slots : Nat} {ls : Array Slot} {wx wz : va_W}, KX V y cells slots wx → KZ V z wz → va_P V.1 vwCl (wx ++ wz) H → va_D (AAs s) (wx ++ wz) → va_S (AAs s) s.heap H locs → lv_has ls 4 [(0, .ref b), (1, .ref (y 0)), (2, .ref (z 0)), (3, .int (nI jj))] → W p l e room_1 s m #[Value.ref b] below meth c H locs cells slots (lw_Z below #[Value.ref b] s) (F0 m 1546 ls [])) : W p l e room_1 s m #[Value.ref b] below meth c H locs cells slots (lw_Z below #[Value.ref b] s) (F0 m 310 ls []) := by
  obtain ⟨⟨hx, hb, hr, hml, hown, hts, hX, hbl, hlocks, hgv⟩, hg, hK, hE⟩ := id G
  have hbA : ¬ AAs s b := Nat.not_le.mpr hbl
  refine lv_aload_n hx hb dL_law_310 rfl (lv_at hl 1 rfl) ?_
  refine lv_aload_n hx hb dL_law_311 rfl (lv_at hl 0 rfl) ?_
  refine lv_iload_n hx hb dL_law_312 rfl (lv_at hl 3 rfl) ?_
  refine lv_iconst (v := 1) hx hb dL_law_313 (by decide) ?_
  refine lv_iadd hx hb dL_law_314 ?_
  refine va_sld hx hb hX hbl hbA hS (ixk 1 (by decide) hjj (by decide)) dL_law_315 ?_
  refine cx_2 G _ kx hP hD hS hl.1 (fun r0 H locs cells slots wx kx hP hD hS => ?_)
  refine lv_pop hx hb dL_law_319 rfl ?_
  refine lv_aload_n hx hb dL_law_320 rfl (lv_at hl 2 rfl) ?_
  refine lv_aload_n hx hb dL_law_321 rfl (lv_at hl 0 rfl) ?_
  refine lv_iload_n hx hb dL_law_322 rfl (lv_at hl 3 rfl) ?_
  refine lv_iconst (v := 1) hx hb dL_law_323 (by decide) ?_
  refine lv_iadd hx hb dL_law_324 ?_
  refine va_sld hx hb hX hbl hbA hS (ixk 1 (by decide) hjj (by decide)) dL_law_325 ?_
  refine cz_2 G _ kz hP hD hS kx.room (Nat.le_of_ble_eq_true rfl) hl.1 (fun r1 H locs wz kz hP hD hS => ?_)
  refine lv_pop hx hb dL_law_329 rfl ?_
  refine lv_goto (tgt := 1546) hx hb dL_law_330 (by decide) ?_
  exact hnext kx kz hP hD hS hl
theorem dL_law_1328 : decode cL_law 1328 = .ok (.aload_n 1, 1) := by decide +kernel
theorem dL_law_1329 : decode cL_law 1329 = .ok (.aload_n 0, 1) := by decide +kernel
theorem dL_law_1330 : decode cL_law 1330 = .ok (.iload_n 3, 1) := by decide +kernel
theorem dL_law_1331 : decode cL_law 1331 = .ok (.iconst 1, 1) := by decide +kernel
theorem dL_law_1332 : decode cL_law 1332 = .ok (.iadd, 1) := by decide +kernel
theorem dL_law_1333 : decode cL_law 1333 = .ok (.iaload, 1) := by decide +kernel
theorem dL_law_1334 : decode cL_law 1334 = .ok (.aload_n 0, 1) := by decide +kernel
theorem dL_law_1335 : decode cL_law 1335 = .ok (.iload_n 3, 1) := by decide +kernel
theorem dL_law_1336 : decode cL_law 1336 = .ok (.iconst 2, 1) := by decide +kernel
theorem dL_law_1337 : decode cL_law 1337 = .ok (.iadd, 1) := by decide +kernel
theorem dL_law_1338 : decode cL_law 1338 = .ok (.iaload, 1) := by decide +kernel
theorem dL_law_1339 : decode cL_law 1339 = .ok (.aload_n 0, 1) := by decide +kernel
theorem dL_law_1340 : decode cL_law 1340 = .ok (.iload_n 3, 1) := by decide +kernel
theorem dL_law_1341 : decode cL_law 1341 = .ok (.iconst 3, 1) := by decide +kernel
theorem dL_law_1342 : decode cL_law 1342 = .ok (.iadd, 1) := by decide +kernel
theorem dL_law_1343 : decode cL_law 1343 = .ok (.iaload, 1) := by decide +kernel
theorem dL_law_1347 : decode cL_law 1347 = .ok (.aload_n 2, 1) := by decide +kernel
theorem dL_law_1348 : decode cL_law 1348 = .ok (.aload_n 0, 1) := by decide +kernel
theorem dL_law_1349 : decode cL_law 1349 = .ok (.iload_n 3, 1) := by decide +kernel
theorem dL_law_1350 : decode cL_law 1350 = .ok (.iconst 1, 1) := by decide +kernel
theorem dL_law_1351 : decode cL_law 1351 = .ok (.iadd, 1) := by decide +kernel
theorem dL_law_1352 : decode cL_law 1352 = .ok (.iaload, 1) := by decide +kernel
theorem dL_law_1353 : decode cL_law 1353 = .ok (.aload_n 0, 1) := by decide +kernel
theorem dL_law_1354 : decode cL_law 1354 = .ok (.iload_n 3, 1) := by decide +kernel
theorem dL_law_1355 : decode cL_law 1355 = .ok (.iconst 2, 1) := by decide +kernel
theorem dL_law_1356 : decode cL_law 1356 = .ok (.iadd, 1) := by decide +kernel
theorem dL_law_1357 : decode cL_law 1357 = .ok (.iaload, 1) := by decide +kernel
theorem dL_law_1358 : decode cL_law 1358 = .ok (.aload_n 0, 1) := by decide +kernel
theorem dL_law_1359 : decode cL_law 1359 = .ok (.iload_n 3, 1) := by decide +kernel
theorem dL_law_1360 : decode cL_law 1360 = .ok (.iconst 3, 1) := by decide +kernel
theorem dL_law_1361 : decode cL_law 1361 = .ok (.iadd, 1) := by decide +kernel
theorem dL_law_1362 : decode cL_law 1362 = .ok (.iaload, 1) := by decide +kernel
theorem dL_law_1366 : decode cL_law 1366 = .ok (.if_icmp .eq 180, 3) := by decide +kernel
set_option maxHeartbeats 4000000 in
set_option maxRecDepth 100000 in
theorem lc_38 {p : Program} {e : Env} {s : State} {m : MethodId} {below : List Frame} {meth : Method} {c : Code} {l : Launch} {b Lk : Nat} {xs : Nat → Int32} {V : GV} {y z : Nat → Nat} {H : Heap} {locs : List Loc} {cells slots : Nat} {ls : Array Slot} {jj : Nat} {wx wz : va_W} (G : LCx p s m meth c b Lk xs V) (hjj : jj + 6 ≤ Lk ∧ Lk ≤ 3072) (kx : KX V y cells slots wx) (kz : KZ V z wz) (hP : va_P V.1 vwCl (wx ++ wz) H) (hD : va_D (AAs s) (wx ++ wz)) (hS : va_S (AAs s) s.heap H locs) (hl : lv_has ls 4 [(0, .ref b), (1, .ref (y 0)), (2, .ref (z 0)), (3, .int (nI jj))]) (hnext : ∀ {H : Heap} {locs : List Loc} {cells slots : Nat} {ls : Array Slot} {wx wz : va_W}, KX V y cells slots wx → KZ V z wz → va_P V.1 vwCl (wx ++ wz) H → va_D (AAs s) (wx ++ wz) → va_S (AAs s) s.heap H locs → lv_has ls 4 [(0, .ref b), (1, .ref (y 0)), (2, .ref (z 0)), (3, .int (nI jj))] → W p l e room_1 s m #[Value.ref b] below meth c H locs cells slots (lw_Z below #[Value.ref b] s) (F0 m 1546 ls [])) : W p l e room_1 s m #[Value.ref b] below meth c H locs cells slots (lw_Z below #[Value.ref b] s) (F0 m 1328 ls []) := by
  obtain ⟨⟨hx, hb, hr, hml, hown, hts, hX, hbl, hlocks, hgv⟩, hg, hK, hE⟩ := id G
  have hbA : ¬ AAs s b := Nat.not_le.mpr hbl
  refine lv_aload_n hx hb dL_law_1328 rfl (lv_at hl 1 rfl) ?_
  refine lv_aload_n hx hb dL_law_1329 rfl (lv_at hl 0 rfl) ?_
  refine lv_iload_n hx hb dL_law_1330 rfl (lv_at hl 3 rfl) ?_
  refine lv_iconst (v := 1) hx hb dL_law_1331 (by decide) ?_
  refine lv_iadd hx hb dL_law_1332 ?_
  refine va_sld hx hb hX hbl hbA hS (ixk 1 (by decide) hjj (by decide)) dL_law_1333 ?_
  refine lv_aload_n hx hb dL_law_1334 rfl (lv_at hl 0 rfl) ?_
  refine lv_iload_n hx hb dL_law_1335 rfl (lv_at hl 3 rfl) ?_
  refine lv_iconst (v := 2) hx hb dL_law_1336 (by decide) ?_
  refine lv_iadd hx hb dL_law_1337 ?_
  refine va_sld hx hb hX hbl hbA hS (ixk 2 (by decide) hjj (by decide)) dL_law_1338 ?_
  refine lv_aload_n hx hb dL_law_1339 rfl (lv_at hl 0 rfl) ?_
  refine lv_iload_n hx hb dL_law_1340 rfl (lv_at hl 3 rfl) ?_
  refine lv_iconst (v := 3) hx hb dL_law_1341 (by decide) ?_
  refine lv_iadd hx hb dL_law_1342 ?_
  refine va_sld hx hb hX hbl hbA hS (ixk 3 (by decide) hjj (by decide)) dL_law_1343 ?_
  refine cx_38 G _ _ _ kx hP hD hS hl.1 (fun r0 H locs cells slots wx kx ef0 hP hD hS => ?_)
  refine lv_aload_n hx hb dL_law_1347 rfl (lv_at hl 2 rfl) ?_
  refine lv_aload_n hx hb dL_law_1348 rfl (lv_at hl 0 rfl) ?_
  refine lv_iload_n hx hb dL_law_1349 rfl (lv_at hl 3 rfl) ?_
  refine lv_iconst (v := 1) hx hb dL_law_1350 (by decide) ?_
  refine lv_iadd hx hb dL_law_1351 ?_
  refine va_sld hx hb hX hbl hbA hS (ixk 1 (by decide) hjj (by decide)) dL_law_1352 ?_
  refine lv_aload_n hx hb dL_law_1353 rfl (lv_at hl 0 rfl) ?_
  refine lv_iload_n hx hb dL_law_1354 rfl (lv_at hl 3 rfl) ?_
  refine lv_iconst (v := 2) hx hb dL_law_1355 (by decide) ?_
  refine lv_iadd hx hb dL_law_1356 ?_
  refine va_sld hx hb hX hbl hbA hS (ixk 2 (by decide) hjj (by decide)) dL_law_1357 ?_
  refine lv_aload_n hx hb dL_law_1358 rfl (lv_at hl 0 rfl) ?_
  refine lv_iload_n hx hb dL_law_1359 rfl (lv_at hl 3 rfl) ?_
  refine lv_iconst (v := 3) hx hb dL_law_1360 (by decide) ?_
  refine lv_iadd hx hb dL_law_1361 ?_
  refine va_sld hx hb hX hbl hbA hS (ixk 3 (by decide) hjj (by decide)) dL_law_1362 ?_
  refine cz_38 G _ _ _ kz hP hD hS kx.room (Nat.le_of_ble_eq_true rfl) hl.1 (fun r1 H locs wz kz ef1 hP hD hS => ?_)
  refine lv_icmp_eq (tgt := 1546) hx hb dL_law_1366 (by decide) (fun _ => ?_) (fun c_1 => absurd (ef0.trans ef1.symm) c_1)
  exact hnext kx kz hP hD hS hl
theorem dL_law_1371 : decode cL_law 1371 = .ok (.aload_n 1, 1) := by decide +kernel
theorem dL_law_1372 : decode cL_law 1372 = .ok (.aload_n 0, 1) := by decide +kernel
theorem dL_law_1373 : decode cL_law 1373 = .ok (.iload_n 3, 1) := by decide +kernel
theorem dL_law_1374 : decode cL_law 1374 = .ok (.iconst 1, 1) := by decide +kernel
theorem dL_law_1375 : decode cL_law 1375 = .ok (.iadd, 1) := by decide +kernel
theorem dL_law_1376 : decode cL_law 1376 = .ok (.iaload, 1) := by decide +kernel
theorem dL_law_1377 : decode cL_law 1377 = .ok (.aload_n 0, 1) := by decide +kernel
theorem dL_law_1378 : decode cL_law 1378 = .ok (.iload_n 3, 1) := by decide +kernel
theorem dL_law_1379 : decode cL_law 1379 = .ok (.iconst 2, 1) := by decide +kernel
theorem dL_law_1380 : decode cL_law 1380 = .ok (.iadd, 1) := by decide +kernel
theorem dL_law_1381 : decode cL_law 1381 = .ok (.iaload, 1) := by decide +kernel
theorem dL_law_1382 : decode cL_law 1382 = .ok (.aload_n 0, 1) := by decide +kernel
theorem dL_law_1383 : decode cL_law 1383 = .ok (.iload_n 3, 1) := by decide +kernel
theorem dL_law_1384 : decode cL_law 1384 = .ok (.iconst 3, 1) := by decide +kernel
theorem dL_law_1385 : decode cL_law 1385 = .ok (.iadd, 1) := by decide +kernel
theorem dL_law_1386 : decode cL_law 1386 = .ok (.iaload, 1) := by decide +kernel
theorem dL_law_1387 : decode cL_law 1387 = .ok (.i2l, 1) := by decide +kernel
theorem dL_law_1388 : decode cL_law 1388 = .ok (.bipush 32, 2) := by decide +kernel
theorem dL_law_1390 : decode cL_law 1390 = .ok (.lshl, 1) := by decide +kernel
theorem dL_law_1391 : decode cL_law 1391 = .ok (.aload_n 0, 1) := by decide +kernel
theorem dL_law_1392 : decode cL_law 1392 = .ok (.iload_n 3, 1) := by decide +kernel
theorem dL_law_1393 : decode cL_law 1393 = .ok (.iconst 4, 1) := by decide +kernel
theorem dL_law_1394 : decode cL_law 1394 = .ok (.iadd, 1) := by decide +kernel
theorem dL_law_1395 : decode cL_law 1395 = .ok (.iaload, 1) := by decide +kernel
theorem dL_law_1396 : decode cL_law 1396 = .ok (.i2l, 1) := by decide +kernel
theorem q_8_159 : Cond.constantLong "BeaconDelayLaw" 177 (4294967295 : Int64) ∈ gw := gw_8 (i := 159) (by decide +kernel) rfl
theorem dL_law_1397 : decode cL_law 1397 = .ok (.ldc2_w 177, 3) := by decide +kernel
theorem dL_law_1400 : decode cL_law 1400 = .ok (.land, 1) := by decide +kernel
theorem dL_law_1401 : decode cL_law 1401 = .ok (.lor, 1) := by decide +kernel
theorem dL_law_1405 : decode cL_law 1405 = .ok (.pop2, 1) := by decide +kernel
theorem dL_law_1406 : decode cL_law 1406 = .ok (.aload_n 2, 1) := by decide +kernel
theorem dL_law_1407 : decode cL_law 1407 = .ok (.aload_n 0, 1) := by decide +kernel
theorem dL_law_1408 : decode cL_law 1408 = .ok (.iload_n 3, 1) := by decide +kernel
theorem dL_law_1409 : decode cL_law 1409 = .ok (.iconst 1, 1) := by decide +kernel
theorem dL_law_1410 : decode cL_law 1410 = .ok (.iadd, 1) := by decide +kernel
theorem dL_law_1411 : decode cL_law 1411 = .ok (.iaload, 1) := by decide +kernel
theorem dL_law_1412 : decode cL_law 1412 = .ok (.aload_n 0, 1) := by decide +kernel
theorem dL_law_1413 : decode cL_law 1413 = .ok (.iload_n 3, 1) := by decide +kernel
theorem dL_law_1414 : decode cL_law 1414 = .ok (.iconst 2, 1) := by decide +kernel
theorem dL_law_1415 : decode cL_law 1415 = .ok (.iadd, 1) := by decide +kernel
theorem dL_law_1416 : decode cL_law 1416 = .ok (.iaload, 1) := by decide +kernel
theorem dL_law_1417 : decode cL_law 1417 = .ok (.aload_n 0, 1) := by decide +kernel
theorem dL_law_1418 : decode cL_law 1418 = .ok (.iload_n 3, 1) := by decide +kernel
theorem dL_law_1419 : decode cL_law 1419 = .ok (.iconst 3, 1) := by decide +kernel
theorem dL_law_1420 : decode cL_law 1420 = .ok (.iadd, 1) := by decide +kernel
theorem dL_law_1421 : decode cL_law 1421 = .ok (.iaload, 1) := by decide +kernel
theorem dL_law_1422 : decode cL_law 1422 = .ok (.i2l, 1) := by decide +kernel
theorem dL_law_1423 : decode cL_law 1423 = .ok (.bipush 32, 2) := by decide +kernel
theorem dL_law_1425 : decode cL_law 1425 = .ok (.lshl, 1) := by decide +kernel
theorem dL_law_1426 : decode cL_law 1426 = .ok (.aload_n 0, 1) := by decide +kernel
theorem dL_law_1427 : decode cL_law 1427 = .ok (.iload_n 3, 1) := by decide +kernel
theorem dL_law_1428 : decode cL_law 1428 = .ok (.iconst 4, 1) := by decide +kernel
theorem dL_law_1429 : decode cL_law 1429 = .ok (.iadd, 1) := by decide +kernel
theorem dL_law_1430 : decode cL_law 1430 = .ok (.iaload, 1) := by decide +kernel
theorem dL_law_1431 : decode cL_law 1431 = .ok (.i2l, 1) := by decide +kernel
theorem dL_law_1432 : decode cL_law 1432 = .ok (.ldc2_w 177, 3) := by decide +kernel
theorem dL_law_1435 : decode cL_law 1435 = .ok (.land, 1) := by decide +kernel
theorem dL_law_1436 : decode cL_law 1436 = .ok (.lor, 1) := by decide +kernel
theorem dL_law_1440 : decode cL_law 1440 = .ok (.pop2, 1) := by decide +kernel
theorem dL_law_1441 : decode cL_law 1441 = .ok (.goto 105, 3) := by decide +kernel
set_option maxHeartbeats 4000000 in
set_option maxRecDepth 100000 in
theorem lc_39 {p : Program} {e : Env} {s : State} {m : MethodId} {below : List Frame} {meth : Method} {c : Code} {l : Launch} {b Lk : Nat} {xs : Nat → Int32} {V : GV} {y z : Nat → Nat} {H : Heap} {locs : List Loc} {cells slots : Nat} {ls : Array Slot} {jj : Nat} {wx wz : va_W} (G : LCx p s m meth c b Lk xs V) (hjj : jj + 6 ≤ Lk ∧ Lk ≤ 3072) (kx : KX V y cells slots wx) (kz : KZ V z wz) (hP : va_P V.1 vwCl (wx ++ wz) H) (hD : va_D (AAs s) (wx ++ wz)) (hS : va_S (AAs s) s.heap H locs) (hl : lv_has ls 4 [(0, .ref b), (1, .ref (y 0)), (2, .ref (z 0)), (3, .int (nI jj))]) (hnext : ∀ {H : Heap} {locs : List Loc} {cells slots : Nat} {ls : Array Slot} {wx wz : va_W}, KX V y cells slots wx → KZ V z wz → va_P V.1 vwCl (wx ++ wz) H → va_D (AAs s) (wx ++ wz) → va_S (AAs s) s.heap H locs → lv_has ls 4 [(0, .ref b), (1, .ref (y 0)), (2, .ref (z 0)), (3, .int (nI jj))] → W p l e room_1 s m #[Value.ref b] below meth c H locs cells slots (lw_Z below #[Value.ref b] s) (F0 m 1546 ls [])) : W p l e room_1 s m #[Value.ref b] below meth c H locs cells slots (lw_Z below #[Value.ref b] s) (F0 m 1371 ls []) := by
  obtain ⟨⟨hx, hb, hr, hml, hown, hts, hX, hbl, hlocks, hgv⟩, hg, hK, hE⟩ := id G
  have hbA : ¬ AAs s b := Nat.not_le.mpr hbl
  refine lv_aload_n hx hb dL_law_1371 rfl (lv_at hl 1 rfl) ?_
  refine lv_aload_n hx hb dL_law_1372 rfl (lv_at hl 0 rfl) ?_
  refine lv_iload_n hx hb dL_law_1373 rfl (lv_at hl 3 rfl) ?_
  refine lv_iconst (v := 1) hx hb dL_law_1374 (by decide) ?_
  refine lv_iadd hx hb dL_law_1375 ?_
  refine va_sld hx hb hX hbl hbA hS (ixk 1 (by decide) hjj (by decide)) dL_law_1376 ?_
  refine lv_aload_n hx hb dL_law_1377 rfl (lv_at hl 0 rfl) ?_
  refine lv_iload_n hx hb dL_law_1378 rfl (lv_at hl 3 rfl) ?_
  refine lv_iconst (v := 2) hx hb dL_law_1379 (by decide) ?_
  refine lv_iadd hx hb dL_law_1380 ?_
  refine va_sld hx hb hX hbl hbA hS (ixk 2 (by decide) hjj (by decide)) dL_law_1381 ?_
  refine lv_aload_n hx hb dL_law_1382 rfl (lv_at hl 0 rfl) ?_
  refine lv_iload_n hx hb dL_law_1383 rfl (lv_at hl 3 rfl) ?_
  refine lv_iconst (v := 3) hx hb dL_law_1384 (by decide) ?_
  refine lv_iadd hx hb dL_law_1385 ?_
  refine va_sld hx hb hX hbl hbA hS (ixk 3 (by decide) hjj (by decide)) dL_law_1386 ?_
  refine lv_i2l hx hb dL_law_1387 rfl ?_
  refine lv_bipush (v := 32) hx hb dL_law_1388 (by decide) ?_
  refine lv_lshl hx hb dL_law_1390 rfl ?_
  refine lv_aload_n hx hb dL_law_1391 rfl (lv_at hl 0 rfl) ?_
  refine lv_iload_n hx hb dL_law_1392 rfl (lv_at hl 3 rfl) ?_
  refine lv_iconst (v := 4) hx hb dL_law_1393 (by decide) ?_
  refine lv_iadd hx hb dL_law_1394 ?_
  refine va_sld hx hb hX hbl hbA hS (ixk 4 (by decide) hjj (by decide)) dL_law_1395 ?_
  refine lv_i2l hx hb dL_law_1396 rfl ?_
  refine lv_ldc2 (v := 4294967295) hx hb hown (hg _ q_8_159) dL_law_1397 ?_
  refine lv_land hx hb dL_law_1400 ?_
  refine lv_lor hx hb dL_law_1401 ?_
  refine cx_39 G _ _ _ kx hP hD hS hl.1 (fun r0 H locs cells slots wx kx hP hD hS => ?_)
  refine lv_pop2_2 hx hb dL_law_1405 rfl ?_
  refine lv_aload_n hx hb dL_law_1406 rfl (lv_at hl 2 rfl) ?_
  refine lv_aload_n hx hb dL_law_1407 rfl (lv_at hl 0 rfl) ?_
  refine lv_iload_n hx hb dL_law_1408 rfl (lv_at hl 3 rfl) ?_
  refine lv_iconst (v := 1) hx hb dL_law_1409 (by decide) ?_
  refine lv_iadd hx hb dL_law_1410 ?_
  refine va_sld hx hb hX hbl hbA hS (ixk 1 (by decide) hjj (by decide)) dL_law_1411 ?_
  refine lv_aload_n hx hb dL_law_1412 rfl (lv_at hl 0 rfl) ?_
  refine lv_iload_n hx hb dL_law_1413 rfl (lv_at hl 3 rfl) ?_
  refine lv_iconst (v := 2) hx hb dL_law_1414 (by decide) ?_
  refine lv_iadd hx hb dL_law_1415 ?_
  refine va_sld hx hb hX hbl hbA hS (ixk 2 (by decide) hjj (by decide)) dL_law_1416 ?_
  refine lv_aload_n hx hb dL_law_1417 rfl (lv_at hl 0 rfl) ?_
  refine lv_iload_n hx hb dL_law_1418 rfl (lv_at hl 3 rfl) ?_
  refine lv_iconst (v := 3) hx hb dL_law_1419 (by decide) ?_
  refine lv_iadd hx hb dL_law_1420 ?_
  refine va_sld hx hb hX hbl hbA hS (ixk 3 (by decide) hjj (by decide)) dL_law_1421 ?_
  refine lv_i2l hx hb dL_law_1422 rfl ?_
  refine lv_bipush (v := 32) hx hb dL_law_1423 (by decide) ?_
  refine lv_lshl hx hb dL_law_1425 rfl ?_
  refine lv_aload_n hx hb dL_law_1426 rfl (lv_at hl 0 rfl) ?_
  refine lv_iload_n hx hb dL_law_1427 rfl (lv_at hl 3 rfl) ?_
  refine lv_iconst (v := 4) hx hb dL_law_1428 (by decide) ?_
  refine lv_iadd hx hb dL_law_1429 ?_
  refine va_sld hx hb hX hbl hbA hS (ixk 4 (by decide) hjj (by decide)) dL_law_1430 ?_
  refine lv_i2l hx hb dL_law_1431 rfl ?_
  refine lv_ldc2 (v := 4294967295) hx hb hown (hg _ q_8_159) dL_law_1432 ?_
  refine lv_land hx hb dL_law_1435 ?_
  refine lv_lor hx hb dL_law_1436 ?_
  refine cz_39 G _ _ _ kz hP hD hS kx.room (Nat.le_of_ble_eq_true rfl) hl.1 (fun r1 H locs wz kz hP hD hS => ?_)
  refine lv_pop2_2 hx hb dL_law_1440 rfl ?_
  refine lv_goto (tgt := 1546) hx hb dL_law_1441 (by decide) ?_
  exact hnext kx kz hP hD hS hl
theorem tb_1 {i : Nat} {w : Cond} (h : tables_1_1[i]? = some w) : w ∈ lw_tbl := List.mem_append_right _ (List.mem_append_left _ (List.mem_of_getElem? h))
theorem tb_2 {i : Nat} {w : Cond} (h : tables_1_2[i]? = some w) : w ∈ lw_tbl := List.mem_append_right _ (List.mem_append_right _ (List.mem_append_left _ (List.mem_of_getElem? h)))
theorem tb_3 {i : Nat} {w : Cond} (h : tables_1_3[i]? = some w) : w ∈ lw_tbl := List.mem_append_right _ (List.mem_append_right _ (List.mem_append_right _ (List.mem_append_left _ (List.mem_of_getElem? h))))
theorem tb_4 {i : Nat} {w : Cond} (h : tables_1_4[i]? = some w) : w ∈ lw_tbl := List.mem_append_right _ (List.mem_append_right _ (List.mem_append_right _ (List.mem_append_right _ (List.mem_append_left _ (List.mem_of_getElem? h)))))
theorem tb_5 {i : Nat} {w : Cond} (h : tables_1_5[i]? = some w) : w ∈ lw_tbl := List.mem_append_right _ (List.mem_append_right _ (List.mem_append_right _ (List.mem_append_right _ (List.mem_append_right _ (List.mem_append_left _ (List.mem_of_getElem? h))))))
theorem tb_6 {i : Nat} {w : Cond} (h : tables_1_6[i]? = some w) : w ∈ lw_tbl := List.mem_append_right _ (List.mem_append_right _ (List.mem_append_right _ (List.mem_append_right _ (List.mem_append_right _ (List.mem_append_right _ (List.mem_append_left _ (List.mem_of_getElem? h)))))))
theorem tb_7 {i : Nat} {w : Cond} (h : tables_1_7[i]? = some w) : w ∈ lw_tbl := List.mem_append_right _ (List.mem_append_right _ (List.mem_append_right _ (List.mem_append_right _ (List.mem_append_right _ (List.mem_append_right _ (List.mem_append_right _ (List.mem_append_left _ (List.mem_of_getElem? h))))))))
theorem tb_8 {i : Nat} {w : Cond} (h : tables_1_8[i]? = some w) : w ∈ lw_tbl := List.mem_append_right _ (List.mem_append_right _ (List.mem_append_right _ (List.mem_append_right _ (List.mem_append_right _ (List.mem_append_right _ (List.mem_append_right _ (List.mem_append_right _ ((List.mem_of_getElem? h)))))))))

def vF (l6 : List Nat) (S : Nat → Nat × Nat) (k : Nat) : ClassId := if k < 100 then l6.getD k 0 else if k < 200 then (S (k - 100)).1 else (S (k - 200)).2
theorem vF_1 {l6 : List Nat} {S : Nat → Nat × Nat} {i : Nat} (h : i < 100) : vF l6 S (100 + i) = (S i).1 := by
  unfold vF; rw [if_neg (by omega), if_pos (by omega), Nat.add_sub_cancel_left]
theorem vF_2 {l6 : List Nat} {S : Nat → Nat × Nat} {i : Nat} : vF l6 S (200 + i) = (S i).2 := by
  unfold vF; rw [if_neg (by omega), if_neg (by omega), Nat.add_sub_cancel_left]
def subl : List Cond → List Cond → Bool
  | [], _ => true
  | _ :: _, [] => false
  | a :: l, b :: r => if a = b then subl l r else subl (a :: l) r
theorem subl_in : ∀ (r l : List Cond), subl l r = true → ∀ w ∈ l, w ∈ r
  | [], [], _, w, hw => absurd hw List.not_mem_nil
  | [], a :: l, h, _, _ => by simp [subl] at h
  | b :: r, [], _, w, hw => absurd hw List.not_mem_nil
  | b :: r, a :: l, h, w, hw => by
    unfold subl at h
    by_cases e : a = b
    · rw [if_pos e] at h
      rcases List.mem_cons.mp hw with q | q
      · rw [q, e]; exact List.mem_cons_self
      · exact List.mem_cons_of_mem _ (subl_in r l h w q)
    · rw [if_neg e] at h
      exact List.mem_cons_of_mem _ (subl_in r (a :: l) h w hw)
def sV (q : String × Nat × String × List Int32) : Term := .field (.string q.1 q.2.1) "java/lang/String" "value" "[B"
def sC (q : String × Nat × String × List Int32) : List Cond := [Cond.exactly (.string q.1 q.2.1) "java/lang/String", Cond.eq (.field (.string q.1 q.2.1) "java/lang/String" "coder" "B") (.int 0), Cond.arrayOf (sV q) .byte, Cond.eq (.length (sV q)) (.int (Int32.ofNat q.2.2.2.length))] ++ (List.range q.2.2.2.length).map (fun j => Cond.eq (.elem (sV q) (.int (Int32.ofNat j))) (.int (q.2.2.2.getD j 0)))
theorem sC_sub : subl (sL.flatMap sC) (flatC (Jvm.Cond.and given_1 narrow_1)) = true := by decide +kernel
theorem sC_in {i : Nat} {q : String × Nat × String × List Int32} (h : sL[i]? = some q) {w : Cond} (hw : w ∈ sC q) : w ∈ flatC (Jvm.Cond.and given_1 narrow_1) := subl_in _ _ sC_sub w (List.mem_flatMap.mpr ⟨q, List.mem_of_getElem? h, hw⟩)
theorem sL_num : sL.length = 37 := rfl
theorem sR_in {i : Nat} {q : String × Nat × String × List Int32} (h : sL[i]? = some q) : Cond.stringRef q.1 q.2.1 q.2.2.1 ∈ lw_tbl := by
  match i, h with
  | 0, h => cases h; exact (tb_2 (i := 124) (by decide +kernel))
  | 1, h => cases h; exact (tb_2 (i := 207) (by decide +kernel))
  | 2, h => cases h; exact (tb_2 (i := 237) (by decide +kernel))
  | 3, h => cases h; exact (tb_3 (i := 2) (by decide +kernel))
  | 4, h => cases h; exact (tb_3 (i := 7) (by decide +kernel))
  | 5, h => cases h; exact (tb_3 (i := 12) (by decide +kernel))
  | 6, h => cases h; exact (tb_3 (i := 13) (by decide +kernel))
  | 7, h => cases h; exact (tb_3 (i := 14) (by decide +kernel))
  | 8, h => cases h; exact (tb_3 (i := 15) (by decide +kernel))
  | 9, h => cases h; exact (tb_3 (i := 18) (by decide +kernel))
  | 10, h => cases h; exact (tb_3 (i := 23) (by decide +kernel))
  | 11, h => cases h; exact (tb_3 (i := 24) (by decide +kernel))
  | 12, h => cases h; exact (tb_3 (i := 29) (by decide +kernel))
  | 13, h => cases h; exact (tb_3 (i := 30) (by decide +kernel))
  | 14, h => cases h; exact (tb_3 (i := 35) (by decide +kernel))
  | 15, h => cases h; exact (tb_3 (i := 48) (by decide +kernel))
  | 16, h => cases h; exact (tb_3 (i := 49) (by decide +kernel))
  | 17, h => cases h; exact (tb_3 (i := 54) (by decide +kernel))
  | 18, h => cases h; exact (tb_3 (i := 67) (by decide +kernel))
  | 19, h => cases h; exact (tb_3 (i := 68) (by decide +kernel))
  | 20, h => cases h; exact (tb_3 (i := 69) (by decide +kernel))
  | 21, h => cases h; exact (tb_3 (i := 70) (by decide +kernel))
  | 22, h => cases h; exact (tb_3 (i := 71) (by decide +kernel))
  | 23, h => cases h; exact (tb_3 (i := 72) (by decide +kernel))
  | 24, h => cases h; exact (tb_3 (i := 77) (by decide +kernel))
  | 25, h => cases h; exact (tb_3 (i := 78) (by decide +kernel))
  | 26, h => cases h; exact (tb_3 (i := 79) (by decide +kernel))
  | 27, h => cases h; exact (tb_3 (i := 80) (by decide +kernel))
  | 28, h => cases h; exact (tb_3 (i := 81) (by decide +kernel))
  | 29, h => cases h; exact (tb_3 (i := 82) (by decide +kernel))
  | 30, h => cases h; exact (tb_3 (i := 83) (by decide +kernel))
  | 31, h => cases h; exact (tb_3 (i := 84) (by decide +kernel))
  | 32, h => cases h; exact (tb_3 (i := 85) (by decide +kernel))
  | 33, h => cases h; exact (tb_3 (i := 86) (by decide +kernel))
  | 34, h => cases h; exact (tb_3 (i := 87) (by decide +kernel))
  | 35, h => cases h; exact (tb_6 (i := 132) (by decide +kernel))
  | 36, h => cases h; exact (tb_6 (i := 138) (by decide +kernel))
  | n + 37, h => exact absurd (List.getElem?_eq_some_iff.mp h).1 (by rw [sL_num]; omega)
theorem sx_of {s : State} {b : Nat} {A : Nat → Prop} (hts : ∀ w ∈ lw_tbl, w.before #[Value.ref b] s = true) (hs : ∀ w ∈ flatC (Jvm.Cond.and given_1 narrow_1), w.before #[Value.ref b] s = true) (hA : ∀ a : Nat, a < s.heap.size → ¬ A a) (i : Nat) : ∃ at' : Nat × Nat, ∀ q : String × Nat × String × List Int32, sL[i]? = some q → vk_R q.1 q.2.1 q.2.2.1 at'.1 s ∧ va_O "java/lang/String" at'.1 A s s.heap ∧ va_OF "java/lang/String" "coder" "B" (.int 0) at'.1 A s s.heap ∧ va_OF "java/lang/String" "value" "[B" (.ref at'.2) at'.1 A s s.heap ∧ va_T .byte at'.2 q.2.2.2.length (fun j => .int (q.2.2.2.getD j 0)) A s s.heap := by
  cases hq : sL[i]? with
  | none => exact ⟨(0, 0), fun q h => by cases h⟩
  | some q =>
    have hin : ∀ w ∈ sC q, w.before #[Value.ref b] s = true := fun w hw => hs w (sC_in hq hw)
    have h0 : (Cond.exactly (.string q.1 q.2.1) "java/lang/String").before #[Value.ref b] s = true := hin _ (List.mem_append_left _ (List.mem_of_getElem? (i := 0) rfl))
    obtain ⟨a, -, -, -, ha, -⟩ := Cond.exactly_spec (args := #[Value.ref b]) (first := s) (o := none) (s := s) (idx := []) (t := .string q.1 q.2.1) (cls := "java/lang/String") h0
    have hN : q.2.2.2.length < 2 ^ 31 := Nat.lt_of_le_of_lt (sL_len hq).2 (by decide)
    obtain ⟨t, et, ht⟩ := va_Tof (tm := sV q) (ty := .byte) (N := q.2.2.2.length) (f := fun j => .int (q.2.2.2.getD j 0)) (A := A) hN (hin _ (List.mem_append_left _ (List.mem_of_getElem? (i := 2) rfl))) (va_eqt (hin _ (List.mem_append_left _ (List.mem_of_getElem? (i := 3) rfl)))) (fun j hj => va_eqt (hin _ (List.mem_append_right _ (List.mem_map.mpr ⟨j, List.mem_range.mpr hj, rfl⟩)))) hA
    exact ⟨(a, t), fun q' h => by cases h; exact ⟨vk_R.of (hts _ (sR_in hq)) ha, va_Oof h0 ha hA, vk_OFof ha (va_eqt (hin _ (List.mem_append_left _ (List.mem_of_getElem? (i := 1) rfl)))) hA, vk_OFof ha et hA, ht⟩⟩

theorem q_1_191 : Cond.instantiable "BeaconDelay$Calm" 2 ∈ gw := gw_1 (i := 191) (by decide +kernel) rfl
theorem q_1_30 : Cond.instantiable "BeaconDelay$Coast" 18 ∈ gw := gw_1 (i := 30) (by decide +kernel) rfl
theorem q_2_12 : Cond.instantiable "BeaconDelay$Image" 5 ∈ gw := gw_2 (i := 12) (by decide +kernel) rfl
theorem q_1_166 : Cond.instantiable "BeaconDelay$Laws" 6 ∈ gw := gw_1 (i := 166) (by decide +kernel) rfl
theorem q_1_206 : Cond.instantiable "BeaconDelay$Past" 4 ∈ gw := gw_1 (i := 206) (by decide +kernel) rfl
theorem q_1_127 : Cond.instantiable "BeaconDelay$Reader" 9 ∈ gw := gw_1 (i := 127) (by decide +kernel) rfl
theorem q_1_232 : Cond.instantiable "BeaconDelay$Tray" 3 ∈ gw := gw_1 (i := 232) (by decide +kernel) rfl
theorem q_1_22 : Cond.instantiable "BeaconDelay" 15 ∈ gw := gw_1 (i := 22) (by decide +kernel) rfl
theorem q_5_214 : Cond.instantiable "BeaconDelayModel" 40 ∈ gw := gw_5 (i := 214) (by decide +kernel) rfl
theorem q_1_124 : Cond.arrayClass FieldType.byte ∈ gw := gw_1 (i := 124) (by decide +kernel) rfl
theorem q_2_11 : Cond.arrayClass FieldType.long ∈ gw := gw_2 (i := 11) (by decide +kernel) rfl
theorem q_6_105 : Cond.arrayClass FieldType.boolean ∈ gw := gw_6 (i := 105) (by decide +kernel) rfl
set_option maxHeartbeats 4000000 in
set_option maxRecDepth 100000 in
theorem env_of {s : State} {b : Nat} (hts : ∀ w ∈ lw_tbl, w.before #[Value.ref b] s = true) (hgv : (Jvm.Cond.and given_1 narrow_1).before #[Value.ref b] s = true) : ∃ V : GV, va_K V.1 vwCl (tyV V) s ∧ En V (fun q : Nat => s.heap.size ≤ q) s s.heap := by
  have hg : ∀ w ∈ gw, w.before #[Value.ref b] s = true := fun w h => hts w (gw_lw w h)
  have hs := flat_of_before _ hgv
  have hA : ∀ a : Nat, a < s.heap.size → ¬ (fun q : Nat => s.heap.size ≤ q) a := fun a h => Nat.not_le.mpr h
  obtain ⟨c0, i0, k0⟩ := u_known (C := RX0) (T := TX0) (N := 2) (n := 2) hg inX0 (hg _ q_1_191)
  obtain ⟨c1, i1, k1⟩ := u_known (C := RX1) (T := TX1) (N := 18) (n := 18) hg inX1 (hg _ q_1_30)
  obtain ⟨c2, i2, k2⟩ := u_known (C := RX2) (T := TX2) (N := 7) (n := 7) hg inX2 (hg _ q_5_95)
  obtain ⟨c3, i3, k3⟩ := u_known (C := RX3) (T := TX3) (N := 5) (n := 5) hg inX3 (hg _ q_2_12)
  obtain ⟨c4, i4, k4⟩ := u_known (C := RX4) (T := TX4) (N := 6) (n := 6) hg inX4 (hg _ q_1_166)
  obtain ⟨c5, i5, k5⟩ := u_known (C := RX5) (T := TX5) (N := 4) (n := 4) hg inX5 (hg _ q_1_206)
  obtain ⟨c6, i6, k6⟩ := u_known (C := RX6) (T := TX6) (N := 9) (n := 9) hg inX6 (hg _ q_1_127)
  obtain ⟨c7, i7, k7⟩ := u_known (C := RX7) (T := TX7) (N := 3) (n := 3) hg inX7 (hg _ q_1_232)
  obtain ⟨c8, i8, k8⟩ := u_known (C := RX8) (T := TX8) (N := 17) (n := 17) hg inX8 (hg _ q_4_57)
  obtain ⟨c9, i9, k9⟩ := u_known (C := RX9) (T := TX9) (N := 15) (n := 15) hg inX9 (hg _ q_1_22)
  obtain ⟨c10, i10, k10⟩ := u_known (C := RX10) (T := TX10) (N := 40) (n := 40) hg inX10 (hg _ q_5_214)
  obtain ⟨dC, dI, hKc⟩ : ∃ (dC : Nat → ClassId) (dI : Nat → Nat → Nat), ∀ (k : Nat) (q : vw_C), vwCl[k]? = some q → u_Kn s q.1 q.2.1 q.2.2 (dC k) (dI k) := by
    refine ⟨fun k => [c0, c1, c2, c3, c4, c5, c6, c7, c8, c9, c10].getD k c0, fun k => [i0, i1, i2, i3, i4, i5, i6, i7, i8, i9, i10].getD k i0, ?_⟩
    intro k q hq
    match k, hq with
    | 0, hq => cases hq; exact k0
    | 1, hq => cases hq; exact k1
    | 2, hq => cases hq; exact k2
    | 3, hq => cases hq; exact k3
    | 4, hq => cases hq; exact k4
    | 5, hq => cases hq; exact k5
    | 6, hq => cases hq; exact k6
    | 7, hq => cases hq; exact k7
    | 8, hq => cases hq; exact k8
    | 9, hq => cases hq; exact k9
    | 10, hq => cases hq; exact k10
    | k + 11, hq => simp [vwCl] at hq
  obtain ⟨cI, kI, pI, aI1, aI2, aI3⟩ := Cond.arrayClass_spec (hg _ q_1_125)
  obtain ⟨cB, kB, pB, aB1, aB2, aB3⟩ := Cond.arrayClass_spec (hg _ q_1_124)
  obtain ⟨cJ, kJ, pJ, aJ1, aJ2, aJ3⟩ := Cond.arrayClass_spec (hg _ q_2_11)
  obtain ⟨cZ, kZ, pZ, aZ1, aZ2, aZ3⟩ := Cond.arrayClass_spec (hg _ q_6_105)
  have hT := (hts (Cond.arrayOver (FieldType.object "BeaconDelay$Tray")) (tb_1 (i := 229) (by decide +kernel)))
  obtain ⟨pT, cT, kT, tT1, tT2, tT3, tT4, tT5⟩ := Cond.arrayOver_spec hT
  have hM := (hts (Cond.arrayOver (FieldType.object "BeaconDelay$Image")) (tb_1 (i := 231) (by decide +kernel)))
  obtain ⟨pM, cM, kM, tM1, tM2, tM3, tM4, tM5⟩ := Cond.arrayOver_spec hM
  obtain ⟨tp, etp, htp⟩ := va_Tof (tm := (.static "BeaconDelay" "POWER" "[I")) (ty := .int) (N := 5) (f := fun j => .int (pw j)) (A := fun q : Nat => s.heap.size ≤ q) (by decide) (hs (Cond.arrayOf (.static "BeaconDelay" "POWER" "[I") .int) (by decide +kernel)) (va_eqt (hs (Cond.eq (.length (.static "BeaconDelay" "POWER" "[I")) (.int 5)) (by decide +kernel))) (fun j hj => match j, hj with | 0, _ => va_eqt (hs (Cond.eq (.elem (.static "BeaconDelay" "POWER" "[I") (.int 0)) (.int 1)) (by decide +kernel)) | 1, _ => va_eqt (hs (Cond.eq (.elem (.static "BeaconDelay" "POWER" "[I") (.int 1)) (.int 10)) (by decide +kernel)) | 2, _ => va_eqt (hs (Cond.eq (.elem (.static "BeaconDelay" "POWER" "[I") (.int 2)) (.int 100)) (by decide +kernel)) | 3, _ => va_eqt (hs (Cond.eq (.elem (.static "BeaconDelay" "POWER" "[I") (.int 3)) (.int 1000)) (by decide +kernel)) | 4, _ => va_eqt (hs (Cond.eq (.elem (.static "BeaconDelay" "POWER" "[I") (.int 4)) (.int 10000)) (by decide +kernel)) | n + 5, h => absurd h (by omega)) hA
  obtain ⟨tm, etm, htm⟩ := va_Tof (tm := (.static "BeaconDelay" "MOST_MET" "[I")) (ty := .int) (N := 5) (f := fun j => .int (mmt j)) (A := fun q : Nat => s.heap.size ≤ q) (by decide) (hs (Cond.arrayOf (.static "BeaconDelay" "MOST_MET" "[I") .int) (by decide +kernel)) (va_eqt (hs (Cond.eq (.length (.static "BeaconDelay" "MOST_MET" "[I")) (.int 5)) (by decide +kernel))) (fun j hj => match j, hj with | 0, _ => va_eqt (hs (Cond.eq (.elem (.static "BeaconDelay" "MOST_MET" "[I") (.int 0)) (.int 1)) (by decide +kernel)) | 1, _ => va_eqt (hs (Cond.eq (.elem (.static "BeaconDelay" "MOST_MET" "[I") (.int 1)) (.int 6)) (by decide +kernel)) | 2, _ => va_eqt (hs (Cond.eq (.elem (.static "BeaconDelay" "MOST_MET" "[I") (.int 2)) (.int 46)) (by decide +kernel)) | 3, _ => va_eqt (hs (Cond.eq (.elem (.static "BeaconDelay" "MOST_MET" "[I") (.int 3)) (.int 406)) (by decide +kernel)) | 4, _ => va_eqt (hs (Cond.eq (.elem (.static "BeaconDelay" "MOST_MET" "[I") (.int 4)) (.int 3646)) (by decide +kernel)) | n + 5, h => absurd h (by omega)) hA
  obtain ⟨S9, hS9⟩ := Classical.axiomOfChoice (sx_of (A := fun q : Nat => s.heap.size ≤ q) hts hs hA)
  refine ⟨((dC, dI), vF [cI, cB, cJ, cZ, cT, cM] S9, tp, tm), ⟨hKc, ?_⟩, ?_⟩
  · intro k q hq
    match k, hq with
    | 0, hq => have e9 := Option.some.inj (hq : some (cI, FieldType.int) = some q); subst e9; exact ⟨fun n z => ⟨fun k h => (by cases h), kI, aI2, pI, aI3⟩, aI1⟩
    | 1, hq => have e9 := Option.some.inj (hq : some (cB, FieldType.byte) = some q); subst e9; exact ⟨fun n z => ⟨fun k h => (by cases h), kB, aB2, pB, aB3⟩, aB1⟩
    | 2, hq => have e9 := Option.some.inj (hq : some (cJ, FieldType.long) = some q); subst e9; exact ⟨fun n z => ⟨fun k h => (by cases h), kJ, aJ2, pJ, aJ3⟩, aJ1⟩
    | 3, hq => have e9 := Option.some.inj (hq : some (cZ, FieldType.boolean) = some q); subst e9; exact ⟨fun n z => ⟨fun k h => (by cases h), kZ, aZ2, pZ, aZ3⟩, aZ1⟩
    | 4, hq => have e9 := Option.some.inj (hq : some (cT, FieldType.object "BeaconDelay$Tray") = some q); subst e9; exact ⟨fun n z => ⟨fun k h => (by cases h), kT, tT3, pT, tT4⟩, kT, pT, tT3, tT4, tT1, tT5⟩
    | 5, hq => have e9 := Option.some.inj (hq : some (cM, FieldType.object "BeaconDelay$Image") = some q); subst e9; exact ⟨fun n z => ⟨fun k h => (by cases h), kM, tM3, pM, tM4⟩, kM, pM, tM3, tM4, tM1, tM5⟩
    | k + 6, hq => simp [tyV] at hq
  · refine ⟨⟨va_Zof (hts (Cond.laysStatic "BeaconDelay" "POWER" "[I") (tb_3 (i := 17) (by decide +kernel))) (hg _ q_1_1) etp hA, htp⟩, ⟨va_Zof (hts (Cond.laysStatic "BeaconDelay" "MOST_MET" "[I") (tb_4 (i := 63) (by decide +kernel))) (hg _ q_1_1) etm hA, htm⟩, ⟨va_AO.of hT, va_AO.of hM⟩, List.forall_mem_cons.mpr ⟨va_Nw.of rfl (hts (Cond.methodLinkNest "BeaconDelay" 15 yX1_init "BeaconDelay") (tb_1 (i := 31) (by decide +kernel))), List.forall_mem_cons.mpr ⟨va_Nw.of rfl (hts (Cond.methodLinkNest "BeaconDelay$Reader" 11 yX1_init "BeaconDelay") (tb_1 (i := 133) (by decide +kernel))), List.forall_mem_cons.mpr ⟨va_Nw.of rfl (hts (Cond.methodLinkNest "BeaconDelay" 40 yX0_init "BeaconDelay") (tb_1 (i := 192) (by decide +kernel))), List.forall_mem_cons.mpr ⟨va_Nw.of rfl (hts (Cond.methodLinkNest "BeaconDelay" 47 yX5_init "BeaconDelay") (tb_1 (i := 207) (by decide +kernel))), List.forall_mem_cons.mpr ⟨va_Nw.of rfl (hts (Cond.methodLinkNest "BeaconDelay" 68 yX7_init "BeaconDelay") (tb_1 (i := 233) (by decide +kernel))), List.forall_mem_cons.mpr ⟨va_Nw.of rfl (hts (Cond.methodLinkNest "BeaconDelay" 69 yX3_init "BeaconDelay") (tb_2 (i := 13) (by decide +kernel))), List.forall_mem_cons.mpr ⟨va_Nw.of rfl (hts (Cond.methodLinkNest "BeaconDelay$Image" 9 yX1_init "BeaconDelay") (tb_2 (i := 18) (by decide +kernel))), List.forall_mem_cons.mpr ⟨va_Nw.of rfl (hts (Cond.methodLinkNest "BeaconDelay$Ways" 94 yX9_stackIn "BeaconDelay") (tb_4 (i := 149) (by decide +kernel))), List.forall_mem_cons.mpr ⟨va_Nw.of rfl (hts (Cond.methodLinkNest "BeaconDelay$Forcing" 67 yX9_stackIn "BeaconDelay") (tb_5 (i := 137) (by decide +kernel))), fun _ h => absurd h List.not_mem_nil⟩⟩⟩⟩⟩⟩⟩⟩⟩, List.forall_mem_cons.mpr ⟨va_Nw.of rfl (hts (Cond.fieldLinkNest "BeaconDelay$Reader" 128 "BeaconDelay" "POWER" "[I" "BeaconDelay") (tb_3 (i := 16) (by decide +kernel))), List.forall_mem_cons.mpr ⟨va_Nw.of rfl (hts (Cond.fieldLinkNest "BeaconDelay$Laws" 43 "BeaconDelay" "POWER" "[I" "BeaconDelay") (tb_3 (i := 149) (by decide +kernel))), List.forall_mem_cons.mpr ⟨va_Nw.of rfl (hts (Cond.fieldLinkNest "BeaconDelay$Ways" 23 "BeaconDelay" "MOST_MET" "[I" "BeaconDelay") (tb_4 (i := 62) (by decide +kernel))), List.forall_mem_cons.mpr ⟨va_Nw.of rfl (hts (Cond.fieldLinkNest "BeaconDelay$Ways" 35 "BeaconDelay" "POWER" "[I" "BeaconDelay") (tb_4 (i := 64) (by decide +kernel))), fun _ h => absurd h List.not_mem_nil⟩⟩⟩⟩, ⟨va_Zof (hts (Cond.laysStatic "java/lang/String" "COMPACT_STRINGS" "Z") (tb_2 (i := 138) (by decide +kernel))) (hg _ q_1_11) (va_eqt (hs (Cond.eq (.static "java/lang/String" "COMPACT_STRINGS" "Z") (.int 1)) (by decide +kernel))) hA, va_Zqof (hts (Cond.laysStatic "jdk/internal/util/Preconditions" "SIOOBE_FORMATTER" "Ljava/util/function/BiFunction;") (tb_2 (i := 177) (by decide +kernel))) (hg _ q_1_14) (hs (Cond.isRef (.static "jdk/internal/util/Preconditions" "SIOOBE_FORMATTER" "Ljava/util/function/BiFunction;")) (by decide +kernel)) hA⟩, fun i q hi => ?_⟩
    have h1 := hS9 i q hi
    have h2 : i < 100 := by have q1 := (List.getElem?_eq_some_iff.mp hi).1; rw [sL_num] at q1; omega
    have e1 := vF_1 (l6 := [cI, cB, cJ, cZ, cT, cM]) (S := S9) h2
    have e2 := vF_2 (l6 := [cI, cB, cJ, cZ, cT, cM]) (S := S9) (i := i)
    show vk_R q.1 q.2.1 q.2.2.1 (vF [cI, cB, cJ, cZ, cT, cM] S9 (100 + i)) s ∧ va_O "java/lang/String" (vF [cI, cB, cJ, cZ, cT, cM] S9 (100 + i)) _ s s.heap ∧ va_OF "java/lang/String" "coder" "B" (.int 0) (vF [cI, cB, cJ, cZ, cT, cM] S9 (100 + i)) _ s s.heap ∧ va_OF "java/lang/String" "value" "[B" (.ref (vF [cI, cB, cJ, cZ, cT, cM] S9 (200 + i))) (vF [cI, cB, cJ, cZ, cT, cM] S9 (100 + i)) _ s s.heap ∧ va_T .byte (vF [cI, cB, cJ, cZ, cT, cM] S9 (200 + i)) q.2.2.2.length (fun j => .int (q.2.2.2.getD j 0)) _ s s.heap
    rw [e1, e2]
    exact h1
theorem zT {l : List (Int × Int)} (h : (l.all fun q => decide (q.1 ≤ 0) && decide (0 ≤ q.2)) = true) : ivT (fun k => l.getD k (-2147483648, 2147483647)) (fun _ => 0) := fun j => by
  have z : (0 : Int32).toInt = 0 := by decide
  have e : l.getD j (-2147483648, 2147483647) = (l[j]?).getD (-2147483648, 2147483647) := List.getD_eq_getElem?_getD
  show (l.getD j (-2147483648, 2147483647)).1 ≤ (0 : Int32).toInt ∧ (0 : Int32).toInt ≤ (l.getD j (-2147483648, 2147483647)).2
  rw [e, z]
  cases hq : l[j]? with
  | none => exact ⟨by decide, by decide⟩
  | some q =>
    have h1 := List.all_eq_true.mp h q (List.mem_of_getElem? hq)
    rw [Bool.and_eq_true, decide_eq_true_eq, decide_eq_true_eq] at h1
    exact h1
def xW (V : GV) (y : Nat → Nat) : va_W := [(y 0, .inr (9, [.ref (y 1), .int 0, .ref (y 2), .ref (y 10), .ref (y 19), .ref (y 25), .ref (y 26), .ref (y 30), .ref (y 31), .ref (y 32), .null, .null, .int 0, .int 0, .int 0])), (y 1, aB V 900 (fun _ => 0)), (y 2, .inr (1, [.int 0, .int 0, .int 0, .int 0, .int 0, .int 0, .ref (y 3), .ref (y 4), .ref (y 5), .ref (y 6), .ref (y 7), .ref (y 8), .ref (y 9), .int 0, .int 0, .int 0, .int 0, .int 0])), (y 3, aI V 4 (fun _ => 0)), (y 4, aI V 4 (fun _ => 0)), (y 5, aI V 4 (fun _ => 0)), (y 6, aI V 8 (fun _ => 0)), (y 7, aI V 8 (fun _ => 0)), (y 8, aI V 8 (fun _ => 0)), (y 9, aI V 900 (fun _ => 0)), (y 10, .inr (6, [.ref (y 11), .int 0, .int (-1), .ref (y 1), .int 0, .int 0, .int 0, .int 0, .int 0])), (y 11, .inr (1, [.int 0, .int 0, .int 0, .int 0, .int 0, .int 0, .ref (y 12), .ref (y 13), .ref (y 14), .ref (y 15), .ref (y 16), .ref (y 17), .ref (y 18), .int 0, .int 0, .int 0, .int 0, .int 0])), (y 12, aI V 4 (fun _ => 0)), (y 13, aI V 4 (fun _ => 0)), (y 14, aI V 4 (fun _ => 0)), (y 15, aI V 8 (fun _ => 0)), (y 16, aI V 8 (fun _ => 0)), (y 17, aI V 8 (fun _ => 0)), (y 18, aI V 900 (fun _ => 0)), (y 19, .inr (4, [.ref (y 2), .ref (y 20), .ref (y 21), .ref (y 22), .ref (y 23), .ref (y 24)])), (y 20, aI V 2000 (fun _ => 0)), (y 21, aI V 6 (fun _ => 0)), (y 22, aI V 64 (fun _ => 0)), (y 23, aI V 10 (fun _ => 0)), (y 24, aI V 10 (fun _ => 0)), (y 25, .inr (0, [.int 0, .int 0])), (y 26, .inr (5, [.ref (y 27), .ref (y 28), .ref (y 29), .int 0])), (y 27, aI V 10 (fun _ => 0)), (y 28, aI V 10 (fun _ => 0)), (y 29, aI V 10 (fun _ => 0)), (y 30, aT V 4 (va_up (va_up (va_up (va_up (fun _ => none) 0 (some (y 33))) 1 (some (y 35))) 2 (some (y 37))) 3 (some (y 39)))), (y 31, aM V 2 (va_up (va_up (fun _ => none) 0 (some (y 41))) 1 (some (y 50)))), (y 32, aI V 10 (fun _ => 0)), (y 33, .inr (7, [.ref (y 34), .int (-1), .int 0])), (y 34, aJ V 40 (fun _ => 0)), (y 35, .inr (7, [.ref (y 36), .int (-1), .int 0])), (y 36, aJ V 40 (fun _ => 0)), (y 37, .inr (7, [.ref (y 38), .int (-1), .int 0])), (y 38, aJ V 40 (fun _ => 0)), (y 39, .inr (7, [.ref (y 40), .int (-1), .int 0])), (y 40, aJ V 40 (fun _ => 0)), (y 41, .inr (3, [.ref (y 42), .int 0, .int 0, .int 0, .int 0])), (y 42, .inr (1, [.int 0, .int 0, .int 0, .int 0, .int 0, .int 0, .ref (y 43), .ref (y 44), .ref (y 45), .ref (y 46), .ref (y 47), .ref (y 48), .ref (y 49), .int 0, .int 0, .int 0, .int 0, .int 0])), (y 43, aI V 4 (fun _ => 0)), (y 44, aI V 4 (fun _ => 0)), (y 45, aI V 4 (fun _ => 0)), (y 46, aI V 8 (fun _ => 0)), (y 47, aI V 8 (fun _ => 0)), (y 48, aI V 8 (fun _ => 0)), (y 49, aI V 900 (fun _ => 0)), (y 50, .inr (3, [.ref (y 51), .int 0, .int 0, .int 0, .int 0])), (y 51, .inr (1, [.int 0, .int 0, .int 0, .int 0, .int 0, .int 0, .ref (y 52), .ref (y 53), .ref (y 54), .ref (y 55), .ref (y 56), .ref (y 57), .ref (y 58), .int 0, .int 0, .int 0, .int 0, .int 0])), (y 52, aI V 4 (fun _ => 0)), (y 53, aI V 4 (fun _ => 0)), (y 54, aI V 4 (fun _ => 0)), (y 55, aI V 8 (fun _ => 0)), (y 56, aI V 8 (fun _ => 0)), (y 57, aI V 8 (fun _ => 0)), (y 58, aI V 900 (fun _ => 0))]
def mW (V : GV) (z : Nat → Nat) : va_W := [(z 0, .inr (10, mo z 0 0 0 0 0 0 0 0 0 0 (-1) 0 0 0 0 0)), (z 2, aZ V 2 (fun _ => 0)), (z 3, aI V 900 (fun _ => 0)), (z 4, aI V 1025 (fun _ => 0)), (z 15, aI V 900 (fun _ => 0)), (z 16, aI V 6 (fun _ => 0)), (z 17, aI V 7 (fun _ => 0)), (z 20, aI V 10001 (fun _ => 0)), (z 21, aI V 10000 (fun _ => 0)), (z 24, aI V 10000 (fun _ => 0)), (z 25, aI V 40000 (fun _ => 0)), (z 26, aI V 10000 (fun _ => 0)), (z 27, aI V 10000 (fun _ => 0)), (z 28, aZ V 10000 (fun _ => 0)), (z 30, aJ V 10000 (fun _ => 0)), (z 31, aJ V 10000 (fun _ => 0)), (z 32, aI V 100 (fun _ => 0)), (z 33, aI V 10 (fun _ => 0)), (z 34, aI V 10 (fun _ => 0)), (z 35, aJ V 90000 (fun _ => 0)), (z 36, aI V 10 (fun _ => 0)), (z 37, aI V 4 (upd (upd (upd (upd (fun _ => 0) 0 (-1)) 1 (-1)) 2 (-1)) 3 (-1))), (z 38, aI V 4 (fun _ => 0)), (z 39, aJ V 160 (fun _ => 0)), (z 1, aI V 3075 (fun _ => 0))]
theorem zX : ivT tX (up9 (up9 (up9 (up9 (up9 (fun _ => 0) 16 (-1)) 36 (-1)) 38 (-1)) 40 (-1)) 42 (-1)) := (ivUp 42 (ivUp 40 (ivUp 38 (ivUp 36 (ivUp 16 (zT (l := [(0, 900), (-2147483648, 2147483647), (-2147483648, 2147483647), (-2147483648, 2147483647), (-2147483648, 2147483647), (0, 4), (0, 4), (0, 8), (-2147483648, 2147483647), (-2147483648, 2147483647), (0, 900), (0, 900), (0, 900), (0, 900), (0, 900), (-2147483648, 2147483647), (-2147483648, 2147483647), (0, 900), (-2147483648, 2147483647), (0, 900), (0, 900), (-2147483648, 2147483647), (-2147483648, 2147483647), (0, 4), (0, 4), (0, 8), (-2147483648, 2147483647), (-2147483648, 2147483647), (0, 900), (0, 900), (0, 900), (0, 900), (0, 900), (-2147483648, 2147483647), (-2147483648, 2147483647), (0, 10), (-1, 40), (-2147483648, 2147483647), (-1, 40), (-2147483648, 2147483647), (-1, 40), (-2147483648, 2147483647), (-1, 40), (-2147483648, 2147483647), (-2147483648, 2147483647), (-2147483648, 2147483647), (-2147483648, 2147483647), (-2147483648, 2147483647), (-2147483648, 2147483647), (0, 4), (0, 4), (0, 8), (-2147483648, 2147483647), (-2147483648, 2147483647), (0, 900), (0, 900), (0, 900), (0, 900), (0, 900), (-2147483648, 2147483647), (-2147483648, 2147483647), (-2147483648, 2147483647), (-2147483648, 2147483647), (-2147483648, 2147483647), (0, 4), (0, 4), (0, 8), (-2147483648, 2147483647), (-2147483648, 2147483647), (0, 900), (0, 900), (0, 900), (0, 900), (0, 900)]) (by decide)) (iv_c ((-1) : Int32) (by decide))) (iv_c ((-1) : Int32) (by decide))) (iv_c ((-1) : Int32) (by decide))) (iv_c ((-1) : Int32) (by decide))) (iv_c ((-1) : Int32) (by decide)))
theorem zZ : ivT tZ (up9 (fun _ => 0) 14 (-1)) := (ivUp 14 (zT (l := [(-2147483648, 2147483647), (-2147483648, 2147483647), (-2147483648, 2147483647), (-2147483648, 2147483647), (-2147483648, 2147483647), (0, 900), (0, 900), (0, 900), (0, 900), (-2147483648, 2147483647), (0, 999), (0, 4), (0, 900), (0, 4), (-1, 900), (-2147483648, 2147483647), (-2147483648, 2147483647), (-2147483648, 2147483647), (0, 2), (-2147483648, 2147483647), (-2147483648, 2147483647), (-2147483648, 2147483647), (0, 9999), (-2147483648, 2147483647), (-2147483648, 2147483647), (-2147483648, 2147483647), (-2147483648, 2147483647), (-2147483648, 2147483647), (-2147483648, 2147483647), (0, 10000)]) (by decide)) (iv_c ((-1) : Int32) (by decide)))
theorem k0Z (V : GV) (z : Nat → Nat) : KZ V z (wZ V z (up9 (fun _ => 0) 14 (-1)) (up9 (fun _ _ => 0) 18 (upd (upd (upd (upd (fun _ => 0) 0 (-1)) 1 (-1)) 2 (-1)) 3 (-1))) (fun _ _ => 0)) := ⟨(up9 (fun _ => 0) 14 (-1)), (up9 (fun _ _ => 0) 18 (upd (upd (upd (upd (fun _ => 0) 0 (-1)) 1 (-1)) 2 (-1)) 3 (-1))), fun _ _ => 0, zZ, tA_0, tF_0, tW_0, tS_0, (fun _ => iv_w (iv_c (0 : Int32) (a := 0) (b := 0) (by decide)) (by decide)), (fun _ => iv_w (iv_c (0 : Int32) (a := 0) (b := 0) (by decide)) (by decide)), (fun _ => iv_w (iv_c (0 : Int32) (a := 0) (b := 0) (by decide)) (by decide)), (fun _ => iv_w (iv_c (0 : Int32) (a := 0) (b := 0) (by decide)) (by decide)), (fun _ => iv_w (iv_c (0 : Int32) (a := 0) (b := 0) (by decide)) (by decide)), (fun _ => iv_w (iv_c (0 : Int32) (a := 0) (b := 0) (by decide)) (by decide)), (fun _ => iv_w (iv_c (0 : Int32) (a := 0) (b := 0) (by decide)) (by decide)), (fun _ => iv_w (iv_c (0 : Int32) (a := 0) (b := 0) (by decide)) (by decide)), (ivU (ivU (ivU (ivU (fun _ => iv_w (iv_c (0 : Int32) (a := 0) (b := 0) (by decide)) (by decide)) 0 (iv_c (-1 : Int32) (by decide))) 1 (iv_c (-1 : Int32) (by decide))) 2 (iv_c (-1 : Int32) (by decide))) 3 (iv_c (-1 : Int32) (by decide))), (fun _ => iv_w (iv_c (0 : Int32) (a := 0) (b := 0) (by decide)) (by decide)), RW_0, rfl⟩
theorem k0X (V : GV) (y : Nat → Nat) : KX V y 84 223324 (wB V y (up9 (up9 (up9 (up9 (up9 (fun _ => 0) 16 (-1)) 36 (-1)) 38 (-1)) 40 (-1)) 42 (-1)) (fun _ _ => 0) (fun _ _ => 0) .null .null ++ []) := ⟨(up9 (up9 (up9 (up9 (up9 (fun _ => 0) 16 (-1)) 36 (-1)) 38 (-1)) 40 (-1)) 42 (-1)), fun _ _ => 0, fun _ _ => 0, .null, .null, [], zX, Or.inl ⟨rfl, rfl, rfl, Nat.le_of_ble_eq_true rfl, Nat.le_of_ble_eq_true rfl⟩, rfl⟩

