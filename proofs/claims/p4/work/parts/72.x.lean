set_option maxHeartbeats 4000000 in
set_option maxRecDepth 100000 in
theorem cx_20 {p : Program} {e : Env} {s : State} {m : MethodId} {below : List Frame} {meth : Method} {c : Code} {l : Launch} {b Lk : Nat} {xs : Nat → Int32} {V : GV} {y : Nat → Nat} {τ : Nat → Int32} {H : Heap} {locs : List Loc} {cells slots : Nat} {wz : va_W} {ls : Array Slot} (G : LCx p s m meth c b Lk xs V) (a1 : Int32) (a2 : Int32) (a3 : Int32) {wx : va_W} (kx : KX V y cells slots τ wx) (hP : va_P V.1 vwCl (wx ++ wz) H) (hD : va_D (AAs s) (wx ++ wz)) (hS : va_S (AAs s) s.heap H locs) (hlz : ls.size = 4) (kk : (∀ (r : Int32) (H : Heap) (locs : List Loc) (cells slots : Nat) (wx : va_W), KX V y cells slots τ wx → va_P V.1 vwCl (wx ++ wz) H → va_D (AAs s) (wx ++ wz) → va_S (AAs s) s.heap H locs → W p l e room_1 s m #[Value.ref b] below meth c H locs cells slots (lw_Z below #[Value.ref b] s) (F0 m 793 ls [.int r]))) : W p l e room_1 s m #[Value.ref b] below meth c H locs cells slots (lw_Z below #[Value.ref b] s) (F0 m 790 ls [.int a3, .int a2, .int a1, .ref (y 0)]) := by
  obtain ⟨pp, ff, gg, o10, o11, rest, hp, ht0, ht1, ht2, ht3, ht4, hR, rfl⟩ := kx
  by_cases hg : 0 ≤ (a1 : Int32).toInt ∧ (a1 : Int32).toInt < ((pp 5) : Int32).toInt ∧ 0 ≤ (a2 : Int32).toInt ∧ (a2 : Int32).toInt ≤ 4 ∧ 0 ≤ (a3 : Int32).toInt
  · rcases hR with ⟨rfl, rfl, rfl, hc⟩ | ⟨n, L, Yw, wa, wb, qq, ee, fr, fm, hW, hF, hT, rfl, rfl⟩
    · exact cx_20_0 G _ _ _ hp ht0 ht1 ht2 ht3 ht4 hc hg hP hD hS hlz kk
    · rcases Classical.em (pp 5 ≤ qq 0) with hq | hq
      · exact cx_20_a G _ _ _ hp ht0 ht1 ht2 ht3 ht4 hW hF hT hq hP hD hS hlz kk
      · replace hq := Int32.not_le.mp hq
        exact cx_20_b G _ _ _ hp ht0 ht1 ht2 ht3 ht4 hW hF hT hq hg hP hD hS hlz kk
  · exact cx_20_e G _ _ _ hp ht0 ht1 ht2 ht3 ht4 hR hg hP hD hS hlz kk
theorem q_7_213 : Cond.code yX10_way prog_12_method_90_code 8 (some FieldType.int) ∈ gw := gw_7 (i := 213) (rfl) rfl
theorem q_7_211 : Cond.instanceMethod yX10_way ∈ gw := gw_7 (i := 211) (by decide +kernel) rfl
theorem q_7_212 : Cond.selects "BeaconDelayModel" yX10_way yX10_way ∈ gw := gw_7 (i := 212) (by decide +kernel) rfl
theorem mt_X10_way : MtV yX10_way cX10_way 8 (some .int) 3 := ⟨⟨q_7_213, q_1_9, by decide +kernel, by decide +kernel, by decide +kernel⟩, q_7_211, q_7_212⟩
theorem q_7_210 : Cond.methodLink "BeaconDelayLaw" 101 yX10_way ∈ gw := gw_7 (i := 210) (by decide +kernel) rfl
theorem dL_law_810 : decode cL_law 810 = .ok (.invokevirtual 101, 3) := by decide +kernel
set_option maxHeartbeats 4000000 in
set_option maxRecDepth 100000 in
theorem cz_20 {p : Program} {e : Env} {s : State} {m : MethodId} {below : List Frame} {meth : Method} {c : Code} {l : Launch} {b Lk : Nat} {xs : Nat → Int32} {V : GV} {z : Nat → Nat} {τ : Nat → Int32} {H : Heap} {locs : List Loc} {cells slots : Nat} {wx : va_W} {ls : Array Slot} {rest : List Value} (G : LCx p s m meth c b Lk xs V) (a1 : Int32) (a2 : Int32) (a3 : Int32) {wz : va_W} (kz : KZ V z τ wz) (hP : va_P V.1 vwCl (wx ++ wz) H) (hD : va_D (AAs s) (wx ++ wz)) (hS : va_S (AAs s) s.heap H locs) (hcs : cells + 0 ≤ 600000 ∧ slots + 0 ≤ 7302250) (hro : (rest.map fun v => v.category).sum ≤ 8) (hlz : ls.size = 4) (kk : (∀ (r : Int32) (H : Heap) (locs : List Loc) (wz : va_W), KZ V z τ wz → va_P V.1 vwCl (wx ++ wz) H → va_D (AAs s) (wx ++ wz) → va_S (AAs s) s.heap H locs → W p l e room_1 s m #[Value.ref b] below meth c H locs cells slots (lw_Z below #[Value.ref b] s) (F0 m 813 ls (.int r :: rest)))) : W p l e room_1 s m #[Value.ref b] below meth c H locs cells slots (lw_Z below #[Value.ref b] s) (F0 m 810 ls (.int a3 :: .int a2 :: .int a1 :: .ref (z 0) :: rest)) := by
  obtain ⟨pz, fz, gz, hp, ht0, ht1, ht2, ht3, hz_tz1, hz_tz3, hz_tz4, hz_tz16, hz_tz17, hz_tz20, hz_tz21, hz_tz24, hz_tz25, hz_tz26, hz_tz27, hz_tz33, hz_tz34, hz_tz37, hz_tz38, hz_RW, rfl⟩ := kz
  replace hP := swP hP
  replace hD := swD hD
  refine cSI (X := wZ V z pz fz gz) (pl := wx) (rest := rest) G (k_X10_way_0 l V z a1 a2 a3 (pz 0) (pz 5) (pz 6) (pz 7) (pz 8) (pz 9) (pz 10) (pz 11) (pz 12) (pz 13) (pz 14) (pz 18) (pz 19) (pz 22) (pz 23) (pz 29) (fz 0) (fz 4) (fz 5) (fz 9) (fz 10) (fz 11) (fz 13) (hp 5) (hp 6) (hp 7) (hp 8) (hp 10) (hp 11) (hp 12) (hp 13) (hp 14) (hp 18) (hp 22) (hp 29) hz_tz1 hz_tz16 hz_tz24 hz_tz25 hz_tz26 hz_RW) mt_X10_way q_7_210 ⟨Nat.le_of_ble_eq_true rfl, Nat.le_of_ble_eq_true rfl⟩ hP hD hS [0, 1, 5, 6, 10, 11, 12, 14] [0, 0, 3, 0, 3, 0, 0, 1] (by decide) (by decide +kernel) rfl 0 rfl rfl rfl rfl hlz rfl hro dL_law_810 hcs (fun r w H locs hw hPD hS => ?_)
  refine Exists.elim hw (fun v0 hw => ?_)
  refine Exists.elim hw (fun v1 hw => ?_)
  refine Exists.elim hw (fun g2 hw => ?_)
  refine Exists.elim hw (fun g3 hw => ?_)
  refine Exists.elim hw (fun g4 hw => ?_)
  refine Exists.elim hw (fun g5 hw => ?_)
  refine Exists.elim hw (fun g6 hw => ?_)
  refine Exists.elim hw (fun g7 hw => ?_)
  refine And.elim (fun bv1 hw => ?_) hw
  refine And.elim (fun bg3 hw => ?_) hw
  refine And.elim (fun bg4 hw => ?_) hw
  refine And.elim (fun bg5 hw => ?_) hw
  refine And.elim (fun bg6 hw => ?_) hw
  refine And.elim (fun br hw => ?_) hw
  refine And.elim (fun g_0 hw => ?_) hw
  subst hw
  obtain ⟨hP, hD⟩ := hPD (wZ V z (up9 (up9 pz 0 v0) 29 v1) (br9 14 (br9 7 (br9 3 fz (br9 5 (br9 4 fz (lf9 g2)) (br9 6 (lf9 g3) fz))) (br9 10 (br9 8 fz (br9 9 fz (lf9 g4))) (br9 12 (br9 11 (lf9 g5) (lf9 g6)) (br9 13 fz (lf9 g7))))) fz) gz) rfl rfl
  replace hP := swP hP
  replace hD := swD hD
  exact kk r H locs _ ⟨(up9 (up9 pz 0 v0) 29 v1), (br9 14 (br9 7 (br9 3 fz (br9 5 (br9 4 fz (lf9 g2)) (br9 6 (lf9 g3) fz))) (br9 10 (br9 8 fz (br9 9 fz (lf9 g4))) (br9 12 (br9 11 (lf9 g5) (lf9 g6)) (br9 13 fz (lf9 g7))))) fz), gz, (ivUp 29 (ivUp 0 hp (iv_top v0)) bv1), ht0, ht1, ht2, ht3, hz_tz1, hz_tz3, hz_tz4, bg3, hz_tz17, hz_tz20, hz_tz21, bg4, bg5, bg6, hz_tz27, hz_tz33, hz_tz34, hz_tz37, hz_tz38, g_0, rfl⟩ hP hD hS
theorem q_4_161 : Cond.code yX9_rows prog_1_method_41_code 5 (some FieldType.long) ∈ gw := gw_4 (i := 161) (rfl) rfl
theorem q_4_159 : Cond.instanceMethod yX9_rows ∈ gw := gw_4 (i := 159) (by decide +kernel) rfl
theorem q_4_160 : Cond.selects "BeaconDelay" yX9_rows yX9_rows ∈ gw := gw_4 (i := 160) (by decide +kernel) rfl
theorem mt_X9_rows : MtV yX9_rows cX9_rows 5 (some .long) 3 := ⟨⟨q_4_161, q_1_1, by decide +kernel, by decide +kernel, by decide +kernel⟩, q_4_159, q_4_160⟩
theorem q_4_158 : Cond.methodLink "BeaconDelayLaw" 102 yX9_rows ∈ gw := gw_4 (i := 158) (by decide +kernel) rfl
theorem dL_law_833 : decode cL_law 833 = .ok (.invokevirtual 102, 3) := by decide +kernel
set_option maxHeartbeats 4000000 in
set_option maxRecDepth 100000 in
theorem cx_21_e {p : Program} {e : Env} {s : State} {m : MethodId} {below : List Frame} {meth : Method} {c : Code} {l : Launch} {b Lk : Nat} {xs : Nat → Int32} {V : GV} {y : Nat → Nat} {τ : Nat → Int32} {H : Heap} {locs : List Loc} {cells slots : Nat} {wz : va_W} {ls : Array Slot} (G : LCx p s m meth c b Lk xs V) (a1 : Int32) (a2 : Int32) (a3 : Int32) {pp : Nat → Int32} {ff : Nat → Nat → Int32} {gg : Nat → Nat → Int64} {o10 o11 : Value} {rest : va_W} (hp : ivT tX pp) (ht0 : pp 0 = τ 0) (ht1 : pp 15 = τ 1) (ht2 : pp 16 = τ 2) (ht3 : BTs (ff 0) (tauT τ)) (ht4 : (∀ j, iv (-128) 127 ((ff 0) j))) (hR : RRo V y cells slots o10 o11 rest) (hg : ¬ (0 ≤ (a1 : Int32).toInt ∧ (a1 : Int32).toInt < ((pp 5) : Int32).toInt ∧ 0 ≤ (a2 : Int32).toInt ∧ (a2 : Int32).toInt ≤ 4 ∧ 0 ≤ (a3 : Int32).toInt ∧ (a3 : Int32).toInt ≤ 12)) (hP : va_P V.1 vwCl (wB V y pp ff gg o10 o11 ++ rest ++ wz) H) (hD : va_D (AAs s) (wB V y pp ff gg o10 o11 ++ rest ++ wz)) (hS : va_S (AAs s) s.heap H locs) (hlz : ls.size = 4) (kk : (∀ (r : Int64) (H : Heap) (locs : List Loc) (cells slots : Nat) (wx : va_W), KX V y cells slots τ wx → va_P V.1 vwCl (wx ++ wz) H → va_D (AAs s) (wx ++ wz) → va_S (AAs s) s.heap H locs → W p l e room_1 s m #[Value.ref b] below meth c H locs cells slots (lw_Z below #[Value.ref b] s) (F0 m 836 ls [.long r]))) : W p l e room_1 s m #[Value.ref b] below meth c H locs cells slots (lw_Z below #[Value.ref b] s) (F0 m 833 ls [.int a3, .int a2, .int a1, .ref (y 0)]) := by
  rw [as3] at hP hD
  refine cSL (X := wB V y pp ff gg o10 o11) (pl := rest ++ wz) (rest := []) G (k_X9_rows_1 l V y a1 a2 a3 (pp 0) o10 o11 (pp 1) (pp 2) (pp 3) (pp 4) (pp 5) (pp 6) (pp 7) (pp 8) (pp 9) (pp 10) (pp 11) (pp 12) (pp 13) (pp 14) (hp 0) (hp 5) (hp 6) (hp 7) (hp 10) (hp 11) (hp 12) (hp 13) (hp 14) hg) mt_X9_rows q_4_158 ⟨Nat.le_of_ble_eq_true rfl, Nat.le_of_ble_eq_true rfl⟩ hP hD hS [0, 2] [0, 1] (by decide) (by decide +kernel) rfl 0 rfl rfl rfl rfl hlz rfl (Nat.le_of_ble_eq_true rfl) dL_law_833 hR.room (fun r w H locs hw hPD hS => ?_)
  subst hw
  obtain ⟨hP, hD⟩ := hPD (wB V y pp ff gg o10 o11) rfl rfl
  rw [← as3] at hP hD
  exact kk r H locs (cells + 0) (slots + 0) _ ⟨pp, ff, gg, o10, o11, rest, hp, ht0, ht1, ht2, ht3, ht4, hR, rfl⟩ hP hD hS
set_option maxHeartbeats 4000000 in
set_option maxRecDepth 100000 in
theorem cx_21_0 {p : Program} {e : Env} {s : State} {m : MethodId} {below : List Frame} {meth : Method} {c : Code} {l : Launch} {b Lk : Nat} {xs : Nat → Int32} {V : GV} {y : Nat → Nat} {τ : Nat → Int32} {H : Heap} {locs : List Loc} {cells slots : Nat} {wz : va_W} {ls : Array Slot} (G : LCx p s m meth c b Lk xs V) (a1 : Int32) (a2 : Int32) (a3 : Int32) {pp : Nat → Int32} {ff : Nat → Nat → Int32} {gg : Nat → Nat → Int64} (hp : ivT tX pp) (ht0 : pp 0 = τ 0) (ht1 : pp 15 = τ 1) (ht2 : pp 16 = τ 2) (ht3 : BTs (ff 0) (tauT τ)) (ht4 : (∀ j, iv (-128) 127 ((ff 0) j))) (hc : cells + 116 ≤ 600000 ∧ slots + 633553 ≤ 7302250) (hg : 0 ≤ (a1 : Int32).toInt ∧ (a1 : Int32).toInt < ((pp 5) : Int32).toInt ∧ 0 ≤ (a2 : Int32).toInt ∧ (a2 : Int32).toInt ≤ 4 ∧ 0 ≤ (a3 : Int32).toInt ∧ (a3 : Int32).toInt ≤ 12) (hP : va_P V.1 vwCl (wB V y pp ff gg .null .null ++ [] ++ wz) H) (hD : va_D (AAs s) (wB V y pp ff gg .null .null ++ [] ++ wz)) (hS : va_S (AAs s) s.heap H locs) (hlz : ls.size = 4) (kk : (∀ (r : Int64) (H : Heap) (locs : List Loc) (cells slots : Nat) (wx : va_W), KX V y cells slots τ wx → va_P V.1 vwCl (wx ++ wz) H → va_D (AAs s) (wx ++ wz) → va_S (AAs s) s.heap H locs → W p l e room_1 s m #[Value.ref b] below meth c H locs cells slots (lw_Z below #[Value.ref b] s) (F0 m 836 ls [.long r]))) : W p l e room_1 s m #[Value.ref b] below meth c H locs cells slots (lw_Z below #[Value.ref b] s) (F0 m 833 ls [.int a3, .int a2, .int a1, .ref (y 0)]) := by
  refine cXL (X := wB V y pp ff gg .null .null ++ []) (pl := wz) (wr := [(y 1, aB V 900 (ff 0)), (y 4, aI V 4 (ff 2)), (y 5, aI V 4 (ff 3)), (y 6, aI V 8 (ff 4)), (y 7, aI V 8 (ff 5)), (y 8, aI V 8 (ff 6)), (y 10, .inr (6, [.ref (y 11), .int (pp 15), .int (pp 16), .ref (y 1), .int (pp 17), .int (pp 18), .int (pp 19), .int (pp 20), .int (pp 21)])), (y 11, .inr (1, [.int (pp 22), .int (pp 23), .int (pp 24), .int (pp 25), .int (pp 26), .int (pp 27), .ref (y 12), .ref (y 13), .ref (y 14), .ref (y 15), .ref (y 16), .ref (y 17), .ref (y 18), .int (pp 28), .int (pp 29), .int (pp 30), .int (pp 31), .int (pp 32)])), (y 12, aI V 4 (ff 8)), (y 13, aI V 4 (ff 9)), (y 14, aI V 4 (ff 10)), (y 15, aI V 8 (ff 11)), (y 16, aI V 8 (ff 12)), (y 17, aI V 8 (ff 13)), (y 18, aI V 900 (ff 14)), (y 23, aI V 10 (ff 18)), (y 24, aI V 10 (ff 19)), (y 25, .inr (0, [.int (pp 33), .int (pp 34)])), (y 26, .inr (5, [.ref (y 27), .ref (y 28), .ref (y 29), .int (pp 35)])), (y 27, aI V 10 (ff 20)), (y 28, aI V 10 (ff 21)), (y 29, aI V 10 (ff 22)), (y 30, aT V 4 (va_up (va_up (va_up (va_up (fun _ => none) 0 (some (y 33))) 1 (some (y 35))) 2 (some (y 37))) 3 (some (y 39)))), (y 31, aM V 2 (va_up (va_up (fun _ => none) 0 (some (y 41))) 1 (some (y 50)))), (y 32, aI V 10 (ff 23)), (y 33, .inr (7, [.ref (y 34), .int (pp 36), .int (pp 37)])), (y 34, aJ V 40 (gg 0)), (y 35, .inr (7, [.ref (y 36), .int (pp 38), .int (pp 39)])), (y 36, aJ V 40 (gg 1)), (y 37, .inr (7, [.ref (y 38), .int (pp 40), .int (pp 41)])), (y 38, aJ V 40 (gg 2)), (y 39, .inr (7, [.ref (y 40), .int (pp 42), .int (pp 43)])), (y 40, aJ V 40 (gg 3)), (y 41, .inr (3, [.ref (y 42), .int (pp 44), .int (pp 45), .int (pp 46), .int (pp 47)])), (y 42, .inr (1, [.int (pp 48), .int (pp 49), .int (pp 50), .int (pp 51), .int (pp 52), .int (pp 53), .ref (y 43), .ref (y 44), .ref (y 45), .ref (y 46), .ref (y 47), .ref (y 48), .ref (y 49), .int (pp 54), .int (pp 55), .int (pp 56), .int (pp 57), .int (pp 58)])), (y 43, aI V 4 (ff 24)), (y 44, aI V 4 (ff 25)), (y 45, aI V 4 (ff 26)), (y 46, aI V 8 (ff 27)), (y 47, aI V 8 (ff 28)), (y 48, aI V 8 (ff 29)), (y 49, aI V 900 (ff 30)), (y 50, .inr (3, [.ref (y 51), .int (pp 59), .int (pp 60), .int (pp 61), .int (pp 62)])), (y 51, .inr (1, [.int (pp 63), .int (pp 64), .int (pp 65), .int (pp 66), .int (pp 67), .int (pp 68), .ref (y 52), .ref (y 53), .ref (y 54), .ref (y 55), .ref (y 56), .ref (y 57), .ref (y 58), .int (pp 69), .int (pp 70), .int (pp 71), .int (pp 72), .int (pp 73)])), (y 52, aI V 4 (ff 31)), (y 53, aI V 4 (ff 32)), (y 54, aI V 4 (ff 33)), (y 55, aI V 8 (ff 34)), (y 56, aI V 8 (ff 35)), (y 57, aI V 8 (ff 36)), (y 58, aI V 900 (ff 37))]) (rest := []) G (k_X9_rows_2 l V y a1 a2 a3 (pp 0) (.null) (pp 1) (pp 2) (pp 3) (pp 4) (pp 5) (pp 6) (pp 7) (pp 8) (pp 9) (pp 10) (pp 11) (pp 12) (pp 13) (pp 14) (ff 1) (ff 7) (ff 15) (ff 16) (ff 17) (hp 0) (hp 5) (hp 6) (hp 7) (hp 10) (hp 11) (hp 12) (hp 13) (hp 14) hg.1 hg.2.1 hg.2.2.1 hg.2.2.2.1 hg.2.2.2.2.1 hg.2.2.2.2.2) mt_X9_rows q_4_158 ⟨Nat.le_of_ble_eq_true rfl, Nat.le_of_ble_eq_true rfl⟩ hP hD hS [0, 2, 3, 9, 19, 20, 21, 22] [1, 4, 5, 6, 7, 8, 10, 11, 12, 13, 14, 15, 16, 17, 18, 23, 24, 25, 26, 27, 28, 29, 30, 31, 32, 33, 34, 35, 36, 37, 38, 39, 40, 41, 42, 43, 44, 45, 46, 47, 48, 49, 50, 51, 52, 53, 54, 55, 56, 57, 58] (by decide +kernel) rfl rfl (by decide +kernel) (by decide +kernel) 0 rfl rfl rfl rfl hlz rfl (Nat.le_of_ble_eq_true rfl) dL_law_833 (by omega) (fun r w H locs hw hP hD hS => ?_)
  refine Exists.elim hw (fun n1 hw => ?_)
  refine Exists.elim hw (fun L1 hw => ?_)
  refine Exists.elim hw (fun Yw1 hw => ?_)
  refine Exists.elim hw (fun wa1 hw => ?_)
  refine Exists.elim hw (fun wb1 hw => ?_)
  refine Exists.elim hw (fun g0 hw => ?_)
  refine Exists.elim hw (fun g1 hw => ?_)
  refine Exists.elim hw (fun g2 hw => ?_)
  refine Exists.elim hw (fun ww0 hw => ?_)
  refine Exists.elim hw (fun ww5 hw => ?_)
  refine Exists.elim hw (fun ww6 hw => ?_)
  refine Exists.elim hw (fun ww14 hw => ?_)
  refine Exists.elim hw (fun ww15 hw => ?_)
  refine Exists.elim hw (fun ww16 hw => ?_)
  refine Exists.elim hw (fun wew1 hw => ?_)
  refine Exists.elim hw (fun wew2 hw => ?_)
  refine Exists.elim hw (fun wew3 hw => ?_)
  refine Exists.elim hw (fun wew4 hw => ?_)
  refine Exists.elim hw (fun wew5 hw => ?_)
  refine Exists.elim hw (fun wew6 hw => ?_)
  refine Exists.elim hw (fun wew7 hw => ?_)
  refine Exists.elim hw (fun wew8 hw => ?_)
  refine Exists.elim hw (fun wew9 hw => ?_)
  refine And.elim (fun hn1 hw => ?_) hw
  refine And.elim (fun hL1 hw => ?_) hw
  refine And.elim (fun bww0 hw => ?_) hw
  refine And.elim (fun bww5 hw => ?_) hw
  refine And.elim (fun bww6 hw => ?_) hw
  refine And.elim (fun bww14 hw => ?_) hw
  refine And.elim (fun bww16 hw => ?_) hw
  refine And.elim (fun bwew1 hw => ?_) hw
  refine And.elim (fun bwew4 hw => ?_) hw
  refine And.elim (fun bwew5 hw => ?_) hw
  refine And.elim (fun bwew6 hw => ?_) hw
  refine And.elim (fun bwew7 hw => ?_) hw
  refine And.elim (fun g_0 hw => ?_) hw
  refine And.elim (fun g_1 hw => ?_) hw
  refine And.elim (fun g_2 hw => ?_) hw
  refine And.elim (fun g_3 hw => ?_) hw
  subst hw
  have hP := ptP (ws' := wB V y pp (up9 (up9 (up9 ff 15 g0) 16 g1) 17 g2) gg (.ref (Yw1 0)) .null ++ (wY V y n1 L1 Yw1 wa1 wb1 (br9 17 (br9 8 (br9 4 (br9 2 (br9 1 (lf9 ww0) (fun _ => 0)) (fun _ => 0)) (br9 6 (br9 5 (fun _ => 0) (lf9 ww5)) (br9 7 (lf9 ww6) (fun _ => 0)))) (br9 12 (fun _ => 0) (br9 14 (fun _ => 0) (br9 15 (lf9 ww14) (br9 16 (lf9 ww15) (lf9 ww16)))))) (fun _ => 0)) (br9 9 (br9 4 (br9 2 (br9 1 (lf9 wew1) (lf9 wew2)) (br9 3 (lf9 wew3) (lf9 wew4))) (br9 6 (br9 5 (lf9 wew5) (lf9 wew6)) (br9 7 (lf9 wew7) (br9 8 (lf9 wew8) (lf9 wew9))))) (fun _ _ => 0)) ++ [])) hP [51, 0, 52, 53, 1, 2, 3, 4, 5, 54, 6, 7, 8, 9, 10, 11, 12, 13, 14, 55, 56, 57, 58, 15, 16, 17, 18, 19, 20, 21, 22, 23, 24, 25, 26, 27, 28, 29, 30, 31, 32, 33, 34, 35, 36, 37, 38, 39, 40, 41, 42, 43, 44, 45, 46, 47, 48, 49, 50, 59, 60, 61, 62, 63, 64, 65, 66, 67, 68] rfl
  have hD := hD.part (cx := wB V y pp (up9 (up9 (up9 ff 15 g0) 16 g1) 17 g2) gg (.ref (Yw1 0)) .null ++ (wY V y n1 L1 Yw1 wa1 wb1 (br9 17 (br9 8 (br9 4 (br9 2 (br9 1 (lf9 ww0) (fun _ => 0)) (fun _ => 0)) (br9 6 (br9 5 (fun _ => 0) (lf9 ww5)) (br9 7 (lf9 ww6) (fun _ => 0)))) (br9 12 (fun _ => 0) (br9 14 (fun _ => 0) (br9 15 (lf9 ww14) (br9 16 (lf9 ww15) (lf9 ww16)))))) (fun _ => 0)) (br9 9 (br9 4 (br9 2 (br9 1 (lf9 wew1) (lf9 wew2)) (br9 3 (lf9 wew3) (lf9 wew4))) (br9 6 (br9 5 (lf9 wew5) (lf9 wew6)) (br9 7 (lf9 wew7) (br9 8 (lf9 wew8) (lf9 wew9))))) (fun _ _ => 0)) ++ [])) [51, 0, 52, 53, 1, 2, 3, 4, 5, 54, 6, 7, 8, 9, 10, 11, 12, 13, 14, 55, 56, 57, 58, 15, 16, 17, 18, 19, 20, 21, 22, 23, 24, 25, 26, 27, 28, 29, 30, 31, 32, 33, 34, 35, 36, 37, 38, 39, 40, 41, 42, 43, 44, 45, 46, 47, 48, 49, 50, 59, 60, 61, 62, 63, 64, 65, 66, 67, 68] (by decide +kernel) rfl
  exact kk r H locs (cells + 10) (slots + 46481) _ ⟨pp, (up9 (up9 (up9 ff 15 g0) 16 g1) 17 g2), gg, .ref (Yw1 0), .null, _, hp, ht0, ht1, ht2, ht3, ht4, Or.inr ⟨n1, L1, Yw1, wa1, wb1, (br9 17 (br9 8 (br9 4 (br9 2 (br9 1 (lf9 ww0) (fun _ => 0)) (fun _ => 0)) (br9 6 (br9 5 (fun _ => 0) (lf9 ww5)) (br9 7 (lf9 ww6) (fun _ => 0)))) (br9 12 (fun _ => 0) (br9 14 (fun _ => 0) (br9 15 (lf9 ww14) (br9 16 (lf9 ww15) (lf9 ww16)))))) (fun _ => 0)), (br9 9 (br9 4 (br9 2 (br9 1 (lf9 wew1) (lf9 wew2)) (br9 3 (lf9 wew3) (lf9 wew4))) (br9 6 (br9 5 (lf9 wew5) (lf9 wew6)) (br9 7 (lf9 wew7) (br9 8 (lf9 wew8) (lf9 wew9))))) (fun _ _ => 0)), [], 0, ⟨hn1, hL1, bww0, bww5, bww6, bww14, bww16, bwew1, bwew4, bwew5, bwew6, bwew7, g_0, g_1, g_2⟩, (Or.inl ⟨rfl, rfl, rfl⟩), (show PTn _ _ _ _ ww0 from by rw [g_3]; exact PTn_0 10 46481 hc (hp 5) (by decide) (by decide) n1 0), rfl, rfl⟩, rfl⟩ hP hD hS
set_option maxHeartbeats 4000000 in
set_option maxRecDepth 100000 in
theorem cx_21_a {p : Program} {e : Env} {s : State} {m : MethodId} {below : List Frame} {meth : Method} {c : Code} {l : Launch} {b Lk : Nat} {xs : Nat → Int32} {V : GV} {y : Nat → Nat} {τ : Nat → Int32} {H : Heap} {locs : List Loc} {cells slots : Nat} {wz : va_W} {ls : Array Slot} (G : LCx p s m meth c b Lk xs V) (a1 : Int32) (a2 : Int32) (a3 : Int32) {pp : Nat → Int32} {ff : Nat → Nat → Int32} {gg : Nat → Nat → Int64} {n L : Nat} {Yw : Nat → Nat} {wa wb : Nat} {qq : Nat → Int32} {ee : Nat → Nat → Int32} {o11 : Value} {fr : va_W} {fm : Nat} (hp : ivT tX pp) (ht0 : pp 0 = τ 0) (ht1 : pp 15 = τ 1) (ht2 : pp 16 = τ 2) (ht3 : BTs (ff 0) (tauT τ)) (ht4 : (∀ j, iv (-128) 127 ((ff 0) j))) (hW : WFa n L qq ee) (hF : RFo V o11 fr fm) (hT : PTn cells slots n fm (qq 0)) (hq : pp 5 ≤ qq 0) (hP : va_P V.1 vwCl (wB V y pp ff gg (.ref (Yw 0)) o11 ++ (wY V y n L Yw wa wb qq ee ++ fr) ++ wz) H) (hD : va_D (AAs s) (wB V y pp ff gg (.ref (Yw 0)) o11 ++ (wY V y n L Yw wa wb qq ee ++ fr) ++ wz)) (hS : va_S (AAs s) s.heap H locs) (hlz : ls.size = 4) (kk : (∀ (r : Int64) (H : Heap) (locs : List Loc) (cells slots : Nat) (wx : va_W), KX V y cells slots τ wx → va_P V.1 vwCl (wx ++ wz) H → va_D (AAs s) (wx ++ wz) → va_S (AAs s) s.heap H locs → W p l e room_1 s m #[Value.ref b] below meth c H locs cells slots (lw_Z below #[Value.ref b] s) (F0 m 836 ls [.long r]))) : W p l e room_1 s m #[Value.ref b] below meth c H locs cells slots (lw_Z below #[Value.ref b] s) (F0 m 833 ls [.int a3, .int a2, .int a1, .ref (y 0)]) := by
  obtain ⟨hn, hL, hw_q0, hw_q5, hw_q6, hw_q14, hw_q16, hw_tYw1, hw_tYw4, hw_tYw5, hw_tYw6, hw_tYw7, hw_WA, hw_WB, hw_WC⟩ := id hW
  rw [as4] at hP hD
  refine cXL (X := wB V y pp ff gg (.ref (Yw 0)) o11 ++ wY V y n L Yw wa wb qq ee) (pl := fr ++ wz) (wr := [(y 1, aB V 900 (ff 0)), (y 4, aI V 4 (ff 2)), (y 5, aI V 4 (ff 3)), (y 6, aI V 8 (ff 4)), (y 7, aI V 8 (ff 5)), (y 8, aI V 8 (ff 6)), (y 10, .inr (6, [.ref (y 11), .int (pp 15), .int (pp 16), .ref (y 1), .int (pp 17), .int (pp 18), .int (pp 19), .int (pp 20), .int (pp 21)])), (y 11, .inr (1, [.int (pp 22), .int (pp 23), .int (pp 24), .int (pp 25), .int (pp 26), .int (pp 27), .ref (y 12), .ref (y 13), .ref (y 14), .ref (y 15), .ref (y 16), .ref (y 17), .ref (y 18), .int (pp 28), .int (pp 29), .int (pp 30), .int (pp 31), .int (pp 32)])), (y 12, aI V 4 (ff 8)), (y 13, aI V 4 (ff 9)), (y 14, aI V 4 (ff 10)), (y 15, aI V 8 (ff 11)), (y 16, aI V 8 (ff 12)), (y 17, aI V 8 (ff 13)), (y 18, aI V 900 (ff 14)), (y 23, aI V 10 (ff 18)), (y 24, aI V 10 (ff 19)), (y 25, .inr (0, [.int (pp 33), .int (pp 34)])), (y 26, .inr (5, [.ref (y 27), .ref (y 28), .ref (y 29), .int (pp 35)])), (y 27, aI V 10 (ff 20)), (y 28, aI V 10 (ff 21)), (y 29, aI V 10 (ff 22)), (y 30, aT V 4 (va_up (va_up (va_up (va_up (fun _ => none) 0 (some (y 33))) 1 (some (y 35))) 2 (some (y 37))) 3 (some (y 39)))), (y 31, aM V 2 (va_up (va_up (fun _ => none) 0 (some (y 41))) 1 (some (y 50)))), (y 32, aI V 10 (ff 23)), (y 33, .inr (7, [.ref (y 34), .int (pp 36), .int (pp 37)])), (y 34, aJ V 40 (gg 0)), (y 35, .inr (7, [.ref (y 36), .int (pp 38), .int (pp 39)])), (y 36, aJ V 40 (gg 1)), (y 37, .inr (7, [.ref (y 38), .int (pp 40), .int (pp 41)])), (y 38, aJ V 40 (gg 2)), (y 39, .inr (7, [.ref (y 40), .int (pp 42), .int (pp 43)])), (y 40, aJ V 40 (gg 3)), (y 41, .inr (3, [.ref (y 42), .int (pp 44), .int (pp 45), .int (pp 46), .int (pp 47)])), (y 42, .inr (1, [.int (pp 48), .int (pp 49), .int (pp 50), .int (pp 51), .int (pp 52), .int (pp 53), .ref (y 43), .ref (y 44), .ref (y 45), .ref (y 46), .ref (y 47), .ref (y 48), .ref (y 49), .int (pp 54), .int (pp 55), .int (pp 56), .int (pp 57), .int (pp 58)])), (y 43, aI V 4 (ff 24)), (y 44, aI V 4 (ff 25)), (y 45, aI V 4 (ff 26)), (y 46, aI V 8 (ff 27)), (y 47, aI V 8 (ff 28)), (y 48, aI V 8 (ff 29)), (y 49, aI V 900 (ff 30)), (y 50, .inr (3, [.ref (y 51), .int (pp 59), .int (pp 60), .int (pp 61), .int (pp 62)])), (y 51, .inr (1, [.int (pp 63), .int (pp 64), .int (pp 65), .int (pp 66), .int (pp 67), .int (pp 68), .ref (y 52), .ref (y 53), .ref (y 54), .ref (y 55), .ref (y 56), .ref (y 57), .ref (y 58), .int (pp 69), .int (pp 70), .int (pp 71), .int (pp 72), .int (pp 73)])), (y 52, aI V 4 (ff 31)), (y 53, aI V 4 (ff 32)), (y 54, aI V 4 (ff 33)), (y 55, aI V 8 (ff 34)), (y 56, aI V 8 (ff 35)), (y 57, aI V 8 (ff 36)), (y 58, aI V 900 (ff 37)), (Yw 7, aI V n (ee 6))]) (rest := []) G (k_X9_rows_0 l V n L Yw y a1 a2 a3 (pp 0) o11 (pp 1) (pp 2) (pp 3) (pp 4) (pp 5) (pp 6) (pp 7) (pp 8) (pp 9) (pp 10) (pp 11) (pp 12) (pp 13) (pp 14) (ff 1) (ff 7) (ff 15) (ff 16) (ff 17) (qq 0) wa (qq 5) (qq 6) wb (qq 14) (qq 15) (qq 16) (ee 0) (ee 1) (ee 2) (ee 3) (ee 4) (ee 5) (ee 7) (ee 8) hn hL hq (hp 0) (hp 5) (hp 6) (hp 7) (hp 10) (hp 11) (hp 12) (hp 13) (hp 14) hw_q0 hw_q5 hw_q6 hw_q14 hw_q16 hw_tYw1 hw_tYw4 hw_tYw5 hw_tYw6 hw_WA hw_WB hw_WC) mt_X9_rows q_4_158 ⟨Nat.le_of_ble_eq_true rfl, Nat.le_of_ble_eq_true rfl⟩ hP hD hS [0, 2, 3, 9, 19, 20, 21, 22, 59, 60, 61, 62, 63, 64, 65, 67, 68] [1, 4, 5, 6, 7, 8, 10, 11, 12, 13, 14, 15, 16, 17, 18, 23, 24, 25, 26, 27, 28, 29, 30, 31, 32, 33, 34, 35, 36, 37, 38, 39, 40, 41, 42, 43, 44, 45, 46, 47, 48, 49, 50, 51, 52, 53, 54, 55, 56, 57, 58, 66] (by decide +kernel) rfl rfl (by decide +kernel) (by decide +kernel) 0 rfl rfl rfl rfl hlz rfl (Nat.le_of_ble_eq_true rfl) dL_law_833 (PTn_room hT hw_q0) (fun r w H locs hw hP hD hS => ?_)
  refine Exists.elim hw (fun g0 hw => ?_)
  refine Exists.elim hw (fun g1 hw => ?_)
  refine Exists.elim hw (fun g2 hw => ?_)
  refine Exists.elim hw (fun wa2 hw => ?_)
  refine Exists.elim hw (fun v4 hw => ?_)
  refine Exists.elim hw (fun v5 hw => ?_)
  refine Exists.elim hw (fun wb2 hw => ?_)
  refine Exists.elim hw (fun v7 hw => ?_)
  refine Exists.elim hw (fun v8 hw => ?_)
  refine Exists.elim hw (fun v9 hw => ?_)
  refine Exists.elim hw (fun g10 hw => ?_)
  refine Exists.elim hw (fun g11 hw => ?_)
  refine Exists.elim hw (fun g12 hw => ?_)
  refine Exists.elim hw (fun g13 hw => ?_)
  refine Exists.elim hw (fun g14 hw => ?_)
  refine Exists.elim hw (fun g15 hw => ?_)
  refine Exists.elim hw (fun g16 hw => ?_)
  refine Exists.elim hw (fun g17 hw => ?_)
  refine And.elim (fun bv4 hw => ?_) hw
  refine And.elim (fun bv5 hw => ?_) hw
  refine And.elim (fun bv7 hw => ?_) hw
  refine And.elim (fun bv9 hw => ?_) hw
  refine And.elim (fun bg10 hw => ?_) hw
  refine And.elim (fun bg13 hw => ?_) hw
  refine And.elim (fun bg14 hw => ?_) hw
  refine And.elim (fun bg15 hw => ?_) hw
  refine And.elim (fun g_0 hw => ?_) hw
  refine And.elim (fun g_1 hw => ?_) hw
  refine And.elim (fun g_2 hw => ?_) hw
  subst hw
  have hP := ptP (ws' := wB V y pp (up9 (up9 (up9 ff 15 g0) 16 g1) 17 g2) gg (.ref (Yw 0)) o11 ++ wY V y n L Yw wa2 wb2 (br9 17 (br9 8 (br9 4 qq (br9 6 (br9 5 qq (lf9 v4)) (br9 7 (lf9 v5) qq))) (br9 12 qq (br9 14 qq (br9 15 (lf9 v7) (br9 16 (lf9 v8) (lf9 v9)))))) qq) (br9 9 (br9 4 (br9 2 (br9 1 (lf9 g10) (lf9 g11)) (br9 3 (lf9 g12) (lf9 g13))) (br9 6 (br9 5 (lf9 g14) (lf9 g15)) (br9 7 ee (br9 8 (lf9 g16) (lf9 g17))))) ee)) hP [52, 0, 53, 54, 1, 2, 3, 4, 5, 55, 6, 7, 8, 9, 10, 11, 12, 13, 14, 56, 57, 58, 59, 15, 16, 17, 18, 19, 20, 21, 22, 23, 24, 25, 26, 27, 28, 29, 30, 31, 32, 33, 34, 35, 36, 37, 38, 39, 40, 41, 42, 43, 44, 45, 46, 47, 48, 49, 50, 60, 61, 62, 63, 64, 65, 66, 51, 67, 68] rfl
  have hD := hD.part (cx := wB V y pp (up9 (up9 (up9 ff 15 g0) 16 g1) 17 g2) gg (.ref (Yw 0)) o11 ++ wY V y n L Yw wa2 wb2 (br9 17 (br9 8 (br9 4 qq (br9 6 (br9 5 qq (lf9 v4)) (br9 7 (lf9 v5) qq))) (br9 12 qq (br9 14 qq (br9 15 (lf9 v7) (br9 16 (lf9 v8) (lf9 v9)))))) qq) (br9 9 (br9 4 (br9 2 (br9 1 (lf9 g10) (lf9 g11)) (br9 3 (lf9 g12) (lf9 g13))) (br9 6 (br9 5 (lf9 g14) (lf9 g15)) (br9 7 ee (br9 8 (lf9 g16) (lf9 g17))))) ee)) [52, 0, 53, 54, 1, 2, 3, 4, 5, 55, 6, 7, 8, 9, 10, 11, 12, 13, 14, 56, 57, 58, 59, 15, 16, 17, 18, 19, 20, 21, 22, 23, 24, 25, 26, 27, 28, 29, 30, 31, 32, 33, 34, 35, 36, 37, 38, 39, 40, 41, 42, 43, 44, 45, 46, 47, 48, 49, 50, 60, 61, 62, 63, 64, 65, 66, 51, 67, 68] (by decide +kernel) rfl
  rw [← as4] at hP hD
  exact kk r H locs (cells + 0) (slots + 0) _ ⟨pp, (up9 (up9 (up9 ff 15 g0) 16 g1) 17 g2), gg, .ref (Yw 0), o11, _, hp, ht0, ht1, ht2, ht3, ht4, Or.inr ⟨n, L, Yw, wa2, wb2, (br9 17 (br9 8 (br9 4 qq (br9 6 (br9 5 qq (lf9 v4)) (br9 7 (lf9 v5) qq))) (br9 12 qq (br9 14 qq (br9 15 (lf9 v7) (br9 16 (lf9 v8) (lf9 v9)))))) qq), (br9 9 (br9 4 (br9 2 (br9 1 (lf9 g10) (lf9 g11)) (br9 3 (lf9 g12) (lf9 g13))) (br9 6 (br9 5 (lf9 g14) (lf9 g15)) (br9 7 ee (br9 8 (lf9 g16) (lf9 g17))))) ee), fr, fm, ⟨hn, hL, hw_q0, bv4, bv5, bv7, bv9, bg10, bg13, bg14, bg15, hw_tYw7, g_0, g_1, g_2⟩, hF, hT, rfl, rfl⟩, rfl⟩ hP hD hS
set_option maxHeartbeats 4000000 in
set_option maxRecDepth 100000 in
theorem cx_21_b {p : Program} {e : Env} {s : State} {m : MethodId} {below : List Frame} {meth : Method} {c : Code} {l : Launch} {b Lk : Nat} {xs : Nat → Int32} {V : GV} {y : Nat → Nat} {τ : Nat → Int32} {H : Heap} {locs : List Loc} {cells slots : Nat} {wz : va_W} {ls : Array Slot} (G : LCx p s m meth c b Lk xs V) (a1 : Int32) (a2 : Int32) (a3 : Int32) {pp : Nat → Int32} {ff : Nat → Nat → Int32} {gg : Nat → Nat → Int64} {n L : Nat} {Yw : Nat → Nat} {wa wb : Nat} {qq : Nat → Int32} {ee : Nat → Nat → Int32} {o11 : Value} {fr : va_W} {fm : Nat} (hp : ivT tX pp) (ht0 : pp 0 = τ 0) (ht1 : pp 15 = τ 1) (ht2 : pp 16 = τ 2) (ht3 : BTs (ff 0) (tauT τ)) (ht4 : (∀ j, iv (-128) 127 ((ff 0) j))) (hW : WFa n L qq ee) (hF : RFo V o11 fr fm) (hT : PTn cells slots n fm (qq 0)) (hq : qq 0 < pp 5) (hg : 0 ≤ (a1 : Int32).toInt ∧ (a1 : Int32).toInt < ((pp 5) : Int32).toInt ∧ 0 ≤ (a2 : Int32).toInt ∧ (a2 : Int32).toInt ≤ 4 ∧ 0 ≤ (a3 : Int32).toInt ∧ (a3 : Int32).toInt ≤ 12) (hP : va_P V.1 vwCl (wB V y pp ff gg (.ref (Yw 0)) o11 ++ (wY V y n L Yw wa wb qq ee ++ fr) ++ wz) H) (hD : va_D (AAs s) (wB V y pp ff gg (.ref (Yw 0)) o11 ++ (wY V y n L Yw wa wb qq ee ++ fr) ++ wz)) (hS : va_S (AAs s) s.heap H locs) (hlz : ls.size = 4) (kk : (∀ (r : Int64) (H : Heap) (locs : List Loc) (cells slots : Nat) (wx : va_W), KX V y cells slots τ wx → va_P V.1 vwCl (wx ++ wz) H → va_D (AAs s) (wx ++ wz) → va_S (AAs s) s.heap H locs → W p l e room_1 s m #[Value.ref b] below meth c H locs cells slots (lw_Z below #[Value.ref b] s) (F0 m 836 ls [.long r]))) : W p l e room_1 s m #[Value.ref b] below meth c H locs cells slots (lw_Z below #[Value.ref b] s) (F0 m 833 ls [.int a3, .int a2, .int a1, .ref (y 0)]) := by
  obtain ⟨hn, hL, hw_q0, hw_q5, hw_q6, hw_q14, hw_q16, hw_tYw1, hw_tYw4, hw_tYw5, hw_tYw6, hw_tYw7, hw_WA, hw_WB, hw_WC⟩ := id hW
  have hTB := PTn_B 10 46481 hT hw_q0 (hp 5) hq (by decide) (by decide)
  rw [as4] at hP hD
  refine cXL (X := wB V y pp ff gg (.ref (Yw 0)) o11 ++ wY V y n L Yw wa wb qq ee) (pl := fr ++ wz) (wr := [(y 1, aB V 900 (ff 0)), (y 4, aI V 4 (ff 2)), (y 5, aI V 4 (ff 3)), (y 6, aI V 8 (ff 4)), (y 7, aI V 8 (ff 5)), (y 8, aI V 8 (ff 6)), (y 10, .inr (6, [.ref (y 11), .int (pp 15), .int (pp 16), .ref (y 1), .int (pp 17), .int (pp 18), .int (pp 19), .int (pp 20), .int (pp 21)])), (y 11, .inr (1, [.int (pp 22), .int (pp 23), .int (pp 24), .int (pp 25), .int (pp 26), .int (pp 27), .ref (y 12), .ref (y 13), .ref (y 14), .ref (y 15), .ref (y 16), .ref (y 17), .ref (y 18), .int (pp 28), .int (pp 29), .int (pp 30), .int (pp 31), .int (pp 32)])), (y 12, aI V 4 (ff 8)), (y 13, aI V 4 (ff 9)), (y 14, aI V 4 (ff 10)), (y 15, aI V 8 (ff 11)), (y 16, aI V 8 (ff 12)), (y 17, aI V 8 (ff 13)), (y 18, aI V 900 (ff 14)), (y 23, aI V 10 (ff 18)), (y 24, aI V 10 (ff 19)), (y 25, .inr (0, [.int (pp 33), .int (pp 34)])), (y 26, .inr (5, [.ref (y 27), .ref (y 28), .ref (y 29), .int (pp 35)])), (y 27, aI V 10 (ff 20)), (y 28, aI V 10 (ff 21)), (y 29, aI V 10 (ff 22)), (y 30, aT V 4 (va_up (va_up (va_up (va_up (fun _ => none) 0 (some (y 33))) 1 (some (y 35))) 2 (some (y 37))) 3 (some (y 39)))), (y 31, aM V 2 (va_up (va_up (fun _ => none) 0 (some (y 41))) 1 (some (y 50)))), (y 32, aI V 10 (ff 23)), (y 33, .inr (7, [.ref (y 34), .int (pp 36), .int (pp 37)])), (y 34, aJ V 40 (gg 0)), (y 35, .inr (7, [.ref (y 36), .int (pp 38), .int (pp 39)])), (y 36, aJ V 40 (gg 1)), (y 37, .inr (7, [.ref (y 38), .int (pp 40), .int (pp 41)])), (y 38, aJ V 40 (gg 2)), (y 39, .inr (7, [.ref (y 40), .int (pp 42), .int (pp 43)])), (y 40, aJ V 40 (gg 3)), (y 41, .inr (3, [.ref (y 42), .int (pp 44), .int (pp 45), .int (pp 46), .int (pp 47)])), (y 42, .inr (1, [.int (pp 48), .int (pp 49), .int (pp 50), .int (pp 51), .int (pp 52), .int (pp 53), .ref (y 43), .ref (y 44), .ref (y 45), .ref (y 46), .ref (y 47), .ref (y 48), .ref (y 49), .int (pp 54), .int (pp 55), .int (pp 56), .int (pp 57), .int (pp 58)])), (y 43, aI V 4 (ff 24)), (y 44, aI V 4 (ff 25)), (y 45, aI V 4 (ff 26)), (y 46, aI V 8 (ff 27)), (y 47, aI V 8 (ff 28)), (y 48, aI V 8 (ff 29)), (y 49, aI V 900 (ff 30)), (y 50, .inr (3, [.ref (y 51), .int (pp 59), .int (pp 60), .int (pp 61), .int (pp 62)])), (y 51, .inr (1, [.int (pp 63), .int (pp 64), .int (pp 65), .int (pp 66), .int (pp 67), .int (pp 68), .ref (y 52), .ref (y 53), .ref (y 54), .ref (y 55), .ref (y 56), .ref (y 57), .ref (y 58), .int (pp 69), .int (pp 70), .int (pp 71), .int (pp 72), .int (pp 73)])), (y 52, aI V 4 (ff 31)), (y 53, aI V 4 (ff 32)), (y 54, aI V 4 (ff 33)), (y 55, aI V 8 (ff 34)), (y 56, aI V 8 (ff 35)), (y 57, aI V 8 (ff 36)), (y 58, aI V 900 (ff 37))]) (rest := []) G (k_X9_rows_3 l V n L Yw y a1 a2 a3 (pp 0) o11 (pp 1) (pp 2) (pp 3) (pp 4) (pp 5) (pp 6) (pp 7) (pp 8) (pp 9) (pp 10) (pp 11) (pp 12) (pp 13) (pp 14) (ff 1) (ff 7) (ff 15) (ff 16) (ff 17) (qq 0) wa (qq 5) (qq 6) wb (qq 14) (qq 15) (qq 16) (ee 0) (ee 1) (ee 2) (ee 3) (ee 4) (ee 5) (ee 6) (ee 7) (ee 8) hn hL hq (hp 0) (hp 5) (hp 6) (hp 7) (hp 10) (hp 11) (hp 12) (hp 13) (hp 14) hw_q0 hw_q5 hw_q6 hw_q14 hw_q16 hw_tYw1 hw_tYw4 hw_tYw5 hw_tYw6 hw_tYw7 hw_WA hw_WB hw_WC hg.1 hg.2.1 hg.2.2.1 hg.2.2.2.1 hg.2.2.2.2.1 hg.2.2.2.2.2) mt_X9_rows q_4_158 ⟨Nat.le_of_ble_eq_true rfl, Nat.le_of_ble_eq_true rfl⟩ hP hD hS [0, 2, 3, 9, 19, 20, 21, 22, 59, 60, 61, 62, 63, 64, 65, 66, 67, 68] [1, 4, 5, 6, 7, 8, 10, 11, 12, 13, 14, 15, 16, 17, 18, 23, 24, 25, 26, 27, 28, 29, 30, 31, 32, 33, 34, 35, 36, 37, 38, 39, 40, 41, 42, 43, 44, 45, 46, 47, 48, 49, 50, 51, 52, 53, 54, 55, 56, 57, 58] (by decide +kernel) rfl rfl (by decide +kernel) (by decide +kernel) 0 rfl rfl rfl rfl hlz rfl (Nat.le_of_ble_eq_true rfl) dL_law_833 hTB.1 (fun r w H locs hw hP hD hS => ?_)
  refine Exists.elim hw (fun n1 hw => ?_)
  refine Exists.elim hw (fun L1 hw => ?_)
  refine Exists.elim hw (fun Yw1 hw => ?_)
  refine Exists.elim hw (fun wa1 hw => ?_)
  refine Exists.elim hw (fun wb1 hw => ?_)
  refine Exists.elim hw (fun g0 hw => ?_)
  refine Exists.elim hw (fun g1 hw => ?_)
  refine Exists.elim hw (fun g2 hw => ?_)
  refine Exists.elim hw (fun ww0 hw => ?_)
  refine Exists.elim hw (fun ww5 hw => ?_)
  refine Exists.elim hw (fun ww6 hw => ?_)
  refine Exists.elim hw (fun ww14 hw => ?_)
  refine Exists.elim hw (fun ww15 hw => ?_)
  refine Exists.elim hw (fun ww16 hw => ?_)
  refine Exists.elim hw (fun wew1 hw => ?_)
  refine Exists.elim hw (fun wew2 hw => ?_)
  refine Exists.elim hw (fun wew3 hw => ?_)
  refine Exists.elim hw (fun wew4 hw => ?_)
  refine Exists.elim hw (fun wew5 hw => ?_)
  refine Exists.elim hw (fun wew6 hw => ?_)
  refine Exists.elim hw (fun wew7 hw => ?_)
  refine Exists.elim hw (fun wew8 hw => ?_)
  refine Exists.elim hw (fun wew9 hw => ?_)
  refine And.elim (fun hn1 hw => ?_) hw
  refine And.elim (fun hL1 hw => ?_) hw
  refine And.elim (fun bww0 hw => ?_) hw
  refine And.elim (fun bww5 hw => ?_) hw
  refine And.elim (fun bww6 hw => ?_) hw
  refine And.elim (fun bww14 hw => ?_) hw
  refine And.elim (fun bww16 hw => ?_) hw
  refine And.elim (fun bwew1 hw => ?_) hw
  refine And.elim (fun bwew4 hw => ?_) hw
  refine And.elim (fun bwew5 hw => ?_) hw
  refine And.elim (fun bwew6 hw => ?_) hw
  refine And.elim (fun bwew7 hw => ?_) hw
  refine And.elim (fun g_0 hw => ?_) hw
  refine And.elim (fun g_1 hw => ?_) hw
  refine And.elim (fun g_2 hw => ?_) hw
  refine And.elim (fun g_3 hw => ?_) hw
  subst hw
  have hP := ptP (ws' := wB V y pp (up9 (up9 (up9 ff 15 g0) 16 g1) 17 g2) gg (.ref (Yw1 0)) o11 ++ wY V y n1 L1 Yw1 wa1 wb1 (br9 17 (br9 8 (br9 4 (br9 2 (br9 1 (lf9 ww0) (fun _ => 0)) (fun _ => 0)) (br9 6 (br9 5 (fun _ => 0) (lf9 ww5)) (br9 7 (lf9 ww6) (fun _ => 0)))) (br9 12 (fun _ => 0) (br9 14 (fun _ => 0) (br9 15 (lf9 ww14) (br9 16 (lf9 ww15) (lf9 ww16)))))) (fun _ => 0)) (br9 9 (br9 4 (br9 2 (br9 1 (lf9 wew1) (lf9 wew2)) (br9 3 (lf9 wew3) (lf9 wew4))) (br9 6 (br9 5 (lf9 wew5) (lf9 wew6)) (br9 7 (lf9 wew7) (br9 8 (lf9 wew8) (lf9 wew9))))) (fun _ _ => 0))) hP [51, 0, 52, 53, 1, 2, 3, 4, 5, 54, 6, 7, 8, 9, 10, 11, 12, 13, 14, 55, 56, 57, 58, 15, 16, 17, 18, 19, 20, 21, 22, 23, 24, 25, 26, 27, 28, 29, 30, 31, 32, 33, 34, 35, 36, 37, 38, 39, 40, 41, 42, 43, 44, 45, 46, 47, 48, 49, 50, 59, 60, 61, 62, 63, 64, 65, 66, 67, 68] rfl
  have hD := hD.part (cx := wB V y pp (up9 (up9 (up9 ff 15 g0) 16 g1) 17 g2) gg (.ref (Yw1 0)) o11 ++ wY V y n1 L1 Yw1 wa1 wb1 (br9 17 (br9 8 (br9 4 (br9 2 (br9 1 (lf9 ww0) (fun _ => 0)) (fun _ => 0)) (br9 6 (br9 5 (fun _ => 0) (lf9 ww5)) (br9 7 (lf9 ww6) (fun _ => 0)))) (br9 12 (fun _ => 0) (br9 14 (fun _ => 0) (br9 15 (lf9 ww14) (br9 16 (lf9 ww15) (lf9 ww16)))))) (fun _ => 0)) (br9 9 (br9 4 (br9 2 (br9 1 (lf9 wew1) (lf9 wew2)) (br9 3 (lf9 wew3) (lf9 wew4))) (br9 6 (br9 5 (lf9 wew5) (lf9 wew6)) (br9 7 (lf9 wew7) (br9 8 (lf9 wew8) (lf9 wew9))))) (fun _ _ => 0))) [51, 0, 52, 53, 1, 2, 3, 4, 5, 54, 6, 7, 8, 9, 10, 11, 12, 13, 14, 55, 56, 57, 58, 15, 16, 17, 18, 19, 20, 21, 22, 23, 24, 25, 26, 27, 28, 29, 30, 31, 32, 33, 34, 35, 36, 37, 38, 39, 40, 41, 42, 43, 44, 45, 46, 47, 48, 49, 50, 59, 60, 61, 62, 63, 64, 65, 66, 67, 68] (by decide +kernel) rfl
  rw [← as4] at hP hD
  exact kk r H locs (cells + 10) (slots + 46481) _ ⟨pp, (up9 (up9 (up9 ff 15 g0) 16 g1) 17 g2), gg, .ref (Yw1 0), o11, _, hp, ht0, ht1, ht2, ht3, ht4, Or.inr ⟨n1, L1, Yw1, wa1, wb1, (br9 17 (br9 8 (br9 4 (br9 2 (br9 1 (lf9 ww0) (fun _ => 0)) (fun _ => 0)) (br9 6 (br9 5 (fun _ => 0) (lf9 ww5)) (br9 7 (lf9 ww6) (fun _ => 0)))) (br9 12 (fun _ => 0) (br9 14 (fun _ => 0) (br9 15 (lf9 ww14) (br9 16 (lf9 ww15) (lf9 ww16)))))) (fun _ => 0)), (br9 9 (br9 4 (br9 2 (br9 1 (lf9 wew1) (lf9 wew2)) (br9 3 (lf9 wew3) (lf9 wew4))) (br9 6 (br9 5 (lf9 wew5) (lf9 wew6)) (br9 7 (lf9 wew7) (br9 8 (lf9 wew8) (lf9 wew9))))) (fun _ _ => 0)), fr, fm, ⟨hn1, hL1, bww0, bww5, bww6, bww14, bww16, bwew1, bwew4, bwew5, bwew6, bwew7, g_0, g_1, g_2⟩, hF, (show PTn _ _ _ _ ww0 from by rw [g_3]; exact hTB.2 n1 fm), rfl, rfl⟩, rfl⟩ hP hD hS
set_option maxHeartbeats 4000000 in
set_option maxRecDepth 100000 in
theorem cx_21 {p : Program} {e : Env} {s : State} {m : MethodId} {below : List Frame} {meth : Method} {c : Code} {l : Launch} {b Lk : Nat} {xs : Nat → Int32} {V : GV} {y : Nat → Nat} {τ : Nat → Int32} {H : Heap} {locs : List Loc} {cells slots : Nat} {wz : va_W} {ls : Array Slot} (G : LCx p s m meth c b Lk xs V) (a1 : Int32) (a2 : Int32) (a3 : Int32) {wx : va_W} (kx : KX V y cells slots τ wx) (hP : va_P V.1 vwCl (wx ++ wz) H) (hD : va_D (AAs s) (wx ++ wz)) (hS : va_S (AAs s) s.heap H locs) (hlz : ls.size = 4) (kk : (∀ (r : Int64) (H : Heap) (locs : List Loc) (cells slots : Nat) (wx : va_W), KX V y cells slots τ wx → va_P V.1 vwCl (wx ++ wz) H → va_D (AAs s) (wx ++ wz) → va_S (AAs s) s.heap H locs → W p l e room_1 s m #[Value.ref b] below meth c H locs cells slots (lw_Z below #[Value.ref b] s) (F0 m 836 ls [.long r]))) : W p l e room_1 s m #[Value.ref b] below meth c H locs cells slots (lw_Z below #[Value.ref b] s) (F0 m 833 ls [.int a3, .int a2, .int a1, .ref (y 0)]) := by
  obtain ⟨pp, ff, gg, o10, o11, rest, hp, ht0, ht1, ht2, ht3, ht4, hR, rfl⟩ := kx
  by_cases hg : 0 ≤ (a1 : Int32).toInt ∧ (a1 : Int32).toInt < ((pp 5) : Int32).toInt ∧ 0 ≤ (a2 : Int32).toInt ∧ (a2 : Int32).toInt ≤ 4 ∧ 0 ≤ (a3 : Int32).toInt ∧ (a3 : Int32).toInt ≤ 12
  · rcases hR with ⟨rfl, rfl, rfl, hc⟩ | ⟨n, L, Yw, wa, wb, qq, ee, fr, fm, hW, hF, hT, rfl, rfl⟩
    · exact cx_21_0 G _ _ _ hp ht0 ht1 ht2 ht3 ht4 hc hg hP hD hS hlz kk
    · rcases Classical.em (pp 5 ≤ qq 0) with hq | hq
      · exact cx_21_a G _ _ _ hp ht0 ht1 ht2 ht3 ht4 hW hF hT hq hP hD hS hlz kk
      · replace hq := Int32.not_le.mp hq
        exact cx_21_b G _ _ _ hp ht0 ht1 ht2 ht3 ht4 hW hF hT hq hg hP hD hS hlz kk
  · exact cx_21_e G _ _ _ hp ht0 ht1 ht2 ht3 ht4 hR hg hP hD hS hlz kk
theorem q_7_217 : Cond.code yX10_rows prog_12_method_94_code 8 (some FieldType.long) ∈ gw := gw_7 (i := 217) (rfl) rfl
theorem q_7_215 : Cond.instanceMethod yX10_rows ∈ gw := gw_7 (i := 215) (by decide +kernel) rfl
theorem q_7_216 : Cond.selects "BeaconDelayModel" yX10_rows yX10_rows ∈ gw := gw_7 (i := 216) (by decide +kernel) rfl
theorem mt_X10_rows : MtV yX10_rows cX10_rows 8 (some .long) 3 := ⟨⟨q_7_217, q_1_9, by decide +kernel, by decide +kernel, by decide +kernel⟩, q_7_215, q_7_216⟩
theorem q_7_214 : Cond.methodLink "BeaconDelayLaw" 106 yX10_rows ∈ gw := gw_7 (i := 214) (by decide +kernel) rfl
theorem dL_law_853 : decode cL_law 853 = .ok (.invokevirtual 106, 3) := by decide +kernel
set_option maxHeartbeats 4000000 in
set_option maxRecDepth 100000 in
theorem cz_21 {p : Program} {e : Env} {s : State} {m : MethodId} {below : List Frame} {meth : Method} {c : Code} {l : Launch} {b Lk : Nat} {xs : Nat → Int32} {V : GV} {z : Nat → Nat} {τ : Nat → Int32} {H : Heap} {locs : List Loc} {cells slots : Nat} {wx : va_W} {ls : Array Slot} {rest : List Value} (G : LCx p s m meth c b Lk xs V) (a1 : Int32) (a2 : Int32) (a3 : Int32) {wz : va_W} (kz : KZ V z τ wz) (hP : va_P V.1 vwCl (wx ++ wz) H) (hD : va_D (AAs s) (wx ++ wz)) (hS : va_S (AAs s) s.heap H locs) (hcs : cells + 0 ≤ 600000 ∧ slots + 0 ≤ 7302250) (hro : (rest.map fun v => v.category).sum ≤ 8) (hlz : ls.size = 4) (kk : (∀ (r : Int64) (H : Heap) (locs : List Loc) (wz : va_W), KZ V z τ wz → va_P V.1 vwCl (wx ++ wz) H → va_D (AAs s) (wx ++ wz) → va_S (AAs s) s.heap H locs → W p l e room_1 s m #[Value.ref b] below meth c H locs cells slots (lw_Z below #[Value.ref b] s) (F0 m 856 ls (.long r :: rest)))) : W p l e room_1 s m #[Value.ref b] below meth c H locs cells slots (lw_Z below #[Value.ref b] s) (F0 m 853 ls (.int a3 :: .int a2 :: .int a1 :: .ref (z 0) :: rest)) := by
  obtain ⟨pz, fz, gz, hp, ht0, ht1, ht2, ht3, hz_tz1, hz_tz3, hz_tz4, hz_tz16, hz_tz17, hz_tz20, hz_tz21, hz_tz24, hz_tz25, hz_tz26, hz_tz27, hz_tz33, hz_tz34, hz_tz37, hz_tz38, hz_RW, rfl⟩ := kz
  replace hP := swP hP
  replace hD := swD hD
  refine cSL (X := wZ V z pz fz gz) (pl := wx) (rest := rest) G (k_X10_rows_0 l V z a1 a2 a3 (pz 0) (pz 5) (pz 6) (pz 7) (pz 8) (pz 9) (pz 10) (pz 11) (pz 12) (pz 13) (pz 14) (pz 18) (pz 19) (pz 22) (pz 23) (pz 29) (fz 0) (fz 4) (fz 5) (fz 9) (fz 10) (fz 13) (gz 0) (gz 1) (hp 5) (hp 6) (hp 7) (hp 8) (hp 10) (hp 11) (hp 12) (hp 13) (hp 14) (hp 18) (hp 22) (hp 29) hz_tz1 hz_tz16 hz_tz24 hz_tz25 hz_RW) mt_X10_rows q_7_214 ⟨Nat.le_of_ble_eq_true rfl, Nat.le_of_ble_eq_true rfl⟩ hP hD hS [0, 1, 5, 6, 10, 11, 14, 15, 16] [0, 0, 3, 0, 3, 0, 2, 0, 0] (by decide) (by decide +kernel) rfl 0 rfl rfl rfl rfl hlz rfl hro dL_law_853 hcs (fun r w H locs hw hPD hS => ?_)
  refine Exists.elim hw (fun v0 hw => ?_)
  refine Exists.elim hw (fun v1 hw => ?_)
  refine Exists.elim hw (fun g2 hw => ?_)
  refine Exists.elim hw (fun g3 hw => ?_)
  refine Exists.elim hw (fun g4 hw => ?_)
  refine Exists.elim hw (fun g5 hw => ?_)
  refine Exists.elim hw (fun g6 hw => ?_)
  refine Exists.elim hw (fun g7 hw => ?_)
  refine Exists.elim hw (fun g8 hw => ?_)
  refine And.elim (fun bv1 hw => ?_) hw
  refine And.elim (fun bg3 hw => ?_) hw
  refine And.elim (fun bg4 hw => ?_) hw
  refine And.elim (fun bg5 hw => ?_) hw
  refine And.elim (fun g_0 hw => ?_) hw
  subst hw
  obtain ⟨hP, hD⟩ := hPD (wZ V z (up9 (up9 pz 0 v0) 29 v1) (br9 14 (br9 7 (br9 3 fz (br9 5 (br9 4 fz (lf9 g2)) (br9 6 (lf9 g3) fz))) (br9 10 (br9 8 fz (br9 9 fz (lf9 g4))) (br9 12 (br9 11 (lf9 g5) fz) (br9 13 fz (lf9 g6))))) fz) (up9 (up9 gz 0 g7) 1 g8)) rfl rfl
  replace hP := swP hP
  replace hD := swD hD
  exact kk r H locs _ ⟨(up9 (up9 pz 0 v0) 29 v1), (br9 14 (br9 7 (br9 3 fz (br9 5 (br9 4 fz (lf9 g2)) (br9 6 (lf9 g3) fz))) (br9 10 (br9 8 fz (br9 9 fz (lf9 g4))) (br9 12 (br9 11 (lf9 g5) fz) (br9 13 fz (lf9 g6))))) fz), (up9 (up9 gz 0 g7) 1 g8), (ivUp 29 (ivUp 0 hp (iv_top v0)) bv1), ht0, ht1, ht2, ht3, hz_tz1, hz_tz3, hz_tz4, bg3, hz_tz17, hz_tz20, hz_tz21, bg4, bg5, hz_tz26, hz_tz27, hz_tz33, hz_tz34, hz_tz37, hz_tz38, g_0, rfl⟩ hP hD hS
theorem q_4_193 : Cond.code yX9_keeps prog_1_method_42_code 2 (some FieldType.int) ∈ gw := gw_4 (i := 193) (rfl) rfl
theorem q_4_191 : Cond.instanceMethod yX9_keeps ∈ gw := gw_4 (i := 191) (by decide +kernel) rfl
theorem q_4_192 : Cond.selects "BeaconDelay" yX9_keeps yX9_keeps ∈ gw := gw_4 (i := 192) (by decide +kernel) rfl
theorem mt_X9_keeps : MtV yX9_keeps cX9_keeps 2 (some .int) 1 := ⟨⟨q_4_193, q_1_1, by decide +kernel, by decide +kernel, by decide +kernel⟩, q_4_191, q_4_192⟩
theorem q_4_190 : Cond.methodLink "BeaconDelayLaw" 107 yX9_keeps ∈ gw := gw_4 (i := 190) (by decide +kernel) rfl
theorem dL_law_866 : decode cL_law 866 = .ok (.invokevirtual 107, 3) := by decide +kernel
set_option maxHeartbeats 4000000 in
set_option maxRecDepth 100000 in
theorem cx_22_e {p : Program} {e : Env} {s : State} {m : MethodId} {below : List Frame} {meth : Method} {c : Code} {l : Launch} {b Lk : Nat} {xs : Nat → Int32} {V : GV} {y : Nat → Nat} {τ : Nat → Int32} {H : Heap} {locs : List Loc} {cells slots : Nat} {wz : va_W} {ls : Array Slot} (G : LCx p s m meth c b Lk xs V) (a1 : Int32) {pp : Nat → Int32} {ff : Nat → Nat → Int32} {gg : Nat → Nat → Int64} {o10 o11 : Value} {rest : va_W} (hp : ivT tX pp) (ht0 : pp 0 = τ 0) (ht1 : pp 15 = τ 1) (ht2 : pp 16 = τ 2) (ht3 : BTs (ff 0) (tauT τ)) (ht4 : (∀ j, iv (-128) 127 ((ff 0) j))) (hR : RRo V y cells slots o10 o11 rest) (hg : ¬ (0 ≤ (a1 : Int32).toInt ∧ (a1 : Int32).toInt ≤ 4)) (hP : va_P V.1 vwCl (wB V y pp ff gg o10 o11 ++ rest ++ wz) H) (hD : va_D (AAs s) (wB V y pp ff gg o10 o11 ++ rest ++ wz)) (hS : va_S (AAs s) s.heap H locs) (hlz : ls.size = 4) (kk : (∀ (r : Int32) (H : Heap) (locs : List Loc) (cells slots : Nat) (wx : va_W), KX V y cells slots τ wx → va_P V.1 vwCl (wx ++ wz) H → va_D (AAs s) (wx ++ wz) → va_S (AAs s) s.heap H locs → W p l e room_1 s m #[Value.ref b] below meth c H locs cells slots (lw_Z below #[Value.ref b] s) (F0 m 869 ls [.int r]))) : W p l e room_1 s m #[Value.ref b] below meth c H locs cells slots (lw_Z below #[Value.ref b] s) (F0 m 866 ls [.int a1, .ref (y 0)]) := by
  rw [as3] at hP hD
  refine cSI (X := wB V y pp ff gg o10 o11) (pl := rest ++ wz) (rest := []) G (k_X9_keeps_1 l V y a1 hg) mt_X9_keeps q_4_190 ⟨Nat.le_of_ble_eq_true rfl, Nat.le_of_ble_eq_true rfl⟩ hP hD hS [] [] (by decide) (by decide +kernel) rfl 0 rfl rfl rfl rfl hlz rfl (Nat.le_of_ble_eq_true rfl) dL_law_866 hR.room (fun r w H locs hw hPD hS => ?_)
  refine And.elim (fun br hw => ?_) hw
  subst hw
  obtain ⟨hP, hD⟩ := hPD (wB V y pp ff gg o10 o11) rfl rfl
  rw [← as3] at hP hD
  exact kk r H locs (cells + 0) (slots + 0) _ ⟨pp, ff, gg, o10, o11, rest, hp, ht0, ht1, ht2, ht3, ht4, hR, rfl⟩ hP hD hS
set_option maxHeartbeats 4000000 in
set_option maxRecDepth 100000 in
theorem cx_22_0 {p : Program} {e : Env} {s : State} {m : MethodId} {below : List Frame} {meth : Method} {c : Code} {l : Launch} {b Lk : Nat} {xs : Nat → Int32} {V : GV} {y : Nat → Nat} {τ : Nat → Int32} {H : Heap} {locs : List Loc} {cells slots : Nat} {wz : va_W} {ls : Array Slot} (G : LCx p s m meth c b Lk xs V) (a1 : Int32) {pp : Nat → Int32} {ff : Nat → Nat → Int32} {gg : Nat → Nat → Int64} (hp : ivT tX pp) (ht0 : pp 0 = τ 0) (ht1 : pp 15 = τ 1) (ht2 : pp 16 = τ 2) (ht3 : BTs (ff 0) (tauT τ)) (ht4 : (∀ j, iv (-128) 127 ((ff 0) j))) (hc : cells + 116 ≤ 600000 ∧ slots + 633553 ≤ 7302250) (hg : 0 ≤ (a1 : Int32).toInt ∧ (a1 : Int32).toInt ≤ 4) (hP : va_P V.1 vwCl (wB V y pp ff gg .null .null ++ [] ++ wz) H) (hD : va_D (AAs s) (wB V y pp ff gg .null .null ++ [] ++ wz)) (hS : va_S (AAs s) s.heap H locs) (hlz : ls.size = 4) (kk : (∀ (r : Int32) (H : Heap) (locs : List Loc) (cells slots : Nat) (wx : va_W), KX V y cells slots τ wx → va_P V.1 vwCl (wx ++ wz) H → va_D (AAs s) (wx ++ wz) → va_S (AAs s) s.heap H locs → W p l e room_1 s m #[Value.ref b] below meth c H locs cells slots (lw_Z below #[Value.ref b] s) (F0 m 869 ls [.int r]))) : W p l e room_1 s m #[Value.ref b] below meth c H locs cells slots (lw_Z below #[Value.ref b] s) (F0 m 866 ls [.int a1, .ref (y 0)]) := by
  refine cXI (X := wB V y pp ff gg .null .null ++ []) (pl := wz) (wr := [(y 1, aB V 900 (ff 0)), (y 4, aI V 4 (ff 2)), (y 5, aI V 4 (ff 3)), (y 6, aI V 8 (ff 4)), (y 7, aI V 8 (ff 5)), (y 8, aI V 8 (ff 6)), (y 10, .inr (6, [.ref (y 11), .int (pp 15), .int (pp 16), .ref (y 1), .int (pp 17), .int (pp 18), .int (pp 19), .int (pp 20), .int (pp 21)])), (y 11, .inr (1, [.int (pp 22), .int (pp 23), .int (pp 24), .int (pp 25), .int (pp 26), .int (pp 27), .ref (y 12), .ref (y 13), .ref (y 14), .ref (y 15), .ref (y 16), .ref (y 17), .ref (y 18), .int (pp 28), .int (pp 29), .int (pp 30), .int (pp 31), .int (pp 32)])), (y 12, aI V 4 (ff 8)), (y 13, aI V 4 (ff 9)), (y 14, aI V 4 (ff 10)), (y 15, aI V 8 (ff 11)), (y 16, aI V 8 (ff 12)), (y 17, aI V 8 (ff 13)), (y 18, aI V 900 (ff 14)), (y 23, aI V 10 (ff 18)), (y 24, aI V 10 (ff 19)), (y 25, .inr (0, [.int (pp 33), .int (pp 34)])), (y 26, .inr (5, [.ref (y 27), .ref (y 28), .ref (y 29), .int (pp 35)])), (y 27, aI V 10 (ff 20)), (y 28, aI V 10 (ff 21)), (y 29, aI V 10 (ff 22)), (y 30, aT V 4 (va_up (va_up (va_up (va_up (fun _ => none) 0 (some (y 33))) 1 (some (y 35))) 2 (some (y 37))) 3 (some (y 39)))), (y 31, aM V 2 (va_up (va_up (fun _ => none) 0 (some (y 41))) 1 (some (y 50)))), (y 32, aI V 10 (ff 23)), (y 33, .inr (7, [.ref (y 34), .int (pp 36), .int (pp 37)])), (y 34, aJ V 40 (gg 0)), (y 35, .inr (7, [.ref (y 36), .int (pp 38), .int (pp 39)])), (y 36, aJ V 40 (gg 1)), (y 37, .inr (7, [.ref (y 38), .int (pp 40), .int (pp 41)])), (y 38, aJ V 40 (gg 2)), (y 39, .inr (7, [.ref (y 40), .int (pp 42), .int (pp 43)])), (y 40, aJ V 40 (gg 3)), (y 41, .inr (3, [.ref (y 42), .int (pp 44), .int (pp 45), .int (pp 46), .int (pp 47)])), (y 42, .inr (1, [.int (pp 48), .int (pp 49), .int (pp 50), .int (pp 51), .int (pp 52), .int (pp 53), .ref (y 43), .ref (y 44), .ref (y 45), .ref (y 46), .ref (y 47), .ref (y 48), .ref (y 49), .int (pp 54), .int (pp 55), .int (pp 56), .int (pp 57), .int (pp 58)])), (y 43, aI V 4 (ff 24)), (y 44, aI V 4 (ff 25)), (y 45, aI V 4 (ff 26)), (y 46, aI V 8 (ff 27)), (y 47, aI V 8 (ff 28)), (y 48, aI V 8 (ff 29)), (y 49, aI V 900 (ff 30)), (y 50, .inr (3, [.ref (y 51), .int (pp 59), .int (pp 60), .int (pp 61), .int (pp 62)])), (y 51, .inr (1, [.int (pp 63), .int (pp 64), .int (pp 65), .int (pp 66), .int (pp 67), .int (pp 68), .ref (y 52), .ref (y 53), .ref (y 54), .ref (y 55), .ref (y 56), .ref (y 57), .ref (y 58), .int (pp 69), .int (pp 70), .int (pp 71), .int (pp 72), .int (pp 73)])), (y 52, aI V 4 (ff 31)), (y 53, aI V 4 (ff 32)), (y 54, aI V 4 (ff 33)), (y 55, aI V 8 (ff 34)), (y 56, aI V 8 (ff 35)), (y 57, aI V 8 (ff 36)), (y 58, aI V 900 (ff 37))]) (rest := []) G (k_X9_keeps_2 l V y a1 (pp 0) (.null) (pp 1) (pp 2) (pp 3) (pp 4) (pp 5) (pp 6) (pp 7) (pp 8) (pp 9) (pp 10) (pp 11) (pp 12) (pp 13) (pp 14) (ff 1) (ff 7) (ff 15) (ff 16) (ff 17) (hp 0) (hp 5) (hp 6) (hp 7) (hp 10) (hp 11) (hp 12) (hp 13) (hp 14) hg.1 hg.2) mt_X9_keeps q_4_190 ⟨Nat.le_of_ble_eq_true rfl, Nat.le_of_ble_eq_true rfl⟩ hP hD hS [0, 2, 3, 9, 19, 20, 21, 22] [1, 4, 5, 6, 7, 8, 10, 11, 12, 13, 14, 15, 16, 17, 18, 23, 24, 25, 26, 27, 28, 29, 30, 31, 32, 33, 34, 35, 36, 37, 38, 39, 40, 41, 42, 43, 44, 45, 46, 47, 48, 49, 50, 51, 52, 53, 54, 55, 56, 57, 58] (by decide +kernel) rfl rfl (by decide +kernel) (by decide +kernel) 0 rfl rfl rfl rfl hlz rfl (Nat.le_of_ble_eq_true rfl) dL_law_866 (by omega) (fun r w H locs hw hP hD hS => ?_)
  refine Exists.elim hw (fun n1 hw => ?_)
  refine Exists.elim hw (fun L1 hw => ?_)
  refine Exists.elim hw (fun Yw1 hw => ?_)
  refine Exists.elim hw (fun wa1 hw => ?_)
  refine Exists.elim hw (fun wb1 hw => ?_)
  refine Exists.elim hw (fun g0 hw => ?_)
  refine Exists.elim hw (fun g1 hw => ?_)
  refine Exists.elim hw (fun g2 hw => ?_)
  refine Exists.elim hw (fun ww0 hw => ?_)
  refine Exists.elim hw (fun ww5 hw => ?_)
  refine Exists.elim hw (fun ww6 hw => ?_)
  refine Exists.elim hw (fun ww14 hw => ?_)
  refine Exists.elim hw (fun ww15 hw => ?_)
  refine Exists.elim hw (fun ww16 hw => ?_)
  refine Exists.elim hw (fun wew1 hw => ?_)
  refine Exists.elim hw (fun wew2 hw => ?_)
  refine Exists.elim hw (fun wew3 hw => ?_)
  refine Exists.elim hw (fun wew4 hw => ?_)
  refine Exists.elim hw (fun wew5 hw => ?_)
  refine Exists.elim hw (fun wew6 hw => ?_)
  refine Exists.elim hw (fun wew7 hw => ?_)
  refine Exists.elim hw (fun wew8 hw => ?_)
  refine Exists.elim hw (fun wew9 hw => ?_)
  refine And.elim (fun hn1 hw => ?_) hw
  refine And.elim (fun hL1 hw => ?_) hw
  refine And.elim (fun bww0 hw => ?_) hw
  refine And.elim (fun bww5 hw => ?_) hw
  refine And.elim (fun bww6 hw => ?_) hw
  refine And.elim (fun bww14 hw => ?_) hw
  refine And.elim (fun bww16 hw => ?_) hw
  refine And.elim (fun bwew1 hw => ?_) hw
  refine And.elim (fun bwew4 hw => ?_) hw
  refine And.elim (fun bwew5 hw => ?_) hw
  refine And.elim (fun bwew6 hw => ?_) hw
  refine And.elim (fun bwew7 hw => ?_) hw
  refine And.elim (fun g_0 hw => ?_) hw
  refine And.elim (fun g_1 hw => ?_) hw
  refine And.elim (fun g_2 hw => ?_) hw
  refine And.elim (fun g_3 hw => ?_) hw
  subst hw
  have hP := ptP (ws' := wB V y pp (up9 (up9 (up9 ff 15 g0) 16 g1) 17 g2) gg (.ref (Yw1 0)) .null ++ (wY V y n1 L1 Yw1 wa1 wb1 (br9 17 (br9 8 (br9 4 (br9 2 (br9 1 (lf9 ww0) (fun _ => 0)) (fun _ => 0)) (br9 6 (br9 5 (fun _ => 0) (lf9 ww5)) (br9 7 (lf9 ww6) (fun _ => 0)))) (br9 12 (fun _ => 0) (br9 14 (fun _ => 0) (br9 15 (lf9 ww14) (br9 16 (lf9 ww15) (lf9 ww16)))))) (fun _ => 0)) (br9 9 (br9 4 (br9 2 (br9 1 (lf9 wew1) (lf9 wew2)) (br9 3 (lf9 wew3) (lf9 wew4))) (br9 6 (br9 5 (lf9 wew5) (lf9 wew6)) (br9 7 (lf9 wew7) (br9 8 (lf9 wew8) (lf9 wew9))))) (fun _ _ => 0)) ++ [])) hP [51, 0, 52, 53, 1, 2, 3, 4, 5, 54, 6, 7, 8, 9, 10, 11, 12, 13, 14, 55, 56, 57, 58, 15, 16, 17, 18, 19, 20, 21, 22, 23, 24, 25, 26, 27, 28, 29, 30, 31, 32, 33, 34, 35, 36, 37, 38, 39, 40, 41, 42, 43, 44, 45, 46, 47, 48, 49, 50, 59, 60, 61, 62, 63, 64, 65, 66, 67, 68] rfl
  have hD := hD.part (cx := wB V y pp (up9 (up9 (up9 ff 15 g0) 16 g1) 17 g2) gg (.ref (Yw1 0)) .null ++ (wY V y n1 L1 Yw1 wa1 wb1 (br9 17 (br9 8 (br9 4 (br9 2 (br9 1 (lf9 ww0) (fun _ => 0)) (fun _ => 0)) (br9 6 (br9 5 (fun _ => 0) (lf9 ww5)) (br9 7 (lf9 ww6) (fun _ => 0)))) (br9 12 (fun _ => 0) (br9 14 (fun _ => 0) (br9 15 (lf9 ww14) (br9 16 (lf9 ww15) (lf9 ww16)))))) (fun _ => 0)) (br9 9 (br9 4 (br9 2 (br9 1 (lf9 wew1) (lf9 wew2)) (br9 3 (lf9 wew3) (lf9 wew4))) (br9 6 (br9 5 (lf9 wew5) (lf9 wew6)) (br9 7 (lf9 wew7) (br9 8 (lf9 wew8) (lf9 wew9))))) (fun _ _ => 0)) ++ [])) [51, 0, 52, 53, 1, 2, 3, 4, 5, 54, 6, 7, 8, 9, 10, 11, 12, 13, 14, 55, 56, 57, 58, 15, 16, 17, 18, 19, 20, 21, 22, 23, 24, 25, 26, 27, 28, 29, 30, 31, 32, 33, 34, 35, 36, 37, 38, 39, 40, 41, 42, 43, 44, 45, 46, 47, 48, 49, 50, 59, 60, 61, 62, 63, 64, 65, 66, 67, 68] (by decide +kernel) rfl
  exact kk r H locs (cells + 10) (slots + 46481) _ ⟨pp, (up9 (up9 (up9 ff 15 g0) 16 g1) 17 g2), gg, .ref (Yw1 0), .null, _, hp, ht0, ht1, ht2, ht3, ht4, Or.inr ⟨n1, L1, Yw1, wa1, wb1, (br9 17 (br9 8 (br9 4 (br9 2 (br9 1 (lf9 ww0) (fun _ => 0)) (fun _ => 0)) (br9 6 (br9 5 (fun _ => 0) (lf9 ww5)) (br9 7 (lf9 ww6) (fun _ => 0)))) (br9 12 (fun _ => 0) (br9 14 (fun _ => 0) (br9 15 (lf9 ww14) (br9 16 (lf9 ww15) (lf9 ww16)))))) (fun _ => 0)), (br9 9 (br9 4 (br9 2 (br9 1 (lf9 wew1) (lf9 wew2)) (br9 3 (lf9 wew3) (lf9 wew4))) (br9 6 (br9 5 (lf9 wew5) (lf9 wew6)) (br9 7 (lf9 wew7) (br9 8 (lf9 wew8) (lf9 wew9))))) (fun _ _ => 0)), [], 0, ⟨hn1, hL1, bww0, bww5, bww6, bww14, bww16, bwew1, bwew4, bwew5, bwew6, bwew7, g_0, g_1, g_2⟩, (Or.inl ⟨rfl, rfl, rfl⟩), (show PTn _ _ _ _ ww0 from by rw [g_3]; exact PTn_0 10 46481 hc (hp 5) (by decide) (by decide) n1 0), rfl, rfl⟩, rfl⟩ hP hD hS
set_option maxHeartbeats 4000000 in
set_option maxRecDepth 100000 in
theorem cx_22_a {p : Program} {e : Env} {s : State} {m : MethodId} {below : List Frame} {meth : Method} {c : Code} {l : Launch} {b Lk : Nat} {xs : Nat → Int32} {V : GV} {y : Nat → Nat} {τ : Nat → Int32} {H : Heap} {locs : List Loc} {cells slots : Nat} {wz : va_W} {ls : Array Slot} (G : LCx p s m meth c b Lk xs V) (a1 : Int32) {pp : Nat → Int32} {ff : Nat → Nat → Int32} {gg : Nat → Nat → Int64} {n L : Nat} {Yw : Nat → Nat} {wa wb : Nat} {qq : Nat → Int32} {ee : Nat → Nat → Int32} {o11 : Value} {fr : va_W} {fm : Nat} (hp : ivT tX pp) (ht0 : pp 0 = τ 0) (ht1 : pp 15 = τ 1) (ht2 : pp 16 = τ 2) (ht3 : BTs (ff 0) (tauT τ)) (ht4 : (∀ j, iv (-128) 127 ((ff 0) j))) (hW : WFa n L qq ee) (hF : RFo V o11 fr fm) (hT : PTn cells slots n fm (qq 0)) (hq : pp 5 ≤ qq 0) (hP : va_P V.1 vwCl (wB V y pp ff gg (.ref (Yw 0)) o11 ++ (wY V y n L Yw wa wb qq ee ++ fr) ++ wz) H) (hD : va_D (AAs s) (wB V y pp ff gg (.ref (Yw 0)) o11 ++ (wY V y n L Yw wa wb qq ee ++ fr) ++ wz)) (hS : va_S (AAs s) s.heap H locs) (hlz : ls.size = 4) (kk : (∀ (r : Int32) (H : Heap) (locs : List Loc) (cells slots : Nat) (wx : va_W), KX V y cells slots τ wx → va_P V.1 vwCl (wx ++ wz) H → va_D (AAs s) (wx ++ wz) → va_S (AAs s) s.heap H locs → W p l e room_1 s m #[Value.ref b] below meth c H locs cells slots (lw_Z below #[Value.ref b] s) (F0 m 869 ls [.int r]))) : W p l e room_1 s m #[Value.ref b] below meth c H locs cells slots (lw_Z below #[Value.ref b] s) (F0 m 866 ls [.int a1, .ref (y 0)]) := by
  obtain ⟨hn, hL, hw_q0, hw_q5, hw_q6, hw_q14, hw_q16, hw_tYw1, hw_tYw4, hw_tYw5, hw_tYw6, hw_tYw7, hw_WA, hw_WB, hw_WC⟩ := id hW
  rw [as4] at hP hD
  refine cSI (X := wB V y pp ff gg (.ref (Yw 0)) o11 ++ wY V y n L Yw wa wb qq ee) (pl := fr ++ wz) (rest := []) G (k_X9_keeps_0 l V n L Yw y a1 (pp 0) o11 (pp 1) (pp 2) (pp 3) (pp 4) (pp 5) (pp 6) (pp 7) (pp 8) (pp 9) (pp 10) (pp 11) (pp 12) (pp 13) (pp 14) (ff 1) (ff 7) (ff 15) (ff 16) (ff 17) (qq 0) wa (qq 5) (qq 6) wb (qq 14) (qq 15) (qq 16) (ee 0) (ee 1) (ee 2) (ee 3) (ee 4) (ee 5) (ee 6) (ee 7) (ee 8) hn hL hq (hp 0) (hp 5) (hp 6) (hp 7) (hp 10) (hp 11) (hp 12) (hp 13) (hp 14) hw_q0 hw_q5 hw_q6 hw_q14 hw_q16 hw_tYw1 hw_tYw4 hw_tYw5 hw_tYw6 hw_tYw7 hw_WA hw_WB hw_WC) mt_X9_keeps q_4_190 ⟨Nat.le_of_ble_eq_true rfl, Nat.le_of_ble_eq_true rfl⟩ hP hD hS [0, 2, 3, 9, 19, 20, 21, 22, 59, 60, 61, 62, 63, 64, 65, 66, 67, 68] [0, 1, 0, 5, 9, 0, 0, 0, 36, 0, 0, 0, 0, 0, 0, 0, 0, 0] (by decide) (by decide +kernel) rfl 0 rfl rfl rfl rfl hlz rfl (Nat.le_of_ble_eq_true rfl) dL_law_866 (PTn_room hT hw_q0) (fun r w H locs hw hPD hS => ?_)
  refine Exists.elim hw (fun g0 hw => ?_)
  refine Exists.elim hw (fun g1 hw => ?_)
  refine Exists.elim hw (fun g2 hw => ?_)
  refine Exists.elim hw (fun v3 hw => ?_)
  refine Exists.elim hw (fun v4 hw => ?_)
  refine Exists.elim hw (fun v5 hw => ?_)
  refine Exists.elim hw (fun v6 hw => ?_)
  refine Exists.elim hw (fun v7 hw => ?_)
  refine Exists.elim hw (fun g8 hw => ?_)
  refine Exists.elim hw (fun g9 hw => ?_)
  refine Exists.elim hw (fun g10 hw => ?_)
  refine Exists.elim hw (fun g11 hw => ?_)
  refine Exists.elim hw (fun g12 hw => ?_)
  refine Exists.elim hw (fun g13 hw => ?_)
  refine Exists.elim hw (fun g14 hw => ?_)
  refine Exists.elim hw (fun g15 hw => ?_)
  refine Exists.elim hw (fun g16 hw => ?_)
  refine And.elim (fun bv3 hw => ?_) hw
  refine And.elim (fun bv4 hw => ?_) hw
  refine And.elim (fun bv5 hw => ?_) hw
  refine And.elim (fun bv7 hw => ?_) hw
  refine And.elim (fun bg8 hw => ?_) hw
  refine And.elim (fun bg11 hw => ?_) hw
  refine And.elim (fun bg12 hw => ?_) hw
  refine And.elim (fun bg13 hw => ?_) hw
  refine And.elim (fun bg14 hw => ?_) hw
  refine And.elim (fun g_0 hw => ?_) hw
  refine And.elim (fun g_1 hw => ?_) hw
  refine And.elim (fun g_2 hw => ?_) hw
  subst hw
  obtain ⟨hP, hD⟩ := hPD (wB V y pp (up9 (up9 (up9 ff 15 g0) 16 g1) 17 g2) gg (.ref (Yw 0)) o11 ++ wY V y n L Yw wa wb (br9 17 (br9 8 (br9 4 qq (br9 6 (br9 5 qq (lf9 v3)) (br9 7 (lf9 v4) qq))) (br9 12 qq (br9 14 qq (br9 15 (lf9 v5) (br9 16 (lf9 v6) (lf9 v7)))))) qq) (br9 9 (br9 4 (br9 2 (br9 1 (lf9 g8) (lf9 g9)) (br9 3 (lf9 g10) (lf9 g11))) (br9 6 (br9 5 (lf9 g12) (lf9 g13)) (br9 7 (lf9 g14) (br9 8 (lf9 g15) (lf9 g16))))) ee)) rfl rfl
  rw [← as4] at hP hD
  exact kk r H locs (cells + 0) (slots + 0) _ ⟨pp, (up9 (up9 (up9 ff 15 g0) 16 g1) 17 g2), gg, .ref (Yw 0), o11, _, hp, ht0, ht1, ht2, ht3, ht4, Or.inr ⟨n, L, Yw, wa, wb, (br9 17 (br9 8 (br9 4 qq (br9 6 (br9 5 qq (lf9 v3)) (br9 7 (lf9 v4) qq))) (br9 12 qq (br9 14 qq (br9 15 (lf9 v5) (br9 16 (lf9 v6) (lf9 v7)))))) qq), (br9 9 (br9 4 (br9 2 (br9 1 (lf9 g8) (lf9 g9)) (br9 3 (lf9 g10) (lf9 g11))) (br9 6 (br9 5 (lf9 g12) (lf9 g13)) (br9 7 (lf9 g14) (br9 8 (lf9 g15) (lf9 g16))))) ee), fr, fm, ⟨hn, hL, hw_q0, bv3, bv4, bv5, bv7, bg8, bg11, bg12, bg13, bg14, g_0, g_1, g_2⟩, hF, hT, rfl, rfl⟩, rfl⟩ hP hD hS
set_option maxHeartbeats 4000000 in
set_option maxRecDepth 100000 in
theorem cx_22_b {p : Program} {e : Env} {s : State} {m : MethodId} {below : List Frame} {meth : Method} {c : Code} {l : Launch} {b Lk : Nat} {xs : Nat → Int32} {V : GV} {y : Nat → Nat} {τ : Nat → Int32} {H : Heap} {locs : List Loc} {cells slots : Nat} {wz : va_W} {ls : Array Slot} (G : LCx p s m meth c b Lk xs V) (a1 : Int32) {pp : Nat → Int32} {ff : Nat → Nat → Int32} {gg : Nat → Nat → Int64} {n L : Nat} {Yw : Nat → Nat} {wa wb : Nat} {qq : Nat → Int32} {ee : Nat → Nat → Int32} {o11 : Value} {fr : va_W} {fm : Nat} (hp : ivT tX pp) (ht0 : pp 0 = τ 0) (ht1 : pp 15 = τ 1) (ht2 : pp 16 = τ 2) (ht3 : BTs (ff 0) (tauT τ)) (ht4 : (∀ j, iv (-128) 127 ((ff 0) j))) (hW : WFa n L qq ee) (hF : RFo V o11 fr fm) (hT : PTn cells slots n fm (qq 0)) (hq : qq 0 < pp 5) (hg : 0 ≤ (a1 : Int32).toInt ∧ (a1 : Int32).toInt ≤ 4) (hP : va_P V.1 vwCl (wB V y pp ff gg (.ref (Yw 0)) o11 ++ (wY V y n L Yw wa wb qq ee ++ fr) ++ wz) H) (hD : va_D (AAs s) (wB V y pp ff gg (.ref (Yw 0)) o11 ++ (wY V y n L Yw wa wb qq ee ++ fr) ++ wz)) (hS : va_S (AAs s) s.heap H locs) (hlz : ls.size = 4) (kk : (∀ (r : Int32) (H : Heap) (locs : List Loc) (cells slots : Nat) (wx : va_W), KX V y cells slots τ wx → va_P V.1 vwCl (wx ++ wz) H → va_D (AAs s) (wx ++ wz) → va_S (AAs s) s.heap H locs → W p l e room_1 s m #[Value.ref b] below meth c H locs cells slots (lw_Z below #[Value.ref b] s) (F0 m 869 ls [.int r]))) : W p l e room_1 s m #[Value.ref b] below meth c H locs cells slots (lw_Z below #[Value.ref b] s) (F0 m 866 ls [.int a1, .ref (y 0)]) := by
  obtain ⟨hn, hL, hw_q0, hw_q5, hw_q6, hw_q14, hw_q16, hw_tYw1, hw_tYw4, hw_tYw5, hw_tYw6, hw_tYw7, hw_WA, hw_WB, hw_WC⟩ := id hW
  have hTB := PTn_B 10 46481 hT hw_q0 (hp 5) hq (by decide) (by decide)
  rw [as4] at hP hD
  refine cXI (X := wB V y pp ff gg (.ref (Yw 0)) o11 ++ wY V y n L Yw wa wb qq ee) (pl := fr ++ wz) (wr := [(y 1, aB V 900 (ff 0)), (y 4, aI V 4 (ff 2)), (y 5, aI V 4 (ff 3)), (y 6, aI V 8 (ff 4)), (y 7, aI V 8 (ff 5)), (y 8, aI V 8 (ff 6)), (y 10, .inr (6, [.ref (y 11), .int (pp 15), .int (pp 16), .ref (y 1), .int (pp 17), .int (pp 18), .int (pp 19), .int (pp 20), .int (pp 21)])), (y 11, .inr (1, [.int (pp 22), .int (pp 23), .int (pp 24), .int (pp 25), .int (pp 26), .int (pp 27), .ref (y 12), .ref (y 13), .ref (y 14), .ref (y 15), .ref (y 16), .ref (y 17), .ref (y 18), .int (pp 28), .int (pp 29), .int (pp 30), .int (pp 31), .int (pp 32)])), (y 12, aI V 4 (ff 8)), (y 13, aI V 4 (ff 9)), (y 14, aI V 4 (ff 10)), (y 15, aI V 8 (ff 11)), (y 16, aI V 8 (ff 12)), (y 17, aI V 8 (ff 13)), (y 18, aI V 900 (ff 14)), (y 23, aI V 10 (ff 18)), (y 24, aI V 10 (ff 19)), (y 25, .inr (0, [.int (pp 33), .int (pp 34)])), (y 26, .inr (5, [.ref (y 27), .ref (y 28), .ref (y 29), .int (pp 35)])), (y 27, aI V 10 (ff 20)), (y 28, aI V 10 (ff 21)), (y 29, aI V 10 (ff 22)), (y 30, aT V 4 (va_up (va_up (va_up (va_up (fun _ => none) 0 (some (y 33))) 1 (some (y 35))) 2 (some (y 37))) 3 (some (y 39)))), (y 31, aM V 2 (va_up (va_up (fun _ => none) 0 (some (y 41))) 1 (some (y 50)))), (y 32, aI V 10 (ff 23)), (y 33, .inr (7, [.ref (y 34), .int (pp 36), .int (pp 37)])), (y 34, aJ V 40 (gg 0)), (y 35, .inr (7, [.ref (y 36), .int (pp 38), .int (pp 39)])), (y 36, aJ V 40 (gg 1)), (y 37, .inr (7, [.ref (y 38), .int (pp 40), .int (pp 41)])), (y 38, aJ V 40 (gg 2)), (y 39, .inr (7, [.ref (y 40), .int (pp 42), .int (pp 43)])), (y 40, aJ V 40 (gg 3)), (y 41, .inr (3, [.ref (y 42), .int (pp 44), .int (pp 45), .int (pp 46), .int (pp 47)])), (y 42, .inr (1, [.int (pp 48), .int (pp 49), .int (pp 50), .int (pp 51), .int (pp 52), .int (pp 53), .ref (y 43), .ref (y 44), .ref (y 45), .ref (y 46), .ref (y 47), .ref (y 48), .ref (y 49), .int (pp 54), .int (pp 55), .int (pp 56), .int (pp 57), .int (pp 58)])), (y 43, aI V 4 (ff 24)), (y 44, aI V 4 (ff 25)), (y 45, aI V 4 (ff 26)), (y 46, aI V 8 (ff 27)), (y 47, aI V 8 (ff 28)), (y 48, aI V 8 (ff 29)), (y 49, aI V 900 (ff 30)), (y 50, .inr (3, [.ref (y 51), .int (pp 59), .int (pp 60), .int (pp 61), .int (pp 62)])), (y 51, .inr (1, [.int (pp 63), .int (pp 64), .int (pp 65), .int (pp 66), .int (pp 67), .int (pp 68), .ref (y 52), .ref (y 53), .ref (y 54), .ref (y 55), .ref (y 56), .ref (y 57), .ref (y 58), .int (pp 69), .int (pp 70), .int (pp 71), .int (pp 72), .int (pp 73)])), (y 52, aI V 4 (ff 31)), (y 53, aI V 4 (ff 32)), (y 54, aI V 4 (ff 33)), (y 55, aI V 8 (ff 34)), (y 56, aI V 8 (ff 35)), (y 57, aI V 8 (ff 36)), (y 58, aI V 900 (ff 37))]) (rest := []) G (k_X9_keeps_3 l V n L Yw y a1 (pp 0) o11 (pp 1) (pp 2) (pp 3) (pp 4) (pp 5) (pp 6) (pp 7) (pp 8) (pp 9) (pp 10) (pp 11) (pp 12) (pp 13) (pp 14) (ff 1) (ff 7) (ff 15) (ff 16) (ff 17) (qq 0) wa (qq 5) (qq 6) wb (qq 14) (qq 15) (qq 16) (ee 0) (ee 1) (ee 2) (ee 3) (ee 4) (ee 5) (ee 6) (ee 7) (ee 8) hn hL hq (hp 0) (hp 5) (hp 6) (hp 7) (hp 10) (hp 11) (hp 12) (hp 13) (hp 14) hw_q0 hw_q5 hw_q6 hw_q14 hw_q16 hw_tYw1 hw_tYw4 hw_tYw5 hw_tYw6 hw_tYw7 hw_WA hw_WB hw_WC hg.1 hg.2) mt_X9_keeps q_4_190 ⟨Nat.le_of_ble_eq_true rfl, Nat.le_of_ble_eq_true rfl⟩ hP hD hS [0, 2, 3, 9, 19, 20, 21, 22, 59, 60, 61, 62, 63, 64, 65, 66, 67, 68] [1, 4, 5, 6, 7, 8, 10, 11, 12, 13, 14, 15, 16, 17, 18, 23, 24, 25, 26, 27, 28, 29, 30, 31, 32, 33, 34, 35, 36, 37, 38, 39, 40, 41, 42, 43, 44, 45, 46, 47, 48, 49, 50, 51, 52, 53, 54, 55, 56, 57, 58] (by decide +kernel) rfl rfl (by decide +kernel) (by decide +kernel) 0 rfl rfl rfl rfl hlz rfl (Nat.le_of_ble_eq_true rfl) dL_law_866 hTB.1 (fun r w H locs hw hP hD hS => ?_)
  refine Exists.elim hw (fun n1 hw => ?_)
  refine Exists.elim hw (fun L1 hw => ?_)
  refine Exists.elim hw (fun Yw1 hw => ?_)
  refine Exists.elim hw (fun wa1 hw => ?_)
  refine Exists.elim hw (fun wb1 hw => ?_)
  refine Exists.elim hw (fun g0 hw => ?_)
  refine Exists.elim hw (fun g1 hw => ?_)
  refine Exists.elim hw (fun g2 hw => ?_)
  refine Exists.elim hw (fun ww0 hw => ?_)
  refine Exists.elim hw (fun ww5 hw => ?_)
  refine Exists.elim hw (fun ww6 hw => ?_)
  refine Exists.elim hw (fun ww14 hw => ?_)
  refine Exists.elim hw (fun ww15 hw => ?_)
  refine Exists.elim hw (fun ww16 hw => ?_)
  refine Exists.elim hw (fun wew1 hw => ?_)
  refine Exists.elim hw (fun wew2 hw => ?_)
  refine Exists.elim hw (fun wew3 hw => ?_)
  refine Exists.elim hw (fun wew4 hw => ?_)
  refine Exists.elim hw (fun wew5 hw => ?_)
  refine Exists.elim hw (fun wew6 hw => ?_)
  refine Exists.elim hw (fun wew7 hw => ?_)
  refine Exists.elim hw (fun wew8 hw => ?_)
  refine Exists.elim hw (fun wew9 hw => ?_)
  refine And.elim (fun hn1 hw => ?_) hw
  refine And.elim (fun hL1 hw => ?_) hw
  refine And.elim (fun bww0 hw => ?_) hw
  refine And.elim (fun bww5 hw => ?_) hw
  refine And.elim (fun bww6 hw => ?_) hw
  refine And.elim (fun bww14 hw => ?_) hw
  refine And.elim (fun bww16 hw => ?_) hw
  refine And.elim (fun bwew1 hw => ?_) hw
  refine And.elim (fun bwew4 hw => ?_) hw
  refine And.elim (fun bwew5 hw => ?_) hw
  refine And.elim (fun bwew6 hw => ?_) hw
  refine And.elim (fun bwew7 hw => ?_) hw
  refine And.elim (fun g_0 hw => ?_) hw
  refine And.elim (fun g_1 hw => ?_) hw
  refine And.elim (fun g_2 hw => ?_) hw
  refine And.elim (fun g_3 hw => ?_) hw
  subst hw
  have hP := ptP (ws' := wB V y pp (up9 (up9 (up9 ff 15 g0) 16 g1) 17 g2) gg (.ref (Yw1 0)) o11 ++ wY V y n1 L1 Yw1 wa1 wb1 (br9 17 (br9 8 (br9 4 (br9 2 (br9 1 (lf9 ww0) (fun _ => 0)) (fun _ => 0)) (br9 6 (br9 5 (fun _ => 0) (lf9 ww5)) (br9 7 (lf9 ww6) (fun _ => 0)))) (br9 12 (fun _ => 0) (br9 14 (fun _ => 0) (br9 15 (lf9 ww14) (br9 16 (lf9 ww15) (lf9 ww16)))))) (fun _ => 0)) (br9 9 (br9 4 (br9 2 (br9 1 (lf9 wew1) (lf9 wew2)) (br9 3 (lf9 wew3) (lf9 wew4))) (br9 6 (br9 5 (lf9 wew5) (lf9 wew6)) (br9 7 (lf9 wew7) (br9 8 (lf9 wew8) (lf9 wew9))))) (fun _ _ => 0))) hP [51, 0, 52, 53, 1, 2, 3, 4, 5, 54, 6, 7, 8, 9, 10, 11, 12, 13, 14, 55, 56, 57, 58, 15, 16, 17, 18, 19, 20, 21, 22, 23, 24, 25, 26, 27, 28, 29, 30, 31, 32, 33, 34, 35, 36, 37, 38, 39, 40, 41, 42, 43, 44, 45, 46, 47, 48, 49, 50, 59, 60, 61, 62, 63, 64, 65, 66, 67, 68] rfl
  have hD := hD.part (cx := wB V y pp (up9 (up9 (up9 ff 15 g0) 16 g1) 17 g2) gg (.ref (Yw1 0)) o11 ++ wY V y n1 L1 Yw1 wa1 wb1 (br9 17 (br9 8 (br9 4 (br9 2 (br9 1 (lf9 ww0) (fun _ => 0)) (fun _ => 0)) (br9 6 (br9 5 (fun _ => 0) (lf9 ww5)) (br9 7 (lf9 ww6) (fun _ => 0)))) (br9 12 (fun _ => 0) (br9 14 (fun _ => 0) (br9 15 (lf9 ww14) (br9 16 (lf9 ww15) (lf9 ww16)))))) (fun _ => 0)) (br9 9 (br9 4 (br9 2 (br9 1 (lf9 wew1) (lf9 wew2)) (br9 3 (lf9 wew3) (lf9 wew4))) (br9 6 (br9 5 (lf9 wew5) (lf9 wew6)) (br9 7 (lf9 wew7) (br9 8 (lf9 wew8) (lf9 wew9))))) (fun _ _ => 0))) [51, 0, 52, 53, 1, 2, 3, 4, 5, 54, 6, 7, 8, 9, 10, 11, 12, 13, 14, 55, 56, 57, 58, 15, 16, 17, 18, 19, 20, 21, 22, 23, 24, 25, 26, 27, 28, 29, 30, 31, 32, 33, 34, 35, 36, 37, 38, 39, 40, 41, 42, 43, 44, 45, 46, 47, 48, 49, 50, 59, 60, 61, 62, 63, 64, 65, 66, 67, 68] (by decide +kernel) rfl
  rw [← as4] at hP hD
  exact kk r H locs (cells + 10) (slots + 46481) _ ⟨pp, (up9 (up9 (up9 ff 15 g0) 16 g1) 17 g2), gg, .ref (Yw1 0), o11, _, hp, ht0, ht1, ht2, ht3, ht4, Or.inr ⟨n1, L1, Yw1, wa1, wb1, (br9 17 (br9 8 (br9 4 (br9 2 (br9 1 (lf9 ww0) (fun _ => 0)) (fun _ => 0)) (br9 6 (br9 5 (fun _ => 0) (lf9 ww5)) (br9 7 (lf9 ww6) (fun _ => 0)))) (br9 12 (fun _ => 0) (br9 14 (fun _ => 0) (br9 15 (lf9 ww14) (br9 16 (lf9 ww15) (lf9 ww16)))))) (fun _ => 0)), (br9 9 (br9 4 (br9 2 (br9 1 (lf9 wew1) (lf9 wew2)) (br9 3 (lf9 wew3) (lf9 wew4))) (br9 6 (br9 5 (lf9 wew5) (lf9 wew6)) (br9 7 (lf9 wew7) (br9 8 (lf9 wew8) (lf9 wew9))))) (fun _ _ => 0)), fr, fm, ⟨hn1, hL1, bww0, bww5, bww6, bww14, bww16, bwew1, bwew4, bwew5, bwew6, bwew7, g_0, g_1, g_2⟩, hF, (show PTn _ _ _ _ ww0 from by rw [g_3]; exact hTB.2 n1 fm), rfl, rfl⟩, rfl⟩ hP hD hS
set_option maxHeartbeats 4000000 in
set_option maxRecDepth 100000 in
theorem cx_22 {p : Program} {e : Env} {s : State} {m : MethodId} {below : List Frame} {meth : Method} {c : Code} {l : Launch} {b Lk : Nat} {xs : Nat → Int32} {V : GV} {y : Nat → Nat} {τ : Nat → Int32} {H : Heap} {locs : List Loc} {cells slots : Nat} {wz : va_W} {ls : Array Slot} (G : LCx p s m meth c b Lk xs V) (a1 : Int32) {wx : va_W} (kx : KX V y cells slots τ wx) (hP : va_P V.1 vwCl (wx ++ wz) H) (hD : va_D (AAs s) (wx ++ wz)) (hS : va_S (AAs s) s.heap H locs) (hlz : ls.size = 4) (kk : (∀ (r : Int32) (H : Heap) (locs : List Loc) (cells slots : Nat) (wx : va_W), KX V y cells slots τ wx → va_P V.1 vwCl (wx ++ wz) H → va_D (AAs s) (wx ++ wz) → va_S (AAs s) s.heap H locs → W p l e room_1 s m #[Value.ref b] below meth c H locs cells slots (lw_Z below #[Value.ref b] s) (F0 m 869 ls [.int r]))) : W p l e room_1 s m #[Value.ref b] below meth c H locs cells slots (lw_Z below #[Value.ref b] s) (F0 m 866 ls [.int a1, .ref (y 0)]) := by
  obtain ⟨pp, ff, gg, o10, o11, rest, hp, ht0, ht1, ht2, ht3, ht4, hR, rfl⟩ := kx
  by_cases hg : 0 ≤ (a1 : Int32).toInt ∧ (a1 : Int32).toInt ≤ 4
  · rcases hR with ⟨rfl, rfl, rfl, hc⟩ | ⟨n, L, Yw, wa, wb, qq, ee, fr, fm, hW, hF, hT, rfl, rfl⟩
    · exact cx_22_0 G _ hp ht0 ht1 ht2 ht3 ht4 hc hg hP hD hS hlz kk
    · rcases Classical.em (pp 5 ≤ qq 0) with hq | hq
      · exact cx_22_a G _ hp ht0 ht1 ht2 ht3 ht4 hW hF hT hq hP hD hS hlz kk
      · replace hq := Int32.not_le.mp hq
        exact cx_22_b G _ hp ht0 ht1 ht2 ht3 ht4 hW hF hT hq hg hP hD hS hlz kk
  · exact cx_22_e G _ hp ht0 ht1 ht2 ht3 ht4 hR hg hP hD hS hlz kk
theorem q_7_235 : Cond.code yX10_keeps prog_12_method_96_code 7 (some FieldType.int) ∈ gw := gw_7 (i := 235) (rfl) rfl
theorem q_7_233 : Cond.instanceMethod yX10_keeps ∈ gw := gw_7 (i := 233) (by decide +kernel) rfl
theorem q_7_234 : Cond.selects "BeaconDelayModel" yX10_keeps yX10_keeps ∈ gw := gw_7 (i := 234) (by decide +kernel) rfl
theorem mt_X10_keeps : MtV yX10_keeps cX10_keeps 7 (some .int) 1 := ⟨⟨q_7_235, q_1_9, by decide +kernel, by decide +kernel, by decide +kernel⟩, q_7_233, q_7_234⟩
theorem q_7_232 : Cond.methodLink "BeaconDelayLaw" 110 yX10_keeps ∈ gw := gw_7 (i := 232) (by decide +kernel) rfl
theorem dL_law_876 : decode cL_law 876 = .ok (.invokevirtual 110, 3) := by decide +kernel
set_option maxHeartbeats 4000000 in
set_option maxRecDepth 100000 in
theorem cz_22 {p : Program} {e : Env} {s : State} {m : MethodId} {below : List Frame} {meth : Method} {c : Code} {l : Launch} {b Lk : Nat} {xs : Nat → Int32} {V : GV} {z : Nat → Nat} {τ : Nat → Int32} {H : Heap} {locs : List Loc} {cells slots : Nat} {wx : va_W} {ls : Array Slot} {rest : List Value} (G : LCx p s m meth c b Lk xs V) (a1 : Int32) {wz : va_W} (kz : KZ V z τ wz) (hP : va_P V.1 vwCl (wx ++ wz) H) (hD : va_D (AAs s) (wx ++ wz)) (hS : va_S (AAs s) s.heap H locs) (hcs : cells + 0 ≤ 600000 ∧ slots + 0 ≤ 7302250) (hro : (rest.map fun v => v.category).sum ≤ 8) (hlz : ls.size = 4) (kk : (∀ (r : Int32) (H : Heap) (locs : List Loc) (wz : va_W), KZ V z τ wz → va_P V.1 vwCl (wx ++ wz) H → va_D (AAs s) (wx ++ wz) → va_S (AAs s) s.heap H locs → W p l e room_1 s m #[Value.ref b] below meth c H locs cells slots (lw_Z below #[Value.ref b] s) (F0 m 879 ls (.int r :: rest)))) : W p l e room_1 s m #[Value.ref b] below meth c H locs cells slots (lw_Z below #[Value.ref b] s) (F0 m 876 ls (.int a1 :: .ref (z 0) :: rest)) := by
  obtain ⟨pz, fz, gz, hp, ht0, ht1, ht2, ht3, hz_tz1, hz_tz3, hz_tz4, hz_tz16, hz_tz17, hz_tz20, hz_tz21, hz_tz24, hz_tz25, hz_tz26, hz_tz27, hz_tz33, hz_tz34, hz_tz37, hz_tz38, hz_RW, rfl⟩ := kz
  replace hP := swP hP
  replace hD := swD hD
  refine cSI (X := wZ V z pz fz gz) (pl := wx) (rest := rest) G (k_X10_keeps_0 l V z a1 (pz 0) (pz 5) (pz 6) (pz 7) (pz 8) (pz 9) (pz 10) (pz 11) (pz 12) (pz 13) (pz 14) (pz 18) (pz 19) (pz 22) (pz 23) (pz 29) (fz 0) (fz 4) (fz 5) (fz 9) (fz 10) (fz 11) (fz 13) (hp 5) (hp 6) (hp 7) (hp 8) (hp 10) (hp 11) (hp 12) (hp 13) (hp 14) (hp 18) (hp 22) (hp 29) hz_tz1 hz_tz16 hz_tz24 hz_tz25 hz_tz26 hz_RW) mt_X10_keeps q_7_232 ⟨Nat.le_of_ble_eq_true rfl, Nat.le_of_ble_eq_true rfl⟩ hP hD hS [0, 1, 5, 6, 10, 11, 12, 14] [0, 0, 3, 0, 3, 0, 0, 1] (by decide) (by decide +kernel) rfl 0 rfl rfl rfl rfl hlz rfl hro dL_law_876 hcs (fun r w H locs hw hPD hS => ?_)
  refine Exists.elim hw (fun v0 hw => ?_)
  refine Exists.elim hw (fun v1 hw => ?_)
  refine Exists.elim hw (fun g2 hw => ?_)
  refine Exists.elim hw (fun g3 hw => ?_)
  refine Exists.elim hw (fun g4 hw => ?_)
  refine Exists.elim hw (fun g5 hw => ?_)
  refine Exists.elim hw (fun g6 hw => ?_)
  refine Exists.elim hw (fun g7 hw => ?_)
  refine And.elim (fun bv1 hw => ?_) hw
  refine And.elim (fun bg3 hw => ?_) hw
  refine And.elim (fun bg4 hw => ?_) hw
  refine And.elim (fun bg5 hw => ?_) hw
  refine And.elim (fun bg6 hw => ?_) hw
  refine And.elim (fun g_0 hw => ?_) hw
  subst hw
  obtain ⟨hP, hD⟩ := hPD (wZ V z (up9 (up9 pz 0 v0) 29 v1) (br9 14 (br9 7 (br9 3 fz (br9 5 (br9 4 fz (lf9 g2)) (br9 6 (lf9 g3) fz))) (br9 10 (br9 8 fz (br9 9 fz (lf9 g4))) (br9 12 (br9 11 (lf9 g5) (lf9 g6)) (br9 13 fz (lf9 g7))))) fz) gz) rfl rfl
  replace hP := swP hP
  replace hD := swD hD
  exact kk r H locs _ ⟨(up9 (up9 pz 0 v0) 29 v1), (br9 14 (br9 7 (br9 3 fz (br9 5 (br9 4 fz (lf9 g2)) (br9 6 (lf9 g3) fz))) (br9 10 (br9 8 fz (br9 9 fz (lf9 g4))) (br9 12 (br9 11 (lf9 g5) (lf9 g6)) (br9 13 fz (lf9 g7))))) fz), gz, (ivUp 29 (ivUp 0 hp (iv_top v0)) bv1), ht0, ht1, ht2, ht3, hz_tz1, hz_tz3, hz_tz4, bg3, hz_tz17, hz_tz20, hz_tz21, bg4, bg5, bg6, hz_tz27, hz_tz33, hz_tz34, hz_tz37, hz_tz38, g_0, rfl⟩ hP hD hS
theorem q_4_212 : Cond.code yX9_reaches prog_1_method_43_code 7 (some FieldType.int) ∈ gw := gw_4 (i := 212) (rfl) rfl
theorem q_4_210 : Cond.instanceMethod yX9_reaches ∈ gw := gw_4 (i := 210) (by decide +kernel) rfl
theorem q_4_211 : Cond.selects "BeaconDelay" yX9_reaches yX9_reaches ∈ gw := gw_4 (i := 211) (by decide +kernel) rfl
theorem mt_X9_reaches : MtV yX9_reaches cX9_reaches 7 (some .int) 2 := ⟨⟨q_4_212, q_1_1, by decide +kernel, by decide +kernel, by decide +kernel⟩, q_4_210, q_4_211⟩
theorem q_4_209 : Cond.methodLink "BeaconDelayLaw" 111 yX9_reaches ∈ gw := gw_4 (i := 209) (by decide +kernel) rfl
theorem dL_law_894 : decode cL_law 894 = .ok (.invokevirtual 111, 3) := by decide +kernel
set_option maxHeartbeats 4000000 in
set_option maxRecDepth 100000 in
theorem cx_23_e {p : Program} {e : Env} {s : State} {m : MethodId} {below : List Frame} {meth : Method} {c : Code} {l : Launch} {b Lk : Nat} {xs : Nat → Int32} {V : GV} {y : Nat → Nat} {τ : Nat → Int32} {H : Heap} {locs : List Loc} {cells slots : Nat} {wz : va_W} {ls : Array Slot} (G : LCx p s m meth c b Lk xs V) (a1 : Int32) (a2 : Int32) {pp : Nat → Int32} {ff : Nat → Nat → Int32} {gg : Nat → Nat → Int64} {o10 o11 : Value} {rest : va_W} (hp : ivT tX pp) (ht0 : pp 0 = τ 0) (ht1 : pp 15 = τ 1) (ht2 : pp 16 = τ 2) (ht3 : BTs (ff 0) (tauT τ)) (ht4 : (∀ j, iv (-128) 127 ((ff 0) j))) (hR : RRo V y cells slots o10 o11 rest) (hg : ¬ (0 ≤ (a1 : Int32).toInt ∧ (a1 : Int32).toInt < ((pp 5) : Int32).toInt ∧ 0 ≤ (a2 : Int32).toInt ∧ (a2 : Int32).toInt ≤ 1)) (hP : va_P V.1 vwCl (wB V y pp ff gg o10 o11 ++ rest ++ wz) H) (hD : va_D (AAs s) (wB V y pp ff gg o10 o11 ++ rest ++ wz)) (hS : va_S (AAs s) s.heap H locs) (hlz : ls.size = 4) (kk : (∀ (r : Int32) (H : Heap) (locs : List Loc) (cells slots : Nat) (wx : va_W), KX V y cells slots τ wx → va_P V.1 vwCl (wx ++ wz) H → va_D (AAs s) (wx ++ wz) → va_S (AAs s) s.heap H locs → W p l e room_1 s m #[Value.ref b] below meth c H locs cells slots (lw_Z below #[Value.ref b] s) (F0 m 897 ls [.int r]))) : W p l e room_1 s m #[Value.ref b] below meth c H locs cells slots (lw_Z below #[Value.ref b] s) (F0 m 894 ls [.int a2, .int a1, .ref (y 0)]) := by
  rw [as3] at hP hD
  refine cSI (X := wB V y pp ff gg o10 o11) (pl := rest ++ wz) (rest := []) G (k_X9_reaches_1 l V y a1 a2 (pp 0) o10 o11 (pp 1) (pp 2) (pp 3) (pp 4) (pp 5) (pp 6) (pp 7) (pp 8) (pp 9) (pp 10) (pp 11) (pp 12) (pp 13) (pp 14) (hp 0) (hp 5) (hp 6) (hp 7) (hp 10) (hp 11) (hp 12) (hp 13) (hp 14) hg) mt_X9_reaches q_4_209 ⟨Nat.le_of_ble_eq_true rfl, Nat.le_of_ble_eq_true rfl⟩ hP hD hS [0, 2] [0, 1] (by decide) (by decide +kernel) rfl 0 rfl rfl rfl rfl hlz rfl (Nat.le_of_ble_eq_true rfl) dL_law_894 hR.room (fun r w H locs hw hPD hS => ?_)
  refine And.elim (fun br hw => ?_) hw
  subst hw
  obtain ⟨hP, hD⟩ := hPD (wB V y pp ff gg o10 o11) rfl rfl
  rw [← as3] at hP hD
  exact kk r H locs (cells + 0) (slots + 0) _ ⟨pp, ff, gg, o10, o11, rest, hp, ht0, ht1, ht2, ht3, ht4, hR, rfl⟩ hP hD hS
set_option maxHeartbeats 4000000 in
set_option maxRecDepth 100000 in
theorem cx_23_0 {p : Program} {e : Env} {s : State} {m : MethodId} {below : List Frame} {meth : Method} {c : Code} {l : Launch} {b Lk : Nat} {xs : Nat → Int32} {V : GV} {y : Nat → Nat} {τ : Nat → Int32} {H : Heap} {locs : List Loc} {cells slots : Nat} {wz : va_W} {ls : Array Slot} (G : LCx p s m meth c b Lk xs V) (a1 : Int32) (a2 : Int32) {pp : Nat → Int32} {ff : Nat → Nat → Int32} {gg : Nat → Nat → Int64} (hp : ivT tX pp) (ht0 : pp 0 = τ 0) (ht1 : pp 15 = τ 1) (ht2 : pp 16 = τ 2) (ht3 : BTs (ff 0) (tauT τ)) (ht4 : (∀ j, iv (-128) 127 ((ff 0) j))) (hc : cells + 116 ≤ 600000 ∧ slots + 633553 ≤ 7302250) (hg : 0 ≤ (a1 : Int32).toInt ∧ (a1 : Int32).toInt < ((pp 5) : Int32).toInt ∧ 0 ≤ (a2 : Int32).toInt ∧ (a2 : Int32).toInt ≤ 1) (hP : va_P V.1 vwCl (wB V y pp ff gg .null .null ++ [] ++ wz) H) (hD : va_D (AAs s) (wB V y pp ff gg .null .null ++ [] ++ wz)) (hS : va_S (AAs s) s.heap H locs) (hlz : ls.size = 4) (kk : (∀ (r : Int32) (H : Heap) (locs : List Loc) (cells slots : Nat) (wx : va_W), KX V y cells slots τ wx → va_P V.1 vwCl (wx ++ wz) H → va_D (AAs s) (wx ++ wz) → va_S (AAs s) s.heap H locs → W p l e room_1 s m #[Value.ref b] below meth c H locs cells slots (lw_Z below #[Value.ref b] s) (F0 m 897 ls [.int r]))) : W p l e room_1 s m #[Value.ref b] below meth c H locs cells slots (lw_Z below #[Value.ref b] s) (F0 m 894 ls [.int a2, .int a1, .ref (y 0)]) := by
  refine cXI (X := wB V y pp ff gg .null .null ++ []) (pl := wz) (wr := [(y 1, aB V 900 (ff 0)), (y 4, aI V 4 (ff 2)), (y 5, aI V 4 (ff 3)), (y 6, aI V 8 (ff 4)), (y 7, aI V 8 (ff 5)), (y 8, aI V 8 (ff 6)), (y 10, .inr (6, [.ref (y 11), .int (pp 15), .int (pp 16), .ref (y 1), .int (pp 17), .int (pp 18), .int (pp 19), .int (pp 20), .int (pp 21)])), (y 11, .inr (1, [.int (pp 22), .int (pp 23), .int (pp 24), .int (pp 25), .int (pp 26), .int (pp 27), .ref (y 12), .ref (y 13), .ref (y 14), .ref (y 15), .ref (y 16), .ref (y 17), .ref (y 18), .int (pp 28), .int (pp 29), .int (pp 30), .int (pp 31), .int (pp 32)])), (y 12, aI V 4 (ff 8)), (y 13, aI V 4 (ff 9)), (y 14, aI V 4 (ff 10)), (y 15, aI V 8 (ff 11)), (y 16, aI V 8 (ff 12)), (y 17, aI V 8 (ff 13)), (y 18, aI V 900 (ff 14)), (y 23, aI V 10 (ff 18)), (y 24, aI V 10 (ff 19)), (y 25, .inr (0, [.int (pp 33), .int (pp 34)])), (y 26, .inr (5, [.ref (y 27), .ref (y 28), .ref (y 29), .int (pp 35)])), (y 27, aI V 10 (ff 20)), (y 28, aI V 10 (ff 21)), (y 29, aI V 10 (ff 22)), (y 30, aT V 4 (va_up (va_up (va_up (va_up (fun _ => none) 0 (some (y 33))) 1 (some (y 35))) 2 (some (y 37))) 3 (some (y 39)))), (y 31, aM V 2 (va_up (va_up (fun _ => none) 0 (some (y 41))) 1 (some (y 50)))), (y 32, aI V 10 (ff 23)), (y 33, .inr (7, [.ref (y 34), .int (pp 36), .int (pp 37)])), (y 34, aJ V 40 (gg 0)), (y 35, .inr (7, [.ref (y 36), .int (pp 38), .int (pp 39)])), (y 36, aJ V 40 (gg 1)), (y 37, .inr (7, [.ref (y 38), .int (pp 40), .int (pp 41)])), (y 38, aJ V 40 (gg 2)), (y 39, .inr (7, [.ref (y 40), .int (pp 42), .int (pp 43)])), (y 40, aJ V 40 (gg 3)), (y 41, .inr (3, [.ref (y 42), .int (pp 44), .int (pp 45), .int (pp 46), .int (pp 47)])), (y 42, .inr (1, [.int (pp 48), .int (pp 49), .int (pp 50), .int (pp 51), .int (pp 52), .int (pp 53), .ref (y 43), .ref (y 44), .ref (y 45), .ref (y 46), .ref (y 47), .ref (y 48), .ref (y 49), .int (pp 54), .int (pp 55), .int (pp 56), .int (pp 57), .int (pp 58)])), (y 43, aI V 4 (ff 24)), (y 44, aI V 4 (ff 25)), (y 45, aI V 4 (ff 26)), (y 46, aI V 8 (ff 27)), (y 47, aI V 8 (ff 28)), (y 48, aI V 8 (ff 29)), (y 49, aI V 900 (ff 30)), (y 50, .inr (3, [.ref (y 51), .int (pp 59), .int (pp 60), .int (pp 61), .int (pp 62)])), (y 51, .inr (1, [.int (pp 63), .int (pp 64), .int (pp 65), .int (pp 66), .int (pp 67), .int (pp 68), .ref (y 52), .ref (y 53), .ref (y 54), .ref (y 55), .ref (y 56), .ref (y 57), .ref (y 58), .int (pp 69), .int (pp 70), .int (pp 71), .int (pp 72), .int (pp 73)])), (y 52, aI V 4 (ff 31)), (y 53, aI V 4 (ff 32)), (y 54, aI V 4 (ff 33)), (y 55, aI V 8 (ff 34)), (y 56, aI V 8 (ff 35)), (y 57, aI V 8 (ff 36)), (y 58, aI V 900 (ff 37))]) (rest := []) G (k_X9_reaches_2 l V y a1 a2 (pp 0) (.null) (pp 1) (pp 2) (pp 3) (pp 4) (pp 5) (pp 6) (pp 7) (pp 8) (pp 9) (pp 10) (pp 11) (pp 12) (pp 13) (pp 14) (ff 1) (ff 7) (ff 15) (ff 16) (ff 17) (hp 0) (hp 5) (hp 6) (hp 7) (hp 10) (hp 11) (hp 12) (hp 13) (hp 14) hg.1 hg.2.1 hg.2.2.1 hg.2.2.2) mt_X9_reaches q_4_209 ⟨Nat.le_of_ble_eq_true rfl, Nat.le_of_ble_eq_true rfl⟩ hP hD hS [0, 2, 3, 9, 19, 20, 21, 22] [1, 4, 5, 6, 7, 8, 10, 11, 12, 13, 14, 15, 16, 17, 18, 23, 24, 25, 26, 27, 28, 29, 30, 31, 32, 33, 34, 35, 36, 37, 38, 39, 40, 41, 42, 43, 44, 45, 46, 47, 48, 49, 50, 51, 52, 53, 54, 55, 56, 57, 58] (by decide +kernel) rfl rfl (by decide +kernel) (by decide +kernel) 0 rfl rfl rfl rfl hlz rfl (Nat.le_of_ble_eq_true rfl) dL_law_894 (by omega) (fun r w H locs hw hP hD hS => ?_)
  refine Exists.elim hw (fun n1 hw => ?_)
  refine Exists.elim hw (fun L1 hw => ?_)
  refine Exists.elim hw (fun Yw1 hw => ?_)
  refine Exists.elim hw (fun wa1 hw => ?_)
  refine Exists.elim hw (fun wb1 hw => ?_)
  refine Exists.elim hw (fun g0 hw => ?_)
  refine Exists.elim hw (fun g1 hw => ?_)
  refine Exists.elim hw (fun g2 hw => ?_)
  refine Exists.elim hw (fun ww0 hw => ?_)
  refine Exists.elim hw (fun ww5 hw => ?_)
  refine Exists.elim hw (fun ww6 hw => ?_)
  refine Exists.elim hw (fun ww14 hw => ?_)
  refine Exists.elim hw (fun ww15 hw => ?_)
  refine Exists.elim hw (fun ww16 hw => ?_)
  refine Exists.elim hw (fun wew1 hw => ?_)
  refine Exists.elim hw (fun wew2 hw => ?_)
  refine Exists.elim hw (fun wew3 hw => ?_)
  refine Exists.elim hw (fun wew4 hw => ?_)
  refine Exists.elim hw (fun wew5 hw => ?_)
  refine Exists.elim hw (fun wew6 hw => ?_)
  refine Exists.elim hw (fun wew7 hw => ?_)
  refine Exists.elim hw (fun wew8 hw => ?_)
  refine Exists.elim hw (fun wew9 hw => ?_)
  refine And.elim (fun hn1 hw => ?_) hw
  refine And.elim (fun hL1 hw => ?_) hw
  refine And.elim (fun bww0 hw => ?_) hw
  refine And.elim (fun bww5 hw => ?_) hw
  refine And.elim (fun bww6 hw => ?_) hw
  refine And.elim (fun bww14 hw => ?_) hw
  refine And.elim (fun bww16 hw => ?_) hw
  refine And.elim (fun bwew1 hw => ?_) hw
  refine And.elim (fun bwew4 hw => ?_) hw
  refine And.elim (fun bwew5 hw => ?_) hw
  refine And.elim (fun bwew6 hw => ?_) hw
  refine And.elim (fun bwew7 hw => ?_) hw
  refine And.elim (fun g_0 hw => ?_) hw
  refine And.elim (fun g_1 hw => ?_) hw
  refine And.elim (fun g_2 hw => ?_) hw
  refine And.elim (fun g_3 hw => ?_) hw
  subst hw
  have hP := ptP (ws' := wB V y pp (up9 (up9 (up9 ff 15 g0) 16 g1) 17 g2) gg (.ref (Yw1 0)) .null ++ (wY V y n1 L1 Yw1 wa1 wb1 (br9 17 (br9 8 (br9 4 (br9 2 (br9 1 (lf9 ww0) (fun _ => 0)) (fun _ => 0)) (br9 6 (br9 5 (fun _ => 0) (lf9 ww5)) (br9 7 (lf9 ww6) (fun _ => 0)))) (br9 12 (fun _ => 0) (br9 14 (fun _ => 0) (br9 15 (lf9 ww14) (br9 16 (lf9 ww15) (lf9 ww16)))))) (fun _ => 0)) (br9 9 (br9 4 (br9 2 (br9 1 (lf9 wew1) (lf9 wew2)) (br9 3 (lf9 wew3) (lf9 wew4))) (br9 6 (br9 5 (lf9 wew5) (lf9 wew6)) (br9 7 (lf9 wew7) (br9 8 (lf9 wew8) (lf9 wew9))))) (fun _ _ => 0)) ++ [])) hP [51, 0, 52, 53, 1, 2, 3, 4, 5, 54, 6, 7, 8, 9, 10, 11, 12, 13, 14, 55, 56, 57, 58, 15, 16, 17, 18, 19, 20, 21, 22, 23, 24, 25, 26, 27, 28, 29, 30, 31, 32, 33, 34, 35, 36, 37, 38, 39, 40, 41, 42, 43, 44, 45, 46, 47, 48, 49, 50, 59, 60, 61, 62, 63, 64, 65, 66, 67, 68] rfl
  have hD := hD.part (cx := wB V y pp (up9 (up9 (up9 ff 15 g0) 16 g1) 17 g2) gg (.ref (Yw1 0)) .null ++ (wY V y n1 L1 Yw1 wa1 wb1 (br9 17 (br9 8 (br9 4 (br9 2 (br9 1 (lf9 ww0) (fun _ => 0)) (fun _ => 0)) (br9 6 (br9 5 (fun _ => 0) (lf9 ww5)) (br9 7 (lf9 ww6) (fun _ => 0)))) (br9 12 (fun _ => 0) (br9 14 (fun _ => 0) (br9 15 (lf9 ww14) (br9 16 (lf9 ww15) (lf9 ww16)))))) (fun _ => 0)) (br9 9 (br9 4 (br9 2 (br9 1 (lf9 wew1) (lf9 wew2)) (br9 3 (lf9 wew3) (lf9 wew4))) (br9 6 (br9 5 (lf9 wew5) (lf9 wew6)) (br9 7 (lf9 wew7) (br9 8 (lf9 wew8) (lf9 wew9))))) (fun _ _ => 0)) ++ [])) [51, 0, 52, 53, 1, 2, 3, 4, 5, 54, 6, 7, 8, 9, 10, 11, 12, 13, 14, 55, 56, 57, 58, 15, 16, 17, 18, 19, 20, 21, 22, 23, 24, 25, 26, 27, 28, 29, 30, 31, 32, 33, 34, 35, 36, 37, 38, 39, 40, 41, 42, 43, 44, 45, 46, 47, 48, 49, 50, 59, 60, 61, 62, 63, 64, 65, 66, 67, 68] (by decide +kernel) rfl
  exact kk r H locs (cells + 10) (slots + 46481) _ ⟨pp, (up9 (up9 (up9 ff 15 g0) 16 g1) 17 g2), gg, .ref (Yw1 0), .null, _, hp, ht0, ht1, ht2, ht3, ht4, Or.inr ⟨n1, L1, Yw1, wa1, wb1, (br9 17 (br9 8 (br9 4 (br9 2 (br9 1 (lf9 ww0) (fun _ => 0)) (fun _ => 0)) (br9 6 (br9 5 (fun _ => 0) (lf9 ww5)) (br9 7 (lf9 ww6) (fun _ => 0)))) (br9 12 (fun _ => 0) (br9 14 (fun _ => 0) (br9 15 (lf9 ww14) (br9 16 (lf9 ww15) (lf9 ww16)))))) (fun _ => 0)), (br9 9 (br9 4 (br9 2 (br9 1 (lf9 wew1) (lf9 wew2)) (br9 3 (lf9 wew3) (lf9 wew4))) (br9 6 (br9 5 (lf9 wew5) (lf9 wew6)) (br9 7 (lf9 wew7) (br9 8 (lf9 wew8) (lf9 wew9))))) (fun _ _ => 0)), [], 0, ⟨hn1, hL1, bww0, bww5, bww6, bww14, bww16, bwew1, bwew4, bwew5, bwew6, bwew7, g_0, g_1, g_2⟩, (Or.inl ⟨rfl, rfl, rfl⟩), (show PTn _ _ _ _ ww0 from by rw [g_3]; exact PTn_0 10 46481 hc (hp 5) (by decide) (by decide) n1 0), rfl, rfl⟩, rfl⟩ hP hD hS
set_option maxHeartbeats 4000000 in
set_option maxRecDepth 100000 in
theorem cx_23_a {p : Program} {e : Env} {s : State} {m : MethodId} {below : List Frame} {meth : Method} {c : Code} {l : Launch} {b Lk : Nat} {xs : Nat → Int32} {V : GV} {y : Nat → Nat} {τ : Nat → Int32} {H : Heap} {locs : List Loc} {cells slots : Nat} {wz : va_W} {ls : Array Slot} (G : LCx p s m meth c b Lk xs V) (a1 : Int32) (a2 : Int32) {pp : Nat → Int32} {ff : Nat → Nat → Int32} {gg : Nat → Nat → Int64} {n L : Nat} {Yw : Nat → Nat} {wa wb : Nat} {qq : Nat → Int32} {ee : Nat → Nat → Int32} {o11 : Value} {fr : va_W} {fm : Nat} (hp : ivT tX pp) (ht0 : pp 0 = τ 0) (ht1 : pp 15 = τ 1) (ht2 : pp 16 = τ 2) (ht3 : BTs (ff 0) (tauT τ)) (ht4 : (∀ j, iv (-128) 127 ((ff 0) j))) (hW : WFa n L qq ee) (hF : RFo V o11 fr fm) (hT : PTn cells slots n fm (qq 0)) (hq : pp 5 ≤ qq 0) (hP : va_P V.1 vwCl (wB V y pp ff gg (.ref (Yw 0)) o11 ++ (wY V y n L Yw wa wb qq ee ++ fr) ++ wz) H) (hD : va_D (AAs s) (wB V y pp ff gg (.ref (Yw 0)) o11 ++ (wY V y n L Yw wa wb qq ee ++ fr) ++ wz)) (hS : va_S (AAs s) s.heap H locs) (hlz : ls.size = 4) (kk : (∀ (r : Int32) (H : Heap) (locs : List Loc) (cells slots : Nat) (wx : va_W), KX V y cells slots τ wx → va_P V.1 vwCl (wx ++ wz) H → va_D (AAs s) (wx ++ wz) → va_S (AAs s) s.heap H locs → W p l e room_1 s m #[Value.ref b] below meth c H locs cells slots (lw_Z below #[Value.ref b] s) (F0 m 897 ls [.int r]))) : W p l e room_1 s m #[Value.ref b] below meth c H locs cells slots (lw_Z below #[Value.ref b] s) (F0 m 894 ls [.int a2, .int a1, .ref (y 0)]) := by
  obtain ⟨hn, hL, hw_q0, hw_q5, hw_q6, hw_q14, hw_q16, hw_tYw1, hw_tYw4, hw_tYw5, hw_tYw6, hw_tYw7, hw_WA, hw_WB, hw_WC⟩ := id hW
  rw [as4] at hP hD
  refine cSI (X := wB V y pp ff gg (.ref (Yw 0)) o11 ++ wY V y n L Yw wa wb qq ee) (pl := fr ++ wz) (rest := []) G (k_X9_reaches_0 l V n L Yw y a1 a2 (pp 0) o11 (pp 1) (pp 2) (pp 3) (pp 4) (pp 5) (pp 6) (pp 7) (pp 8) (pp 9) (pp 10) (pp 11) (pp 12) (pp 13) (pp 14) (ff 1) (ff 7) (ff 15) (ff 16) (ff 17) (qq 0) wa (qq 5) (qq 6) wb (qq 14) (qq 15) (qq 16) (ee 0) (ee 1) (ee 3) (ee 4) (ee 5) (ee 7) hn hL hq (hp 0) (hp 5) (hp 6) (hp 7) (hp 10) (hp 11) (hp 12) (hp 13) (hp 14) hw_q0 hw_q5 hw_q6 hw_q14 hw_q16 hw_tYw1 hw_tYw4 hw_tYw5 hw_tYw6 hw_WA hw_WB hw_WC) mt_X9_reaches q_4_209 ⟨Nat.le_of_ble_eq_true rfl, Nat.le_of_ble_eq_true rfl⟩ hP hD hS [0, 2, 3, 9, 19, 20, 21, 22, 59, 60, 61, 63, 64, 65, 67] [0, 1, 0, 5, 9, 0, 0, 0, 36, 0, 0, 1, 0, 0, 1] (by decide) (by decide +kernel) rfl 0 rfl rfl rfl rfl hlz rfl (Nat.le_of_ble_eq_true rfl) dL_law_894 (PTn_room hT hw_q0) (fun r w H locs hw hPD hS => ?_)
  refine Exists.elim hw (fun g0 hw => ?_)
  refine Exists.elim hw (fun g1 hw => ?_)
  refine Exists.elim hw (fun g2 hw => ?_)
  refine Exists.elim hw (fun v3 hw => ?_)
  refine Exists.elim hw (fun v4 hw => ?_)
  refine Exists.elim hw (fun v5 hw => ?_)
  refine Exists.elim hw (fun v6 hw => ?_)
  refine Exists.elim hw (fun v7 hw => ?_)
  refine Exists.elim hw (fun g8 hw => ?_)
  refine Exists.elim hw (fun g9 hw => ?_)
  refine Exists.elim hw (fun g10 hw => ?_)
  refine Exists.elim hw (fun g11 hw => ?_)
  refine Exists.elim hw (fun g12 hw => ?_)
  refine Exists.elim hw (fun g13 hw => ?_)
  refine And.elim (fun bv3 hw => ?_) hw
  refine And.elim (fun bv4 hw => ?_) hw
  refine And.elim (fun bv5 hw => ?_) hw
  refine And.elim (fun bv7 hw => ?_) hw
  refine And.elim (fun bg8 hw => ?_) hw
  refine And.elim (fun bg10 hw => ?_) hw
  refine And.elim (fun bg11 hw => ?_) hw
  refine And.elim (fun bg12 hw => ?_) hw
  refine And.elim (fun g_0 hw => ?_) hw
  refine And.elim (fun g_1 hw => ?_) hw
  refine And.elim (fun g_2 hw => ?_) hw
  subst hw
  obtain ⟨hP, hD⟩ := hPD (wB V y pp (up9 (up9 (up9 ff 15 g0) 16 g1) 17 g2) gg (.ref (Yw 0)) o11 ++ wY V y n L Yw wa wb (br9 17 (br9 8 (br9 4 qq (br9 6 (br9 5 qq (lf9 v3)) (br9 7 (lf9 v4) qq))) (br9 12 qq (br9 14 qq (br9 15 (lf9 v5) (br9 16 (lf9 v6) (lf9 v7)))))) qq) (br9 8 (br9 4 (br9 2 (br9 1 (lf9 g8) (lf9 g9)) (br9 3 ee (lf9 g10))) (br9 6 (br9 5 (lf9 g11) (lf9 g12)) (br9 7 ee (lf9 g13)))) ee)) rfl rfl
  rw [← as4] at hP hD
  exact kk r H locs (cells + 0) (slots + 0) _ ⟨pp, (up9 (up9 (up9 ff 15 g0) 16 g1) 17 g2), gg, .ref (Yw 0), o11, _, hp, ht0, ht1, ht2, ht3, ht4, Or.inr ⟨n, L, Yw, wa, wb, (br9 17 (br9 8 (br9 4 qq (br9 6 (br9 5 qq (lf9 v3)) (br9 7 (lf9 v4) qq))) (br9 12 qq (br9 14 qq (br9 15 (lf9 v5) (br9 16 (lf9 v6) (lf9 v7)))))) qq), (br9 8 (br9 4 (br9 2 (br9 1 (lf9 g8) (lf9 g9)) (br9 3 ee (lf9 g10))) (br9 6 (br9 5 (lf9 g11) (lf9 g12)) (br9 7 ee (lf9 g13)))) ee), fr, fm, ⟨hn, hL, hw_q0, bv3, bv4, bv5, bv7, bg8, bg10, bg11, bg12, hw_tYw7, g_0, g_1, g_2⟩, hF, hT, rfl, rfl⟩, rfl⟩ hP hD hS
set_option maxHeartbeats 4000000 in
set_option maxRecDepth 100000 in
theorem cx_23_b {p : Program} {e : Env} {s : State} {m : MethodId} {below : List Frame} {meth : Method} {c : Code} {l : Launch} {b Lk : Nat} {xs : Nat → Int32} {V : GV} {y : Nat → Nat} {τ : Nat → Int32} {H : Heap} {locs : List Loc} {cells slots : Nat} {wz : va_W} {ls : Array Slot} (G : LCx p s m meth c b Lk xs V) (a1 : Int32) (a2 : Int32) {pp : Nat → Int32} {ff : Nat → Nat → Int32} {gg : Nat → Nat → Int64} {n L : Nat} {Yw : Nat → Nat} {wa wb : Nat} {qq : Nat → Int32} {ee : Nat → Nat → Int32} {o11 : Value} {fr : va_W} {fm : Nat} (hp : ivT tX pp) (ht0 : pp 0 = τ 0) (ht1 : pp 15 = τ 1) (ht2 : pp 16 = τ 2) (ht3 : BTs (ff 0) (tauT τ)) (ht4 : (∀ j, iv (-128) 127 ((ff 0) j))) (hW : WFa n L qq ee) (hF : RFo V o11 fr fm) (hT : PTn cells slots n fm (qq 0)) (hq : qq 0 < pp 5) (hg : 0 ≤ (a1 : Int32).toInt ∧ (a1 : Int32).toInt < ((pp 5) : Int32).toInt ∧ 0 ≤ (a2 : Int32).toInt ∧ (a2 : Int32).toInt ≤ 1) (hP : va_P V.1 vwCl (wB V y pp ff gg (.ref (Yw 0)) o11 ++ (wY V y n L Yw wa wb qq ee ++ fr) ++ wz) H) (hD : va_D (AAs s) (wB V y pp ff gg (.ref (Yw 0)) o11 ++ (wY V y n L Yw wa wb qq ee ++ fr) ++ wz)) (hS : va_S (AAs s) s.heap H locs) (hlz : ls.size = 4) (kk : (∀ (r : Int32) (H : Heap) (locs : List Loc) (cells slots : Nat) (wx : va_W), KX V y cells slots τ wx → va_P V.1 vwCl (wx ++ wz) H → va_D (AAs s) (wx ++ wz) → va_S (AAs s) s.heap H locs → W p l e room_1 s m #[Value.ref b] below meth c H locs cells slots (lw_Z below #[Value.ref b] s) (F0 m 897 ls [.int r]))) : W p l e room_1 s m #[Value.ref b] below meth c H locs cells slots (lw_Z below #[Value.ref b] s) (F0 m 894 ls [.int a2, .int a1, .ref (y 0)]) := by
  obtain ⟨hn, hL, hw_q0, hw_q5, hw_q6, hw_q14, hw_q16, hw_tYw1, hw_tYw4, hw_tYw5, hw_tYw6, hw_tYw7, hw_WA, hw_WB, hw_WC⟩ := id hW
  have hTB := PTn_B 10 46481 hT hw_q0 (hp 5) hq (by decide) (by decide)
  rw [as4] at hP hD
  refine cXI (X := wB V y pp ff gg (.ref (Yw 0)) o11 ++ wY V y n L Yw wa wb qq ee) (pl := fr ++ wz) (wr := [(y 1, aB V 900 (ff 0)), (y 4, aI V 4 (ff 2)), (y 5, aI V 4 (ff 3)), (y 6, aI V 8 (ff 4)), (y 7, aI V 8 (ff 5)), (y 8, aI V 8 (ff 6)), (y 10, .inr (6, [.ref (y 11), .int (pp 15), .int (pp 16), .ref (y 1), .int (pp 17), .int (pp 18), .int (pp 19), .int (pp 20), .int (pp 21)])), (y 11, .inr (1, [.int (pp 22), .int (pp 23), .int (pp 24), .int (pp 25), .int (pp 26), .int (pp 27), .ref (y 12), .ref (y 13), .ref (y 14), .ref (y 15), .ref (y 16), .ref (y 17), .ref (y 18), .int (pp 28), .int (pp 29), .int (pp 30), .int (pp 31), .int (pp 32)])), (y 12, aI V 4 (ff 8)), (y 13, aI V 4 (ff 9)), (y 14, aI V 4 (ff 10)), (y 15, aI V 8 (ff 11)), (y 16, aI V 8 (ff 12)), (y 17, aI V 8 (ff 13)), (y 18, aI V 900 (ff 14)), (y 23, aI V 10 (ff 18)), (y 24, aI V 10 (ff 19)), (y 25, .inr (0, [.int (pp 33), .int (pp 34)])), (y 26, .inr (5, [.ref (y 27), .ref (y 28), .ref (y 29), .int (pp 35)])), (y 27, aI V 10 (ff 20)), (y 28, aI V 10 (ff 21)), (y 29, aI V 10 (ff 22)), (y 30, aT V 4 (va_up (va_up (va_up (va_up (fun _ => none) 0 (some (y 33))) 1 (some (y 35))) 2 (some (y 37))) 3 (some (y 39)))), (y 31, aM V 2 (va_up (va_up (fun _ => none) 0 (some (y 41))) 1 (some (y 50)))), (y 32, aI V 10 (ff 23)), (y 33, .inr (7, [.ref (y 34), .int (pp 36), .int (pp 37)])), (y 34, aJ V 40 (gg 0)), (y 35, .inr (7, [.ref (y 36), .int (pp 38), .int (pp 39)])), (y 36, aJ V 40 (gg 1)), (y 37, .inr (7, [.ref (y 38), .int (pp 40), .int (pp 41)])), (y 38, aJ V 40 (gg 2)), (y 39, .inr (7, [.ref (y 40), .int (pp 42), .int (pp 43)])), (y 40, aJ V 40 (gg 3)), (y 41, .inr (3, [.ref (y 42), .int (pp 44), .int (pp 45), .int (pp 46), .int (pp 47)])), (y 42, .inr (1, [.int (pp 48), .int (pp 49), .int (pp 50), .int (pp 51), .int (pp 52), .int (pp 53), .ref (y 43), .ref (y 44), .ref (y 45), .ref (y 46), .ref (y 47), .ref (y 48), .ref (y 49), .int (pp 54), .int (pp 55), .int (pp 56), .int (pp 57), .int (pp 58)])), (y 43, aI V 4 (ff 24)), (y 44, aI V 4 (ff 25)), (y 45, aI V 4 (ff 26)), (y 46, aI V 8 (ff 27)), (y 47, aI V 8 (ff 28)), (y 48, aI V 8 (ff 29)), (y 49, aI V 900 (ff 30)), (y 50, .inr (3, [.ref (y 51), .int (pp 59), .int (pp 60), .int (pp 61), .int (pp 62)])), (y 51, .inr (1, [.int (pp 63), .int (pp 64), .int (pp 65), .int (pp 66), .int (pp 67), .int (pp 68), .ref (y 52), .ref (y 53), .ref (y 54), .ref (y 55), .ref (y 56), .ref (y 57), .ref (y 58), .int (pp 69), .int (pp 70), .int (pp 71), .int (pp 72), .int (pp 73)])), (y 52, aI V 4 (ff 31)), (y 53, aI V 4 (ff 32)), (y 54, aI V 4 (ff 33)), (y 55, aI V 8 (ff 34)), (y 56, aI V 8 (ff 35)), (y 57, aI V 8 (ff 36)), (y 58, aI V 900 (ff 37))]) (rest := []) G (k_X9_reaches_3 l V n L Yw y a1 a2 (pp 0) o11 (pp 1) (pp 2) (pp 3) (pp 4) (pp 5) (pp 6) (pp 7) (pp 8) (pp 9) (pp 10) (pp 11) (pp 12) (pp 13) (pp 14) (ff 1) (ff 7) (ff 15) (ff 16) (ff 17) (qq 0) wa (qq 5) (qq 6) wb (qq 14) (qq 15) (qq 16) (ee 0) (ee 1) (ee 2) (ee 3) (ee 4) (ee 5) (ee 6) (ee 7) (ee 8) hn hL hq (hp 0) (hp 5) (hp 6) (hp 7) (hp 10) (hp 11) (hp 12) (hp 13) (hp 14) hw_q0 hw_q5 hw_q6 hw_q14 hw_q16 hw_tYw1 hw_tYw4 hw_tYw5 hw_tYw6 hw_tYw7 hw_WA hw_WB hw_WC hg.1 hg.2.1 hg.2.2.1 hg.2.2.2) mt_X9_reaches q_4_209 ⟨Nat.le_of_ble_eq_true rfl, Nat.le_of_ble_eq_true rfl⟩ hP hD hS [0, 2, 3, 9, 19, 20, 21, 22, 59, 60, 61, 62, 63, 64, 65, 66, 67, 68] [1, 4, 5, 6, 7, 8, 10, 11, 12, 13, 14, 15, 16, 17, 18, 23, 24, 25, 26, 27, 28, 29, 30, 31, 32, 33, 34, 35, 36, 37, 38, 39, 40, 41, 42, 43, 44, 45, 46, 47, 48, 49, 50, 51, 52, 53, 54, 55, 56, 57, 58] (by decide +kernel) rfl rfl (by decide +kernel) (by decide +kernel) 0 rfl rfl rfl rfl hlz rfl (Nat.le_of_ble_eq_true rfl) dL_law_894 hTB.1 (fun r w H locs hw hP hD hS => ?_)
  refine Exists.elim hw (fun n1 hw => ?_)
  refine Exists.elim hw (fun L1 hw => ?_)
  refine Exists.elim hw (fun Yw1 hw => ?_)
  refine Exists.elim hw (fun wa1 hw => ?_)
  refine Exists.elim hw (fun wb1 hw => ?_)
  refine Exists.elim hw (fun g0 hw => ?_)
  refine Exists.elim hw (fun g1 hw => ?_)
  refine Exists.elim hw (fun g2 hw => ?_)
  refine Exists.elim hw (fun ww0 hw => ?_)
  refine Exists.elim hw (fun ww5 hw => ?_)
  refine Exists.elim hw (fun ww6 hw => ?_)
  refine Exists.elim hw (fun ww14 hw => ?_)
  refine Exists.elim hw (fun ww15 hw => ?_)
  refine Exists.elim hw (fun ww16 hw => ?_)
  refine Exists.elim hw (fun wew1 hw => ?_)
  refine Exists.elim hw (fun wew2 hw => ?_)
  refine Exists.elim hw (fun wew3 hw => ?_)
  refine Exists.elim hw (fun wew4 hw => ?_)
  refine Exists.elim hw (fun wew5 hw => ?_)
  refine Exists.elim hw (fun wew6 hw => ?_)
  refine Exists.elim hw (fun wew7 hw => ?_)
  refine Exists.elim hw (fun wew8 hw => ?_)
  refine Exists.elim hw (fun wew9 hw => ?_)
  refine And.elim (fun hn1 hw => ?_) hw
  refine And.elim (fun hL1 hw => ?_) hw
  refine And.elim (fun bww0 hw => ?_) hw
  refine And.elim (fun bww5 hw => ?_) hw
  refine And.elim (fun bww6 hw => ?_) hw
  refine And.elim (fun bww14 hw => ?_) hw
  refine And.elim (fun bww16 hw => ?_) hw
  refine And.elim (fun bwew1 hw => ?_) hw
  refine And.elim (fun bwew4 hw => ?_) hw
  refine And.elim (fun bwew5 hw => ?_) hw
  refine And.elim (fun bwew6 hw => ?_) hw
  refine And.elim (fun bwew7 hw => ?_) hw
  refine And.elim (fun g_0 hw => ?_) hw
  refine And.elim (fun g_1 hw => ?_) hw
  refine And.elim (fun g_2 hw => ?_) hw
  refine And.elim (fun g_3 hw => ?_) hw
  subst hw
  have hP := ptP (ws' := wB V y pp (up9 (up9 (up9 ff 15 g0) 16 g1) 17 g2) gg (.ref (Yw1 0)) o11 ++ wY V y n1 L1 Yw1 wa1 wb1 (br9 17 (br9 8 (br9 4 (br9 2 (br9 1 (lf9 ww0) (fun _ => 0)) (fun _ => 0)) (br9 6 (br9 5 (fun _ => 0) (lf9 ww5)) (br9 7 (lf9 ww6) (fun _ => 0)))) (br9 12 (fun _ => 0) (br9 14 (fun _ => 0) (br9 15 (lf9 ww14) (br9 16 (lf9 ww15) (lf9 ww16)))))) (fun _ => 0)) (br9 9 (br9 4 (br9 2 (br9 1 (lf9 wew1) (lf9 wew2)) (br9 3 (lf9 wew3) (lf9 wew4))) (br9 6 (br9 5 (lf9 wew5) (lf9 wew6)) (br9 7 (lf9 wew7) (br9 8 (lf9 wew8) (lf9 wew9))))) (fun _ _ => 0))) hP [51, 0, 52, 53, 1, 2, 3, 4, 5, 54, 6, 7, 8, 9, 10, 11, 12, 13, 14, 55, 56, 57, 58, 15, 16, 17, 18, 19, 20, 21, 22, 23, 24, 25, 26, 27, 28, 29, 30, 31, 32, 33, 34, 35, 36, 37, 38, 39, 40, 41, 42, 43, 44, 45, 46, 47, 48, 49, 50, 59, 60, 61, 62, 63, 64, 65, 66, 67, 68] rfl
  have hD := hD.part (cx := wB V y pp (up9 (up9 (up9 ff 15 g0) 16 g1) 17 g2) gg (.ref (Yw1 0)) o11 ++ wY V y n1 L1 Yw1 wa1 wb1 (br9 17 (br9 8 (br9 4 (br9 2 (br9 1 (lf9 ww0) (fun _ => 0)) (fun _ => 0)) (br9 6 (br9 5 (fun _ => 0) (lf9 ww5)) (br9 7 (lf9 ww6) (fun _ => 0)))) (br9 12 (fun _ => 0) (br9 14 (fun _ => 0) (br9 15 (lf9 ww14) (br9 16 (lf9 ww15) (lf9 ww16)))))) (fun _ => 0)) (br9 9 (br9 4 (br9 2 (br9 1 (lf9 wew1) (lf9 wew2)) (br9 3 (lf9 wew3) (lf9 wew4))) (br9 6 (br9 5 (lf9 wew5) (lf9 wew6)) (br9 7 (lf9 wew7) (br9 8 (lf9 wew8) (lf9 wew9))))) (fun _ _ => 0))) [51, 0, 52, 53, 1, 2, 3, 4, 5, 54, 6, 7, 8, 9, 10, 11, 12, 13, 14, 55, 56, 57, 58, 15, 16, 17, 18, 19, 20, 21, 22, 23, 24, 25, 26, 27, 28, 29, 30, 31, 32, 33, 34, 35, 36, 37, 38, 39, 40, 41, 42, 43, 44, 45, 46, 47, 48, 49, 50, 59, 60, 61, 62, 63, 64, 65, 66, 67, 68] (by decide +kernel) rfl
  rw [← as4] at hP hD
  exact kk r H locs (cells + 10) (slots + 46481) _ ⟨pp, (up9 (up9 (up9 ff 15 g0) 16 g1) 17 g2), gg, .ref (Yw1 0), o11, _, hp, ht0, ht1, ht2, ht3, ht4, Or.inr ⟨n1, L1, Yw1, wa1, wb1, (br9 17 (br9 8 (br9 4 (br9 2 (br9 1 (lf9 ww0) (fun _ => 0)) (fun _ => 0)) (br9 6 (br9 5 (fun _ => 0) (lf9 ww5)) (br9 7 (lf9 ww6) (fun _ => 0)))) (br9 12 (fun _ => 0) (br9 14 (fun _ => 0) (br9 15 (lf9 ww14) (br9 16 (lf9 ww15) (lf9 ww16)))))) (fun _ => 0)), (br9 9 (br9 4 (br9 2 (br9 1 (lf9 wew1) (lf9 wew2)) (br9 3 (lf9 wew3) (lf9 wew4))) (br9 6 (br9 5 (lf9 wew5) (lf9 wew6)) (br9 7 (lf9 wew7) (br9 8 (lf9 wew8) (lf9 wew9))))) (fun _ _ => 0)), fr, fm, ⟨hn1, hL1, bww0, bww5, bww6, bww14, bww16, bwew1, bwew4, bwew5, bwew6, bwew7, g_0, g_1, g_2⟩, hF, (show PTn _ _ _ _ ww0 from by rw [g_3]; exact hTB.2 n1 fm), rfl, rfl⟩, rfl⟩ hP hD hS
set_option maxHeartbeats 4000000 in
set_option maxRecDepth 100000 in
theorem cx_23 {p : Program} {e : Env} {s : State} {m : MethodId} {below : List Frame} {meth : Method} {c : Code} {l : Launch} {b Lk : Nat} {xs : Nat → Int32} {V : GV} {y : Nat → Nat} {τ : Nat → Int32} {H : Heap} {locs : List Loc} {cells slots : Nat} {wz : va_W} {ls : Array Slot} (G : LCx p s m meth c b Lk xs V) (a1 : Int32) (a2 : Int32) {wx : va_W} (kx : KX V y cells slots τ wx) (hP : va_P V.1 vwCl (wx ++ wz) H) (hD : va_D (AAs s) (wx ++ wz)) (hS : va_S (AAs s) s.heap H locs) (hlz : ls.size = 4) (kk : (∀ (r : Int32) (H : Heap) (locs : List Loc) (cells slots : Nat) (wx : va_W), KX V y cells slots τ wx → va_P V.1 vwCl (wx ++ wz) H → va_D (AAs s) (wx ++ wz) → va_S (AAs s) s.heap H locs → W p l e room_1 s m #[Value.ref b] below meth c H locs cells slots (lw_Z below #[Value.ref b] s) (F0 m 897 ls [.int r]))) : W p l e room_1 s m #[Value.ref b] below meth c H locs cells slots (lw_Z below #[Value.ref b] s) (F0 m 894 ls [.int a2, .int a1, .ref (y 0)]) := by
  obtain ⟨pp, ff, gg, o10, o11, rest, hp, ht0, ht1, ht2, ht3, ht4, hR, rfl⟩ := kx
  by_cases hg : 0 ≤ (a1 : Int32).toInt ∧ (a1 : Int32).toInt < ((pp 5) : Int32).toInt ∧ 0 ≤ (a2 : Int32).toInt ∧ (a2 : Int32).toInt ≤ 1
  · rcases hR with ⟨rfl, rfl, rfl, hc⟩ | ⟨n, L, Yw, wa, wb, qq, ee, fr, fm, hW, hF, hT, rfl, rfl⟩
    · exact cx_23_0 G _ _ hp ht0 ht1 ht2 ht3 ht4 hc hg hP hD hS hlz kk
    · rcases Classical.em (pp 5 ≤ qq 0) with hq | hq
      · exact cx_23_a G _ _ hp ht0 ht1 ht2 ht3 ht4 hW hF hT hq hP hD hS hlz kk
      · replace hq := Int32.not_le.mp hq
        exact cx_23_b G _ _ hp ht0 ht1 ht2 ht3 ht4 hW hF hT hq hg hP hD hS hlz kk
  · exact cx_23_e G _ _ hp ht0 ht1 ht2 ht3 ht4 hR hg hP hD hS hlz kk
theorem q_8_7 : Cond.code yX10_reaches prog_12_method_97_code 6 (some FieldType.int) ∈ gw := gw_8 (i := 7) (rfl) rfl
theorem q_8_5 : Cond.instanceMethod yX10_reaches ∈ gw := gw_8 (i := 5) (by decide +kernel) rfl
theorem q_8_6 : Cond.selects "BeaconDelayModel" yX10_reaches yX10_reaches ∈ gw := gw_8 (i := 6) (by decide +kernel) rfl
theorem mt_X10_reaches : MtV yX10_reaches cX10_reaches 6 (some .int) 2 := ⟨⟨q_8_7, q_1_9, by decide +kernel, by decide +kernel, by decide +kernel⟩, q_8_5, q_8_6⟩
theorem q_8_4 : Cond.methodLink "BeaconDelayLaw" 114 yX10_reaches ∈ gw := gw_8 (i := 4) (by decide +kernel) rfl
theorem dL_law_909 : decode cL_law 909 = .ok (.invokevirtual 114, 3) := by decide +kernel
set_option maxHeartbeats 4000000 in
set_option maxRecDepth 100000 in
theorem cz_23 {p : Program} {e : Env} {s : State} {m : MethodId} {below : List Frame} {meth : Method} {c : Code} {l : Launch} {b Lk : Nat} {xs : Nat → Int32} {V : GV} {z : Nat → Nat} {τ : Nat → Int32} {H : Heap} {locs : List Loc} {cells slots : Nat} {wx : va_W} {ls : Array Slot} {rest : List Value} (G : LCx p s m meth c b Lk xs V) (a1 : Int32) (a2 : Int32) {wz : va_W} (kz : KZ V z τ wz) (hP : va_P V.1 vwCl (wx ++ wz) H) (hD : va_D (AAs s) (wx ++ wz)) (hS : va_S (AAs s) s.heap H locs) (hcs : cells + 0 ≤ 600000 ∧ slots + 0 ≤ 7302250) (hro : (rest.map fun v => v.category).sum ≤ 8) (hlz : ls.size = 4) (kk : (∀ (r : Int32) (H : Heap) (locs : List Loc) (wz : va_W), KZ V z τ wz → va_P V.1 vwCl (wx ++ wz) H → va_D (AAs s) (wx ++ wz) → va_S (AAs s) s.heap H locs → W p l e room_1 s m #[Value.ref b] below meth c H locs cells slots (lw_Z below #[Value.ref b] s) (F0 m 912 ls (.int r :: rest)))) : W p l e room_1 s m #[Value.ref b] below meth c H locs cells slots (lw_Z below #[Value.ref b] s) (F0 m 909 ls (.int a2 :: .int a1 :: .ref (z 0) :: rest)) := by
  obtain ⟨pz, fz, gz, hp, ht0, ht1, ht2, ht3, hz_tz1, hz_tz3, hz_tz4, hz_tz16, hz_tz17, hz_tz20, hz_tz21, hz_tz24, hz_tz25, hz_tz26, hz_tz27, hz_tz33, hz_tz34, hz_tz37, hz_tz38, hz_RW, rfl⟩ := kz
  replace hP := swP hP
  replace hD := swD hD
  refine cSI (X := wZ V z pz fz gz) (pl := wx) (rest := rest) G (k_X10_reaches_0 l V z a1 a2 (pz 0) (pz 5) (pz 6) (pz 7) (pz 8) (pz 9) (pz 10) (pz 11) (pz 12) (pz 13) (pz 14) (pz 18) (pz 19) (pz 22) (pz 23) (pz 29) (fz 0) (fz 4) (fz 5) (fz 9) (fz 10) (fz 13) (hp 5) (hp 6) (hp 7) (hp 8) (hp 10) (hp 11) (hp 12) (hp 13) (hp 14) (hp 18) (hp 22) (hp 29) hz_tz1 hz_tz16 hz_tz24 hz_tz25 hz_RW) mt_X10_reaches q_8_4 ⟨Nat.le_of_ble_eq_true rfl, Nat.le_of_ble_eq_true rfl⟩ hP hD hS [0, 1, 5, 6, 10, 11, 14] [0, 0, 3, 0, 3, 0, 2] (by decide) (by decide +kernel) rfl 0 rfl rfl rfl rfl hlz rfl hro dL_law_909 hcs (fun r w H locs hw hPD hS => ?_)
  refine Exists.elim hw (fun v0 hw => ?_)
  refine Exists.elim hw (fun v1 hw => ?_)
  refine Exists.elim hw (fun g2 hw => ?_)
  refine Exists.elim hw (fun g3 hw => ?_)
  refine Exists.elim hw (fun g4 hw => ?_)
  refine Exists.elim hw (fun g5 hw => ?_)
  refine Exists.elim hw (fun g6 hw => ?_)
  refine And.elim (fun bv1 hw => ?_) hw
  refine And.elim (fun bg3 hw => ?_) hw
  refine And.elim (fun bg4 hw => ?_) hw
  refine And.elim (fun bg5 hw => ?_) hw
  refine And.elim (fun g_0 hw => ?_) hw
  subst hw
  obtain ⟨hP, hD⟩ := hPD (wZ V z (up9 (up9 pz 0 v0) 29 v1) (br9 14 (br9 7 (br9 3 fz (br9 5 (br9 4 fz (lf9 g2)) (br9 6 (lf9 g3) fz))) (br9 10 (br9 8 fz (br9 9 fz (lf9 g4))) (br9 12 (br9 11 (lf9 g5) fz) (br9 13 fz (lf9 g6))))) fz) gz) rfl rfl
  replace hP := swP hP
  replace hD := swD hD
  exact kk r H locs _ ⟨(up9 (up9 pz 0 v0) 29 v1), (br9 14 (br9 7 (br9 3 fz (br9 5 (br9 4 fz (lf9 g2)) (br9 6 (lf9 g3) fz))) (br9 10 (br9 8 fz (br9 9 fz (lf9 g4))) (br9 12 (br9 11 (lf9 g5) fz) (br9 13 fz (lf9 g6))))) fz), gz, (ivUp 29 (ivUp 0 hp (iv_top v0)) bv1), ht0, ht1, ht2, ht3, hz_tz1, hz_tz3, hz_tz4, bg3, hz_tz17, hz_tz20, hz_tz21, bg4, bg5, hz_tz26, hz_tz27, hz_tz33, hz_tz34, hz_tz37, hz_tz38, g_0, rfl⟩ hP hD hS
theorem q_4_218 : Cond.code yX9_stands prog_1_method_44_code 1 (some FieldType.int) ∈ gw := gw_4 (i := 218) (rfl) rfl
theorem q_4_216 : Cond.instanceMethod yX9_stands ∈ gw := gw_4 (i := 216) (by decide +kernel) rfl
theorem q_4_217 : Cond.selects "BeaconDelay" yX9_stands yX9_stands ∈ gw := gw_4 (i := 217) (by decide +kernel) rfl
theorem mt_X9_stands : MtV yX9_stands cX9_stands 1 (some .int) 0 := ⟨⟨q_4_218, q_1_1, by decide +kernel, by decide +kernel, by decide +kernel⟩, q_4_216, q_4_217⟩
theorem q_4_215 : Cond.methodLink "BeaconDelayLaw" 115 yX9_stands ∈ gw := gw_4 (i := 215) (by decide +kernel) rfl
theorem dL_law_917 : decode cL_law 917 = .ok (.invokevirtual 115, 3) := by decide +kernel
set_option maxHeartbeats 4000000 in
set_option maxRecDepth 100000 in
theorem cx_24_0 {p : Program} {e : Env} {s : State} {m : MethodId} {below : List Frame} {meth : Method} {c : Code} {l : Launch} {b Lk : Nat} {xs : Nat → Int32} {V : GV} {y : Nat → Nat} {τ : Nat → Int32} {H : Heap} {locs : List Loc} {cells slots : Nat} {wz : va_W} {ls : Array Slot} (G : LCx p s m meth c b Lk xs V)  {pp : Nat → Int32} {ff : Nat → Nat → Int32} {gg : Nat → Nat → Int64} (hp : ivT tX pp) (ht0 : pp 0 = τ 0) (ht1 : pp 15 = τ 1) (ht2 : pp 16 = τ 2) (ht3 : BTs (ff 0) (tauT τ)) (ht4 : (∀ j, iv (-128) 127 ((ff 0) j))) (hc : cells + 116 ≤ 600000 ∧ slots + 633553 ≤ 7302250)  (hP : va_P V.1 vwCl (wB V y pp ff gg .null .null ++ [] ++ wz) H) (hD : va_D (AAs s) (wB V y pp ff gg .null .null ++ [] ++ wz)) (hS : va_S (AAs s) s.heap H locs) (hlz : ls.size = 4) (kk : (∀ (r : Int32) (H : Heap) (locs : List Loc) (cells slots : Nat) (wx : va_W), KX V y cells slots τ wx → va_P V.1 vwCl (wx ++ wz) H → va_D (AAs s) (wx ++ wz) → va_S (AAs s) s.heap H locs → W p l e room_1 s m #[Value.ref b] below meth c H locs cells slots (lw_Z below #[Value.ref b] s) (F0 m 920 ls [.int r]))) : W p l e room_1 s m #[Value.ref b] below meth c H locs cells slots (lw_Z below #[Value.ref b] s) (F0 m 917 ls [.ref (y 0)]) := by
  refine cXI (X := wB V y pp ff gg .null .null ++ []) (pl := wz) (wr := [(y 1, aB V 900 (ff 0)), (y 4, aI V 4 (ff 2)), (y 5, aI V 4 (ff 3)), (y 6, aI V 8 (ff 4)), (y 7, aI V 8 (ff 5)), (y 8, aI V 8 (ff 6)), (y 10, .inr (6, [.ref (y 11), .int (pp 15), .int (pp 16), .ref (y 1), .int (pp 17), .int (pp 18), .int (pp 19), .int (pp 20), .int (pp 21)])), (y 11, .inr (1, [.int (pp 22), .int (pp 23), .int (pp 24), .int (pp 25), .int (pp 26), .int (pp 27), .ref (y 12), .ref (y 13), .ref (y 14), .ref (y 15), .ref (y 16), .ref (y 17), .ref (y 18), .int (pp 28), .int (pp 29), .int (pp 30), .int (pp 31), .int (pp 32)])), (y 12, aI V 4 (ff 8)), (y 13, aI V 4 (ff 9)), (y 14, aI V 4 (ff 10)), (y 15, aI V 8 (ff 11)), (y 16, aI V 8 (ff 12)), (y 17, aI V 8 (ff 13)), (y 18, aI V 900 (ff 14)), (y 23, aI V 10 (ff 18)), (y 24, aI V 10 (ff 19)), (y 25, .inr (0, [.int (pp 33), .int (pp 34)])), (y 26, .inr (5, [.ref (y 27), .ref (y 28), .ref (y 29), .int (pp 35)])), (y 27, aI V 10 (ff 20)), (y 28, aI V 10 (ff 21)), (y 29, aI V 10 (ff 22)), (y 30, aT V 4 (va_up (va_up (va_up (va_up (fun _ => none) 0 (some (y 33))) 1 (some (y 35))) 2 (some (y 37))) 3 (some (y 39)))), (y 31, aM V 2 (va_up (va_up (fun _ => none) 0 (some (y 41))) 1 (some (y 50)))), (y 32, aI V 10 (ff 23)), (y 33, .inr (7, [.ref (y 34), .int (pp 36), .int (pp 37)])), (y 34, aJ V 40 (gg 0)), (y 35, .inr (7, [.ref (y 36), .int (pp 38), .int (pp 39)])), (y 36, aJ V 40 (gg 1)), (y 37, .inr (7, [.ref (y 38), .int (pp 40), .int (pp 41)])), (y 38, aJ V 40 (gg 2)), (y 39, .inr (7, [.ref (y 40), .int (pp 42), .int (pp 43)])), (y 40, aJ V 40 (gg 3)), (y 41, .inr (3, [.ref (y 42), .int (pp 44), .int (pp 45), .int (pp 46), .int (pp 47)])), (y 42, .inr (1, [.int (pp 48), .int (pp 49), .int (pp 50), .int (pp 51), .int (pp 52), .int (pp 53), .ref (y 43), .ref (y 44), .ref (y 45), .ref (y 46), .ref (y 47), .ref (y 48), .ref (y 49), .int (pp 54), .int (pp 55), .int (pp 56), .int (pp 57), .int (pp 58)])), (y 43, aI V 4 (ff 24)), (y 44, aI V 4 (ff 25)), (y 45, aI V 4 (ff 26)), (y 46, aI V 8 (ff 27)), (y 47, aI V 8 (ff 28)), (y 48, aI V 8 (ff 29)), (y 49, aI V 900 (ff 30)), (y 50, .inr (3, [.ref (y 51), .int (pp 59), .int (pp 60), .int (pp 61), .int (pp 62)])), (y 51, .inr (1, [.int (pp 63), .int (pp 64), .int (pp 65), .int (pp 66), .int (pp 67), .int (pp 68), .ref (y 52), .ref (y 53), .ref (y 54), .ref (y 55), .ref (y 56), .ref (y 57), .ref (y 58), .int (pp 69), .int (pp 70), .int (pp 71), .int (pp 72), .int (pp 73)])), (y 52, aI V 4 (ff 31)), (y 53, aI V 4 (ff 32)), (y 54, aI V 4 (ff 33)), (y 55, aI V 8 (ff 34)), (y 56, aI V 8 (ff 35)), (y 57, aI V 8 (ff 36)), (y 58, aI V 900 (ff 37))]) (rest := []) G (k_X9_stands_1 l V y (pp 0) (.null) (pp 1) (pp 2) (pp 3) (pp 4) (pp 5) (pp 6) (pp 7) (pp 8) (pp 9) (pp 10) (pp 11) (pp 12) (pp 13) (pp 14) (ff 1) (ff 7) (ff 15) (ff 16) (ff 17) (hp 0) (hp 5) (hp 6) (hp 7) (hp 10) (hp 11) (hp 12) (hp 13) (hp 14)) mt_X9_stands q_4_215 ⟨Nat.le_of_ble_eq_true rfl, Nat.le_of_ble_eq_true rfl⟩ hP hD hS [0, 2, 3, 9, 19, 20, 21, 22] [1, 4, 5, 6, 7, 8, 10, 11, 12, 13, 14, 15, 16, 17, 18, 23, 24, 25, 26, 27, 28, 29, 30, 31, 32, 33, 34, 35, 36, 37, 38, 39, 40, 41, 42, 43, 44, 45, 46, 47, 48, 49, 50, 51, 52, 53, 54, 55, 56, 57, 58] (by decide +kernel) rfl rfl (by decide +kernel) (by decide +kernel) 0 rfl rfl rfl rfl hlz rfl (Nat.le_of_ble_eq_true rfl) dL_law_917 (by omega) (fun r w H locs hw hP hD hS => ?_)
  refine Exists.elim hw (fun n1 hw => ?_)
  refine Exists.elim hw (fun L1 hw => ?_)
  refine Exists.elim hw (fun Yw1 hw => ?_)
  refine Exists.elim hw (fun wa1 hw => ?_)
  refine Exists.elim hw (fun wb1 hw => ?_)
  refine Exists.elim hw (fun g0 hw => ?_)
  refine Exists.elim hw (fun g1 hw => ?_)
  refine Exists.elim hw (fun g2 hw => ?_)
  refine Exists.elim hw (fun ww0 hw => ?_)
  refine Exists.elim hw (fun ww5 hw => ?_)
  refine Exists.elim hw (fun ww6 hw => ?_)
  refine Exists.elim hw (fun ww14 hw => ?_)
  refine Exists.elim hw (fun ww15 hw => ?_)
  refine Exists.elim hw (fun ww16 hw => ?_)
  refine Exists.elim hw (fun wew1 hw => ?_)
  refine Exists.elim hw (fun wew2 hw => ?_)
  refine Exists.elim hw (fun wew3 hw => ?_)
  refine Exists.elim hw (fun wew4 hw => ?_)
  refine Exists.elim hw (fun wew5 hw => ?_)
  refine Exists.elim hw (fun wew6 hw => ?_)
  refine Exists.elim hw (fun wew7 hw => ?_)
  refine Exists.elim hw (fun wew8 hw => ?_)
  refine Exists.elim hw (fun wew9 hw => ?_)
  refine And.elim (fun hn1 hw => ?_) hw
  refine And.elim (fun hL1 hw => ?_) hw
  refine And.elim (fun bww0 hw => ?_) hw
  refine And.elim (fun bww5 hw => ?_) hw
  refine And.elim (fun bww6 hw => ?_) hw
  refine And.elim (fun bww14 hw => ?_) hw
  refine And.elim (fun bww16 hw => ?_) hw
  refine And.elim (fun bwew1 hw => ?_) hw
  refine And.elim (fun bwew4 hw => ?_) hw
  refine And.elim (fun bwew5 hw => ?_) hw
  refine And.elim (fun bwew6 hw => ?_) hw
  refine And.elim (fun bwew7 hw => ?_) hw
  refine And.elim (fun br hw => ?_) hw
  refine And.elim (fun g_0 hw => ?_) hw
  refine And.elim (fun g_1 hw => ?_) hw
  refine And.elim (fun g_2 hw => ?_) hw
  refine And.elim (fun g_3 hw => ?_) hw
  subst hw
  have hP := ptP (ws' := wB V y pp (up9 (up9 (up9 ff 15 g0) 16 g1) 17 g2) gg (.ref (Yw1 0)) .null ++ (wY V y n1 L1 Yw1 wa1 wb1 (br9 17 (br9 8 (br9 4 (br9 2 (br9 1 (lf9 ww0) (fun _ => 0)) (fun _ => 0)) (br9 6 (br9 5 (fun _ => 0) (lf9 ww5)) (br9 7 (lf9 ww6) (fun _ => 0)))) (br9 12 (fun _ => 0) (br9 14 (fun _ => 0) (br9 15 (lf9 ww14) (br9 16 (lf9 ww15) (lf9 ww16)))))) (fun _ => 0)) (br9 9 (br9 4 (br9 2 (br9 1 (lf9 wew1) (lf9 wew2)) (br9 3 (lf9 wew3) (lf9 wew4))) (br9 6 (br9 5 (lf9 wew5) (lf9 wew6)) (br9 7 (lf9 wew7) (br9 8 (lf9 wew8) (lf9 wew9))))) (fun _ _ => 0)) ++ [])) hP [51, 0, 52, 53, 1, 2, 3, 4, 5, 54, 6, 7, 8, 9, 10, 11, 12, 13, 14, 55, 56, 57, 58, 15, 16, 17, 18, 19, 20, 21, 22, 23, 24, 25, 26, 27, 28, 29, 30, 31, 32, 33, 34, 35, 36, 37, 38, 39, 40, 41, 42, 43, 44, 45, 46, 47, 48, 49, 50, 59, 60, 61, 62, 63, 64, 65, 66, 67, 68] rfl
  have hD := hD.part (cx := wB V y pp (up9 (up9 (up9 ff 15 g0) 16 g1) 17 g2) gg (.ref (Yw1 0)) .null ++ (wY V y n1 L1 Yw1 wa1 wb1 (br9 17 (br9 8 (br9 4 (br9 2 (br9 1 (lf9 ww0) (fun _ => 0)) (fun _ => 0)) (br9 6 (br9 5 (fun _ => 0) (lf9 ww5)) (br9 7 (lf9 ww6) (fun _ => 0)))) (br9 12 (fun _ => 0) (br9 14 (fun _ => 0) (br9 15 (lf9 ww14) (br9 16 (lf9 ww15) (lf9 ww16)))))) (fun _ => 0)) (br9 9 (br9 4 (br9 2 (br9 1 (lf9 wew1) (lf9 wew2)) (br9 3 (lf9 wew3) (lf9 wew4))) (br9 6 (br9 5 (lf9 wew5) (lf9 wew6)) (br9 7 (lf9 wew7) (br9 8 (lf9 wew8) (lf9 wew9))))) (fun _ _ => 0)) ++ [])) [51, 0, 52, 53, 1, 2, 3, 4, 5, 54, 6, 7, 8, 9, 10, 11, 12, 13, 14, 55, 56, 57, 58, 15, 16, 17, 18, 19, 20, 21, 22, 23, 24, 25, 26, 27, 28, 29, 30, 31, 32, 33, 34, 35, 36, 37, 38, 39, 40, 41, 42, 43, 44, 45, 46, 47, 48, 49, 50, 59, 60, 61, 62, 63, 64, 65, 66, 67, 68] (by decide +kernel) rfl
  exact kk r H locs (cells + 10) (slots + 46481) _ ⟨pp, (up9 (up9 (up9 ff 15 g0) 16 g1) 17 g2), gg, .ref (Yw1 0), .null, _, hp, ht0, ht1, ht2, ht3, ht4, Or.inr ⟨n1, L1, Yw1, wa1, wb1, (br9 17 (br9 8 (br9 4 (br9 2 (br9 1 (lf9 ww0) (fun _ => 0)) (fun _ => 0)) (br9 6 (br9 5 (fun _ => 0) (lf9 ww5)) (br9 7 (lf9 ww6) (fun _ => 0)))) (br9 12 (fun _ => 0) (br9 14 (fun _ => 0) (br9 15 (lf9 ww14) (br9 16 (lf9 ww15) (lf9 ww16)))))) (fun _ => 0)), (br9 9 (br9 4 (br9 2 (br9 1 (lf9 wew1) (lf9 wew2)) (br9 3 (lf9 wew3) (lf9 wew4))) (br9 6 (br9 5 (lf9 wew5) (lf9 wew6)) (br9 7 (lf9 wew7) (br9 8 (lf9 wew8) (lf9 wew9))))) (fun _ _ => 0)), [], 0, ⟨hn1, hL1, bww0, bww5, bww6, bww14, bww16, bwew1, bwew4, bwew5, bwew6, bwew7, g_0, g_1, g_2⟩, (Or.inl ⟨rfl, rfl, rfl⟩), (show PTn _ _ _ _ ww0 from by rw [g_3]; exact PTn_0 10 46481 hc (hp 5) (by decide) (by decide) n1 0), rfl, rfl⟩, rfl⟩ hP hD hS
set_option maxHeartbeats 4000000 in
set_option maxRecDepth 100000 in
theorem cx_24_a {p : Program} {e : Env} {s : State} {m : MethodId} {below : List Frame} {meth : Method} {c : Code} {l : Launch} {b Lk : Nat} {xs : Nat → Int32} {V : GV} {y : Nat → Nat} {τ : Nat → Int32} {H : Heap} {locs : List Loc} {cells slots : Nat} {wz : va_W} {ls : Array Slot} (G : LCx p s m meth c b Lk xs V)  {pp : Nat → Int32} {ff : Nat → Nat → Int32} {gg : Nat → Nat → Int64} {n L : Nat} {Yw : Nat → Nat} {wa wb : Nat} {qq : Nat → Int32} {ee : Nat → Nat → Int32} {o11 : Value} {fr : va_W} {fm : Nat} (hp : ivT tX pp) (ht0 : pp 0 = τ 0) (ht1 : pp 15 = τ 1) (ht2 : pp 16 = τ 2) (ht3 : BTs (ff 0) (tauT τ)) (ht4 : (∀ j, iv (-128) 127 ((ff 0) j))) (hW : WFa n L qq ee) (hF : RFo V o11 fr fm) (hT : PTn cells slots n fm (qq 0)) (hq : pp 5 ≤ qq 0) (hP : va_P V.1 vwCl (wB V y pp ff gg (.ref (Yw 0)) o11 ++ (wY V y n L Yw wa wb qq ee ++ fr) ++ wz) H) (hD : va_D (AAs s) (wB V y pp ff gg (.ref (Yw 0)) o11 ++ (wY V y n L Yw wa wb qq ee ++ fr) ++ wz)) (hS : va_S (AAs s) s.heap H locs) (hlz : ls.size = 4) (kk : (∀ (r : Int32) (H : Heap) (locs : List Loc) (cells slots : Nat) (wx : va_W), KX V y cells slots τ wx → va_P V.1 vwCl (wx ++ wz) H → va_D (AAs s) (wx ++ wz) → va_S (AAs s) s.heap H locs → W p l e room_1 s m #[Value.ref b] below meth c H locs cells slots (lw_Z below #[Value.ref b] s) (F0 m 920 ls [.int r]))) : W p l e room_1 s m #[Value.ref b] below meth c H locs cells slots (lw_Z below #[Value.ref b] s) (F0 m 917 ls [.ref (y 0)]) := by
  obtain ⟨hn, hL, hw_q0, hw_q5, hw_q6, hw_q14, hw_q16, hw_tYw1, hw_tYw4, hw_tYw5, hw_tYw6, hw_tYw7, hw_WA, hw_WB, hw_WC⟩ := id hW
  rw [as4] at hP hD
  refine cSI (X := wB V y pp ff gg (.ref (Yw 0)) o11 ++ wY V y n L Yw wa wb qq ee) (pl := fr ++ wz) (rest := []) G (k_X9_stands_0 l V n L Yw y (pp 0) o11 (pp 1) (pp 2) (pp 3) (pp 4) (pp 5) (pp 6) (pp 7) (pp 8) (pp 9) (pp 10) (pp 11) (pp 12) (pp 13) (pp 14) (ff 1) (ff 7) (ff 15) (ff 16) (ff 17) (qq 0) wa (qq 5) (qq 6) wb (qq 14) (qq 15) (qq 16) (ee 0) (ee 1) (ee 3) (ee 4) (ee 5) (ee 7) hn hL hq (hp 0) (hp 5) (hp 6) (hp 7) (hp 10) (hp 11) (hp 12) (hp 13) (hp 14) hw_q0 hw_q5 hw_q6 hw_q14 hw_q16 hw_tYw1 hw_tYw4 hw_tYw5 hw_tYw6 hw_WA hw_WB hw_WC) mt_X9_stands q_4_215 ⟨Nat.le_of_ble_eq_true rfl, Nat.le_of_ble_eq_true rfl⟩ hP hD hS [0, 2, 3, 9, 19, 20, 21, 22, 59, 60, 61, 63, 64, 65, 67] [0, 1, 0, 5, 9, 0, 0, 0, 36, 0, 0, 1, 0, 0, 1] (by decide) (by decide +kernel) rfl 0 rfl rfl rfl rfl hlz rfl (Nat.le_of_ble_eq_true rfl) dL_law_917 (PTn_room hT hw_q0) (fun r w H locs hw hPD hS => ?_)
  refine Exists.elim hw (fun g0 hw => ?_)
  refine Exists.elim hw (fun g1 hw => ?_)
  refine Exists.elim hw (fun g2 hw => ?_)
  refine Exists.elim hw (fun v3 hw => ?_)
  refine Exists.elim hw (fun v4 hw => ?_)
  refine Exists.elim hw (fun v5 hw => ?_)
  refine Exists.elim hw (fun v6 hw => ?_)
  refine Exists.elim hw (fun v7 hw => ?_)
  refine Exists.elim hw (fun g8 hw => ?_)
  refine Exists.elim hw (fun g9 hw => ?_)
  refine Exists.elim hw (fun g10 hw => ?_)
  refine Exists.elim hw (fun g11 hw => ?_)
  refine Exists.elim hw (fun g12 hw => ?_)
  refine Exists.elim hw (fun g13 hw => ?_)
  refine And.elim (fun bv3 hw => ?_) hw
  refine And.elim (fun bv4 hw => ?_) hw
  refine And.elim (fun bv5 hw => ?_) hw
  refine And.elim (fun bv7 hw => ?_) hw
  refine And.elim (fun bg8 hw => ?_) hw
  refine And.elim (fun bg10 hw => ?_) hw
  refine And.elim (fun bg11 hw => ?_) hw
  refine And.elim (fun bg12 hw => ?_) hw
  refine And.elim (fun br hw => ?_) hw
  refine And.elim (fun g_0 hw => ?_) hw
  refine And.elim (fun g_1 hw => ?_) hw
  refine And.elim (fun g_2 hw => ?_) hw
  subst hw
  obtain ⟨hP, hD⟩ := hPD (wB V y pp (up9 (up9 (up9 ff 15 g0) 16 g1) 17 g2) gg (.ref (Yw 0)) o11 ++ wY V y n L Yw wa wb (br9 17 (br9 8 (br9 4 qq (br9 6 (br9 5 qq (lf9 v3)) (br9 7 (lf9 v4) qq))) (br9 12 qq (br9 14 qq (br9 15 (lf9 v5) (br9 16 (lf9 v6) (lf9 v7)))))) qq) (br9 8 (br9 4 (br9 2 (br9 1 (lf9 g8) (lf9 g9)) (br9 3 ee (lf9 g10))) (br9 6 (br9 5 (lf9 g11) (lf9 g12)) (br9 7 ee (lf9 g13)))) ee)) rfl rfl
  rw [← as4] at hP hD
  exact kk r H locs (cells + 0) (slots + 0) _ ⟨pp, (up9 (up9 (up9 ff 15 g0) 16 g1) 17 g2), gg, .ref (Yw 0), o11, _, hp, ht0, ht1, ht2, ht3, ht4, Or.inr ⟨n, L, Yw, wa, wb, (br9 17 (br9 8 (br9 4 qq (br9 6 (br9 5 qq (lf9 v3)) (br9 7 (lf9 v4) qq))) (br9 12 qq (br9 14 qq (br9 15 (lf9 v5) (br9 16 (lf9 v6) (lf9 v7)))))) qq), (br9 8 (br9 4 (br9 2 (br9 1 (lf9 g8) (lf9 g9)) (br9 3 ee (lf9 g10))) (br9 6 (br9 5 (lf9 g11) (lf9 g12)) (br9 7 ee (lf9 g13)))) ee), fr, fm, ⟨hn, hL, hw_q0, bv3, bv4, bv5, bv7, bg8, bg10, bg11, bg12, hw_tYw7, g_0, g_1, g_2⟩, hF, hT, rfl, rfl⟩, rfl⟩ hP hD hS
set_option maxHeartbeats 4000000 in
set_option maxRecDepth 100000 in
theorem cx_24_b {p : Program} {e : Env} {s : State} {m : MethodId} {below : List Frame} {meth : Method} {c : Code} {l : Launch} {b Lk : Nat} {xs : Nat → Int32} {V : GV} {y : Nat → Nat} {τ : Nat → Int32} {H : Heap} {locs : List Loc} {cells slots : Nat} {wz : va_W} {ls : Array Slot} (G : LCx p s m meth c b Lk xs V)  {pp : Nat → Int32} {ff : Nat → Nat → Int32} {gg : Nat → Nat → Int64} {n L : Nat} {Yw : Nat → Nat} {wa wb : Nat} {qq : Nat → Int32} {ee : Nat → Nat → Int32} {o11 : Value} {fr : va_W} {fm : Nat} (hp : ivT tX pp) (ht0 : pp 0 = τ 0) (ht1 : pp 15 = τ 1) (ht2 : pp 16 = τ 2) (ht3 : BTs (ff 0) (tauT τ)) (ht4 : (∀ j, iv (-128) 127 ((ff 0) j))) (hW : WFa n L qq ee) (hF : RFo V o11 fr fm) (hT : PTn cells slots n fm (qq 0)) (hq : qq 0 < pp 5)  (hP : va_P V.1 vwCl (wB V y pp ff gg (.ref (Yw 0)) o11 ++ (wY V y n L Yw wa wb qq ee ++ fr) ++ wz) H) (hD : va_D (AAs s) (wB V y pp ff gg (.ref (Yw 0)) o11 ++ (wY V y n L Yw wa wb qq ee ++ fr) ++ wz)) (hS : va_S (AAs s) s.heap H locs) (hlz : ls.size = 4) (kk : (∀ (r : Int32) (H : Heap) (locs : List Loc) (cells slots : Nat) (wx : va_W), KX V y cells slots τ wx → va_P V.1 vwCl (wx ++ wz) H → va_D (AAs s) (wx ++ wz) → va_S (AAs s) s.heap H locs → W p l e room_1 s m #[Value.ref b] below meth c H locs cells slots (lw_Z below #[Value.ref b] s) (F0 m 920 ls [.int r]))) : W p l e room_1 s m #[Value.ref b] below meth c H locs cells slots (lw_Z below #[Value.ref b] s) (F0 m 917 ls [.ref (y 0)]) := by
  obtain ⟨hn, hL, hw_q0, hw_q5, hw_q6, hw_q14, hw_q16, hw_tYw1, hw_tYw4, hw_tYw5, hw_tYw6, hw_tYw7, hw_WA, hw_WB, hw_WC⟩ := id hW
  have hTB := PTn_B 10 46481 hT hw_q0 (hp 5) hq (by decide) (by decide)
  rw [as4] at hP hD
  refine cXI (X := wB V y pp ff gg (.ref (Yw 0)) o11 ++ wY V y n L Yw wa wb qq ee) (pl := fr ++ wz) (wr := [(y 1, aB V 900 (ff 0)), (y 4, aI V 4 (ff 2)), (y 5, aI V 4 (ff 3)), (y 6, aI V 8 (ff 4)), (y 7, aI V 8 (ff 5)), (y 8, aI V 8 (ff 6)), (y 10, .inr (6, [.ref (y 11), .int (pp 15), .int (pp 16), .ref (y 1), .int (pp 17), .int (pp 18), .int (pp 19), .int (pp 20), .int (pp 21)])), (y 11, .inr (1, [.int (pp 22), .int (pp 23), .int (pp 24), .int (pp 25), .int (pp 26), .int (pp 27), .ref (y 12), .ref (y 13), .ref (y 14), .ref (y 15), .ref (y 16), .ref (y 17), .ref (y 18), .int (pp 28), .int (pp 29), .int (pp 30), .int (pp 31), .int (pp 32)])), (y 12, aI V 4 (ff 8)), (y 13, aI V 4 (ff 9)), (y 14, aI V 4 (ff 10)), (y 15, aI V 8 (ff 11)), (y 16, aI V 8 (ff 12)), (y 17, aI V 8 (ff 13)), (y 18, aI V 900 (ff 14)), (y 23, aI V 10 (ff 18)), (y 24, aI V 10 (ff 19)), (y 25, .inr (0, [.int (pp 33), .int (pp 34)])), (y 26, .inr (5, [.ref (y 27), .ref (y 28), .ref (y 29), .int (pp 35)])), (y 27, aI V 10 (ff 20)), (y 28, aI V 10 (ff 21)), (y 29, aI V 10 (ff 22)), (y 30, aT V 4 (va_up (va_up (va_up (va_up (fun _ => none) 0 (some (y 33))) 1 (some (y 35))) 2 (some (y 37))) 3 (some (y 39)))), (y 31, aM V 2 (va_up (va_up (fun _ => none) 0 (some (y 41))) 1 (some (y 50)))), (y 32, aI V 10 (ff 23)), (y 33, .inr (7, [.ref (y 34), .int (pp 36), .int (pp 37)])), (y 34, aJ V 40 (gg 0)), (y 35, .inr (7, [.ref (y 36), .int (pp 38), .int (pp 39)])), (y 36, aJ V 40 (gg 1)), (y 37, .inr (7, [.ref (y 38), .int (pp 40), .int (pp 41)])), (y 38, aJ V 40 (gg 2)), (y 39, .inr (7, [.ref (y 40), .int (pp 42), .int (pp 43)])), (y 40, aJ V 40 (gg 3)), (y 41, .inr (3, [.ref (y 42), .int (pp 44), .int (pp 45), .int (pp 46), .int (pp 47)])), (y 42, .inr (1, [.int (pp 48), .int (pp 49), .int (pp 50), .int (pp 51), .int (pp 52), .int (pp 53), .ref (y 43), .ref (y 44), .ref (y 45), .ref (y 46), .ref (y 47), .ref (y 48), .ref (y 49), .int (pp 54), .int (pp 55), .int (pp 56), .int (pp 57), .int (pp 58)])), (y 43, aI V 4 (ff 24)), (y 44, aI V 4 (ff 25)), (y 45, aI V 4 (ff 26)), (y 46, aI V 8 (ff 27)), (y 47, aI V 8 (ff 28)), (y 48, aI V 8 (ff 29)), (y 49, aI V 900 (ff 30)), (y 50, .inr (3, [.ref (y 51), .int (pp 59), .int (pp 60), .int (pp 61), .int (pp 62)])), (y 51, .inr (1, [.int (pp 63), .int (pp 64), .int (pp 65), .int (pp 66), .int (pp 67), .int (pp 68), .ref (y 52), .ref (y 53), .ref (y 54), .ref (y 55), .ref (y 56), .ref (y 57), .ref (y 58), .int (pp 69), .int (pp 70), .int (pp 71), .int (pp 72), .int (pp 73)])), (y 52, aI V 4 (ff 31)), (y 53, aI V 4 (ff 32)), (y 54, aI V 4 (ff 33)), (y 55, aI V 8 (ff 34)), (y 56, aI V 8 (ff 35)), (y 57, aI V 8 (ff 36)), (y 58, aI V 900 (ff 37))]) (rest := []) G (k_X9_stands_2 l V n L Yw y (pp 0) o11 (pp 1) (pp 2) (pp 3) (pp 4) (pp 5) (pp 6) (pp 7) (pp 8) (pp 9) (pp 10) (pp 11) (pp 12) (pp 13) (pp 14) (ff 1) (ff 7) (ff 15) (ff 16) (ff 17) (qq 0) wa (qq 5) (qq 6) wb (qq 14) (qq 15) (qq 16) (ee 0) (ee 1) (ee 2) (ee 3) (ee 4) (ee 5) (ee 6) (ee 7) (ee 8) hn hL hq (hp 0) (hp 5) (hp 6) (hp 7) (hp 10) (hp 11) (hp 12) (hp 13) (hp 14) hw_q0 hw_q5 hw_q6 hw_q14 hw_q16 hw_tYw1 hw_tYw4 hw_tYw5 hw_tYw6 hw_tYw7 hw_WA hw_WB hw_WC) mt_X9_stands q_4_215 ⟨Nat.le_of_ble_eq_true rfl, Nat.le_of_ble_eq_true rfl⟩ hP hD hS [0, 2, 3, 9, 19, 20, 21, 22, 59, 60, 61, 62, 63, 64, 65, 66, 67, 68] [1, 4, 5, 6, 7, 8, 10, 11, 12, 13, 14, 15, 16, 17, 18, 23, 24, 25, 26, 27, 28, 29, 30, 31, 32, 33, 34, 35, 36, 37, 38, 39, 40, 41, 42, 43, 44, 45, 46, 47, 48, 49, 50, 51, 52, 53, 54, 55, 56, 57, 58] (by decide +kernel) rfl rfl (by decide +kernel) (by decide +kernel) 0 rfl rfl rfl rfl hlz rfl (Nat.le_of_ble_eq_true rfl) dL_law_917 hTB.1 (fun r w H locs hw hP hD hS => ?_)
  refine Exists.elim hw (fun n1 hw => ?_)
  refine Exists.elim hw (fun L1 hw => ?_)
  refine Exists.elim hw (fun Yw1 hw => ?_)
  refine Exists.elim hw (fun wa1 hw => ?_)
  refine Exists.elim hw (fun wb1 hw => ?_)
  refine Exists.elim hw (fun g0 hw => ?_)
  refine Exists.elim hw (fun g1 hw => ?_)
  refine Exists.elim hw (fun g2 hw => ?_)
  refine Exists.elim hw (fun ww0 hw => ?_)
  refine Exists.elim hw (fun ww5 hw => ?_)
  refine Exists.elim hw (fun ww6 hw => ?_)
  refine Exists.elim hw (fun ww14 hw => ?_)
  refine Exists.elim hw (fun ww15 hw => ?_)
  refine Exists.elim hw (fun ww16 hw => ?_)
  refine Exists.elim hw (fun wew1 hw => ?_)
  refine Exists.elim hw (fun wew2 hw => ?_)
  refine Exists.elim hw (fun wew3 hw => ?_)
  refine Exists.elim hw (fun wew4 hw => ?_)
  refine Exists.elim hw (fun wew5 hw => ?_)
  refine Exists.elim hw (fun wew6 hw => ?_)
  refine Exists.elim hw (fun wew7 hw => ?_)
  refine Exists.elim hw (fun wew8 hw => ?_)
  refine Exists.elim hw (fun wew9 hw => ?_)
  refine And.elim (fun hn1 hw => ?_) hw
  refine And.elim (fun hL1 hw => ?_) hw
  refine And.elim (fun bww0 hw => ?_) hw
  refine And.elim (fun bww5 hw => ?_) hw
  refine And.elim (fun bww6 hw => ?_) hw
  refine And.elim (fun bww14 hw => ?_) hw
  refine And.elim (fun bww16 hw => ?_) hw
  refine And.elim (fun bwew1 hw => ?_) hw
  refine And.elim (fun bwew4 hw => ?_) hw
  refine And.elim (fun bwew5 hw => ?_) hw
  refine And.elim (fun bwew6 hw => ?_) hw
  refine And.elim (fun bwew7 hw => ?_) hw
  refine And.elim (fun br hw => ?_) hw
  refine And.elim (fun g_0 hw => ?_) hw
  refine And.elim (fun g_1 hw => ?_) hw
  refine And.elim (fun g_2 hw => ?_) hw
  refine And.elim (fun g_3 hw => ?_) hw
  subst hw
  have hP := ptP (ws' := wB V y pp (up9 (up9 (up9 ff 15 g0) 16 g1) 17 g2) gg (.ref (Yw1 0)) o11 ++ wY V y n1 L1 Yw1 wa1 wb1 (br9 17 (br9 8 (br9 4 (br9 2 (br9 1 (lf9 ww0) (fun _ => 0)) (fun _ => 0)) (br9 6 (br9 5 (fun _ => 0) (lf9 ww5)) (br9 7 (lf9 ww6) (fun _ => 0)))) (br9 12 (fun _ => 0) (br9 14 (fun _ => 0) (br9 15 (lf9 ww14) (br9 16 (lf9 ww15) (lf9 ww16)))))) (fun _ => 0)) (br9 9 (br9 4 (br9 2 (br9 1 (lf9 wew1) (lf9 wew2)) (br9 3 (lf9 wew3) (lf9 wew4))) (br9 6 (br9 5 (lf9 wew5) (lf9 wew6)) (br9 7 (lf9 wew7) (br9 8 (lf9 wew8) (lf9 wew9))))) (fun _ _ => 0))) hP [51, 0, 52, 53, 1, 2, 3, 4, 5, 54, 6, 7, 8, 9, 10, 11, 12, 13, 14, 55, 56, 57, 58, 15, 16, 17, 18, 19, 20, 21, 22, 23, 24, 25, 26, 27, 28, 29, 30, 31, 32, 33, 34, 35, 36, 37, 38, 39, 40, 41, 42, 43, 44, 45, 46, 47, 48, 49, 50, 59, 60, 61, 62, 63, 64, 65, 66, 67, 68] rfl
  have hD := hD.part (cx := wB V y pp (up9 (up9 (up9 ff 15 g0) 16 g1) 17 g2) gg (.ref (Yw1 0)) o11 ++ wY V y n1 L1 Yw1 wa1 wb1 (br9 17 (br9 8 (br9 4 (br9 2 (br9 1 (lf9 ww0) (fun _ => 0)) (fun _ => 0)) (br9 6 (br9 5 (fun _ => 0) (lf9 ww5)) (br9 7 (lf9 ww6) (fun _ => 0)))) (br9 12 (fun _ => 0) (br9 14 (fun _ => 0) (br9 15 (lf9 ww14) (br9 16 (lf9 ww15) (lf9 ww16)))))) (fun _ => 0)) (br9 9 (br9 4 (br9 2 (br9 1 (lf9 wew1) (lf9 wew2)) (br9 3 (lf9 wew3) (lf9 wew4))) (br9 6 (br9 5 (lf9 wew5) (lf9 wew6)) (br9 7 (lf9 wew7) (br9 8 (lf9 wew8) (lf9 wew9))))) (fun _ _ => 0))) [51, 0, 52, 53, 1, 2, 3, 4, 5, 54, 6, 7, 8, 9, 10, 11, 12, 13, 14, 55, 56, 57, 58, 15, 16, 17, 18, 19, 20, 21, 22, 23, 24, 25, 26, 27, 28, 29, 30, 31, 32, 33, 34, 35, 36, 37, 38, 39, 40, 41, 42, 43, 44, 45, 46, 47, 48, 49, 50, 59, 60, 61, 62, 63, 64, 65, 66, 67, 68] (by decide +kernel) rfl
  rw [← as4] at hP hD
  exact kk r H locs (cells + 10) (slots + 46481) _ ⟨pp, (up9 (up9 (up9 ff 15 g0) 16 g1) 17 g2), gg, .ref (Yw1 0), o11, _, hp, ht0, ht1, ht2, ht3, ht4, Or.inr ⟨n1, L1, Yw1, wa1, wb1, (br9 17 (br9 8 (br9 4 (br9 2 (br9 1 (lf9 ww0) (fun _ => 0)) (fun _ => 0)) (br9 6 (br9 5 (fun _ => 0) (lf9 ww5)) (br9 7 (lf9 ww6) (fun _ => 0)))) (br9 12 (fun _ => 0) (br9 14 (fun _ => 0) (br9 15 (lf9 ww14) (br9 16 (lf9 ww15) (lf9 ww16)))))) (fun _ => 0)), (br9 9 (br9 4 (br9 2 (br9 1 (lf9 wew1) (lf9 wew2)) (br9 3 (lf9 wew3) (lf9 wew4))) (br9 6 (br9 5 (lf9 wew5) (lf9 wew6)) (br9 7 (lf9 wew7) (br9 8 (lf9 wew8) (lf9 wew9))))) (fun _ _ => 0)), fr, fm, ⟨hn1, hL1, bww0, bww5, bww6, bww14, bww16, bwew1, bwew4, bwew5, bwew6, bwew7, g_0, g_1, g_2⟩, hF, (show PTn _ _ _ _ ww0 from by rw [g_3]; exact hTB.2 n1 fm), rfl, rfl⟩, rfl⟩ hP hD hS
set_option maxHeartbeats 4000000 in
set_option maxRecDepth 100000 in
theorem cx_24 {p : Program} {e : Env} {s : State} {m : MethodId} {below : List Frame} {meth : Method} {c : Code} {l : Launch} {b Lk : Nat} {xs : Nat → Int32} {V : GV} {y : Nat → Nat} {τ : Nat → Int32} {H : Heap} {locs : List Loc} {cells slots : Nat} {wz : va_W} {ls : Array Slot} (G : LCx p s m meth c b Lk xs V)  {wx : va_W} (kx : KX V y cells slots τ wx) (hP : va_P V.1 vwCl (wx ++ wz) H) (hD : va_D (AAs s) (wx ++ wz)) (hS : va_S (AAs s) s.heap H locs) (hlz : ls.size = 4) (kk : (∀ (r : Int32) (H : Heap) (locs : List Loc) (cells slots : Nat) (wx : va_W), KX V y cells slots τ wx → va_P V.1 vwCl (wx ++ wz) H → va_D (AAs s) (wx ++ wz) → va_S (AAs s) s.heap H locs → W p l e room_1 s m #[Value.ref b] below meth c H locs cells slots (lw_Z below #[Value.ref b] s) (F0 m 920 ls [.int r]))) : W p l e room_1 s m #[Value.ref b] below meth c H locs cells slots (lw_Z below #[Value.ref b] s) (F0 m 917 ls [.ref (y 0)]) := by
  obtain ⟨pp, ff, gg, o10, o11, rest, hp, ht0, ht1, ht2, ht3, ht4, hR, rfl⟩ := kx
  rcases hR with ⟨rfl, rfl, rfl, hc⟩ | ⟨n, L, Yw, wa, wb, qq, ee, fr, fm, hW, hF, hT, rfl, rfl⟩
  · exact cx_24_0 G  hp ht0 ht1 ht2 ht3 ht4 hc hP hD hS hlz kk
  · rcases Classical.em (pp 5 ≤ qq 0) with hq | hq
    · exact cx_24_a G  hp ht0 ht1 ht2 ht3 ht4 hW hF hT hq hP hD hS hlz kk
    · replace hq := Int32.not_le.mp hq
      exact cx_24_b G  hp ht0 ht1 ht2 ht3 ht4 hW hF hT hq hP hD hS hlz kk
theorem q_8_11 : Cond.code yX10_stands prog_12_method_98_code 1 (some FieldType.int) ∈ gw := gw_8 (i := 11) (rfl) rfl
theorem q_8_9 : Cond.instanceMethod yX10_stands ∈ gw := gw_8 (i := 9) (by decide +kernel) rfl
theorem q_8_10 : Cond.selects "BeaconDelayModel" yX10_stands yX10_stands ∈ gw := gw_8 (i := 10) (by decide +kernel) rfl
theorem mt_X10_stands : MtV yX10_stands cX10_stands 1 (some .int) 0 := ⟨⟨q_8_11, q_1_9, by decide +kernel, by decide +kernel, by decide +kernel⟩, q_8_9, q_8_10⟩
theorem q_8_8 : Cond.methodLink "BeaconDelayLaw" 118 yX10_stands ∈ gw := gw_8 (i := 8) (by decide +kernel) rfl
theorem dL_law_922 : decode cL_law 922 = .ok (.invokevirtual 118, 3) := by decide +kernel
set_option maxHeartbeats 4000000 in
set_option maxRecDepth 100000 in
theorem cz_24 {p : Program} {e : Env} {s : State} {m : MethodId} {below : List Frame} {meth : Method} {c : Code} {l : Launch} {b Lk : Nat} {xs : Nat → Int32} {V : GV} {z : Nat → Nat} {τ : Nat → Int32} {H : Heap} {locs : List Loc} {cells slots : Nat} {wx : va_W} {ls : Array Slot} {rest : List Value} (G : LCx p s m meth c b Lk xs V)  {wz : va_W} (kz : KZ V z τ wz) (hP : va_P V.1 vwCl (wx ++ wz) H) (hD : va_D (AAs s) (wx ++ wz)) (hS : va_S (AAs s) s.heap H locs) (hcs : cells + 0 ≤ 600000 ∧ slots + 0 ≤ 7302250) (hro : (rest.map fun v => v.category).sum ≤ 8) (hlz : ls.size = 4) (kk : (∀ (r : Int32) (H : Heap) (locs : List Loc) (wz : va_W), KZ V z τ wz → va_P V.1 vwCl (wx ++ wz) H → va_D (AAs s) (wx ++ wz) → va_S (AAs s) s.heap H locs → W p l e room_1 s m #[Value.ref b] below meth c H locs cells slots (lw_Z below #[Value.ref b] s) (F0 m 925 ls (.int r :: rest)))) : W p l e room_1 s m #[Value.ref b] below meth c H locs cells slots (lw_Z below #[Value.ref b] s) (F0 m 922 ls (.ref (z 0) :: rest)) := by
  obtain ⟨pz, fz, gz, hp, ht0, ht1, ht2, ht3, hz_tz1, hz_tz3, hz_tz4, hz_tz16, hz_tz17, hz_tz20, hz_tz21, hz_tz24, hz_tz25, hz_tz26, hz_tz27, hz_tz33, hz_tz34, hz_tz37, hz_tz38, hz_RW, rfl⟩ := kz
  replace hP := swP hP
  replace hD := swD hD
  refine cSI (X := wZ V z pz fz gz) (pl := wx) (rest := rest) G (k_X10_stands_0 l V z (pz 0) (pz 5) (pz 6) (pz 7) (pz 8) (pz 9) (pz 10) (pz 11) (pz 12) (pz 13) (pz 14) (pz 18) (pz 19) (pz 22) (pz 23) (pz 29) (fz 0) (fz 4) (fz 5) (fz 9) (fz 10) (fz 13) (hp 5) (hp 6) (hp 7) (hp 8) (hp 10) (hp 11) (hp 12) (hp 13) (hp 14) (hp 18) (hp 22) (hp 29) hz_tz1 hz_tz16 hz_tz24 hz_tz25 hz_RW) mt_X10_stands q_8_8 ⟨Nat.le_of_ble_eq_true rfl, Nat.le_of_ble_eq_true rfl⟩ hP hD hS [0, 1, 5, 6, 10, 11, 14] [0, 0, 3, 0, 3, 0, 2] (by decide) (by decide +kernel) rfl 0 rfl rfl rfl rfl hlz rfl hro dL_law_922 hcs (fun r w H locs hw hPD hS => ?_)
  refine Exists.elim hw (fun v0 hw => ?_)
  refine Exists.elim hw (fun v1 hw => ?_)
  refine Exists.elim hw (fun g2 hw => ?_)
  refine Exists.elim hw (fun g3 hw => ?_)
  refine Exists.elim hw (fun g4 hw => ?_)
  refine Exists.elim hw (fun g5 hw => ?_)
  refine Exists.elim hw (fun g6 hw => ?_)
  refine And.elim (fun bv1 hw => ?_) hw
  refine And.elim (fun bg3 hw => ?_) hw
  refine And.elim (fun bg4 hw => ?_) hw
  refine And.elim (fun bg5 hw => ?_) hw
  refine And.elim (fun br hw => ?_) hw
  refine And.elim (fun g_0 hw => ?_) hw
  subst hw
  obtain ⟨hP, hD⟩ := hPD (wZ V z (up9 (up9 pz 0 v0) 29 v1) (br9 14 (br9 7 (br9 3 fz (br9 5 (br9 4 fz (lf9 g2)) (br9 6 (lf9 g3) fz))) (br9 10 (br9 8 fz (br9 9 fz (lf9 g4))) (br9 12 (br9 11 (lf9 g5) fz) (br9 13 fz (lf9 g6))))) fz) gz) rfl rfl
  replace hP := swP hP
  replace hD := swD hD
  exact kk r H locs _ ⟨(up9 (up9 pz 0 v0) 29 v1), (br9 14 (br9 7 (br9 3 fz (br9 5 (br9 4 fz (lf9 g2)) (br9 6 (lf9 g3) fz))) (br9 10 (br9 8 fz (br9 9 fz (lf9 g4))) (br9 12 (br9 11 (lf9 g5) fz) (br9 13 fz (lf9 g6))))) fz), gz, (ivUp 29 (ivUp 0 hp (iv_top v0)) bv1), ht0, ht1, ht2, ht3, hz_tz1, hz_tz3, hz_tz4, bg3, hz_tz17, hz_tz20, hz_tz21, bg4, bg5, hz_tz26, hz_tz27, hz_tz33, hz_tz34, hz_tz37, hz_tz38, g_0, rfl⟩ hP hD hS
theorem q_4_222 : Cond.code yX9_lit prog_1_method_45_code 2 (some FieldType.int) ∈ gw := gw_4 (i := 222) (rfl) rfl
theorem q_4_220 : Cond.instanceMethod yX9_lit ∈ gw := gw_4 (i := 220) (by decide +kernel) rfl
theorem q_4_221 : Cond.selects "BeaconDelay" yX9_lit yX9_lit ∈ gw := gw_4 (i := 221) (by decide +kernel) rfl
theorem mt_X9_lit : MtV yX9_lit cX9_lit 2 (some .int) 1 := ⟨⟨q_4_222, q_1_1, by decide +kernel, by decide +kernel, by decide +kernel⟩, q_4_220, q_4_221⟩
theorem q_4_219 : Cond.methodLink "BeaconDelayLaw" 119 yX9_lit ∈ gw := gw_4 (i := 219) (by decide +kernel) rfl
theorem dL_law_935 : decode cL_law 935 = .ok (.invokevirtual 119, 3) := by decide +kernel
set_option maxHeartbeats 4000000 in
set_option maxRecDepth 100000 in
theorem cx_25_s {p : Program} {e : Env} {s : State} {m : MethodId} {below : List Frame} {meth : Method} {c : Code} {l : Launch} {b Lk : Nat} {xs : Nat → Int32} {V : GV} {y : Nat → Nat} {τ : Nat → Int32} {H : Heap} {locs : List Loc} {cells slots : Nat} {wz : va_W} {ls : Array Slot} (G : LCx p s m meth c b Lk xs V) (a1 : Int32) {pp : Nat → Int32} {ff : Nat → Nat → Int32} {gg : Nat → Nat → Int64} {o10 o11 : Value} {rest : va_W} (hp : ivT tX pp) (ht0 : pp 0 = τ 0) (ht1 : pp 15 = τ 1) (ht2 : pp 16 = τ 2) (ht3 : BTs (ff 0) (tauT τ)) (ht4 : (∀ j, iv (-128) 127 ((ff 0) j))) (hR : RRo V y cells slots o10 o11 rest)  (hP : va_P V.1 vwCl (wB V y pp ff gg o10 o11 ++ rest ++ wz) H) (hD : va_D (AAs s) (wB V y pp ff gg o10 o11 ++ rest ++ wz)) (hS : va_S (AAs s) s.heap H locs) (hlz : ls.size = 4) (kk : (∀ (r : Int32) (H : Heap) (locs : List Loc) (cells slots : Nat) (wx : va_W), KX V y cells slots τ wx → va_P V.1 vwCl (wx ++ wz) H → va_D (AAs s) (wx ++ wz) → va_S (AAs s) s.heap H locs → W p l e room_1 s m #[Value.ref b] below meth c H locs cells slots (lw_Z below #[Value.ref b] s) (F0 m 938 ls [.int r]))) : W p l e room_1 s m #[Value.ref b] below meth c H locs cells slots (lw_Z below #[Value.ref b] s) (F0 m 935 ls [.int a1, .ref (y 0)]) := by
  rw [as3] at hP hD
  refine cSI (X := wB V y pp ff gg o10 o11) (pl := rest ++ wz) (rest := []) G (k_X9_lit_0 l V y a1 (pp 0) o10 o11 (pp 1) (pp 2) (pp 3) (pp 4) (pp 5) (pp 6) (pp 7) (pp 8) (pp 9) (pp 10) (pp 11) (pp 12) (pp 13) (pp 14) (ff 2) (hp 0) (hp 5) (hp 6) (hp 7) (hp 10) (hp 11) (hp 12) (hp 13) (hp 14)) mt_X9_lit q_4_219 ⟨Nat.le_of_ble_eq_true rfl, Nat.le_of_ble_eq_true rfl⟩ hP hD hS [0, 2, 4] [0, 1, 1] (by decide) (by decide +kernel) rfl 0 rfl rfl rfl rfl hlz rfl (Nat.le_of_ble_eq_true rfl) dL_law_935 hR.room (fun r w H locs hw hPD hS => ?_)
  subst hw
  obtain ⟨hP, hD⟩ := hPD (wB V y pp ff gg o10 o11) rfl rfl
  rw [← as3] at hP hD
  exact kk r H locs (cells + 0) (slots + 0) _ ⟨pp, ff, gg, o10, o11, rest, hp, ht0, ht1, ht2, ht3, ht4, hR, rfl⟩ hP hD hS
set_option maxHeartbeats 4000000 in
set_option maxRecDepth 100000 in
theorem cx_25 {p : Program} {e : Env} {s : State} {m : MethodId} {below : List Frame} {meth : Method} {c : Code} {l : Launch} {b Lk : Nat} {xs : Nat → Int32} {V : GV} {y : Nat → Nat} {τ : Nat → Int32} {H : Heap} {locs : List Loc} {cells slots : Nat} {wz : va_W} {ls : Array Slot} (G : LCx p s m meth c b Lk xs V) (a1 : Int32) {wx : va_W} (kx : KX V y cells slots τ wx) (hP : va_P V.1 vwCl (wx ++ wz) H) (hD : va_D (AAs s) (wx ++ wz)) (hS : va_S (AAs s) s.heap H locs) (hlz : ls.size = 4) (kk : (∀ (r : Int32) (H : Heap) (locs : List Loc) (cells slots : Nat) (wx : va_W), KX V y cells slots τ wx → va_P V.1 vwCl (wx ++ wz) H → va_D (AAs s) (wx ++ wz) → va_S (AAs s) s.heap H locs → W p l e room_1 s m #[Value.ref b] below meth c H locs cells slots (lw_Z below #[Value.ref b] s) (F0 m 938 ls [.int r]))) : W p l e room_1 s m #[Value.ref b] below meth c H locs cells slots (lw_Z below #[Value.ref b] s) (F0 m 935 ls [.int a1, .ref (y 0)]) := by
  obtain ⟨pp, ff, gg, o10, o11, rest, hp, ht0, ht1, ht2, ht3, ht4, hR, rfl⟩ := kx
  exact cx_25_s G _ hp ht0 ht1 ht2 ht3 ht4 hR hP hD hS hlz kk
theorem q_8_15 : Cond.code yX10_lit prog_12_method_100_code 2 (some FieldType.int) ∈ gw := gw_8 (i := 15) (rfl) rfl
theorem q_8_13 : Cond.instanceMethod yX10_lit ∈ gw := gw_8 (i := 13) (by decide +kernel) rfl
theorem q_8_14 : Cond.selects "BeaconDelayModel" yX10_lit yX10_lit ∈ gw := gw_8 (i := 14) (by decide +kernel) rfl
theorem mt_X10_lit : MtV yX10_lit cX10_lit 2 (some .int) 1 := ⟨⟨q_8_15, q_1_9, by decide +kernel, by decide +kernel, by decide +kernel⟩, q_8_13, q_8_14⟩
theorem q_8_12 : Cond.methodLink "BeaconDelayLaw" 122 yX10_lit ∈ gw := gw_8 (i := 12) (by decide +kernel) rfl
theorem dL_law_945 : decode cL_law 945 = .ok (.invokevirtual 122, 3) := by decide +kernel
set_option maxHeartbeats 4000000 in
set_option maxRecDepth 100000 in
theorem cz_25 {p : Program} {e : Env} {s : State} {m : MethodId} {below : List Frame} {meth : Method} {c : Code} {l : Launch} {b Lk : Nat} {xs : Nat → Int32} {V : GV} {z : Nat → Nat} {τ : Nat → Int32} {H : Heap} {locs : List Loc} {cells slots : Nat} {wx : va_W} {ls : Array Slot} {rest : List Value} (G : LCx p s m meth c b Lk xs V) (a1 : Int32) {wz : va_W} (kz : KZ V z τ wz) (hP : va_P V.1 vwCl (wx ++ wz) H) (hD : va_D (AAs s) (wx ++ wz)) (hS : va_S (AAs s) s.heap H locs) (hcs : cells + 0 ≤ 600000 ∧ slots + 0 ≤ 7302250) (hro : (rest.map fun v => v.category).sum ≤ 8) (hlz : ls.size = 4) (kk : (∀ (r : Int32) (H : Heap) (locs : List Loc) (wz : va_W), KZ V z τ wz → va_P V.1 vwCl (wx ++ wz) H → va_D (AAs s) (wx ++ wz) → va_S (AAs s) s.heap H locs → W p l e room_1 s m #[Value.ref b] below meth c H locs cells slots (lw_Z below #[Value.ref b] s) (F0 m 948 ls (.int r :: rest)))) : W p l e room_1 s m #[Value.ref b] below meth c H locs cells slots (lw_Z below #[Value.ref b] s) (F0 m 945 ls (.int a1 :: .ref (z 0) :: rest)) := by
  obtain ⟨pz, fz, gz, hp, ht0, ht1, ht2, ht3, hz_tz1, hz_tz3, hz_tz4, hz_tz16, hz_tz17, hz_tz20, hz_tz21, hz_tz24, hz_tz25, hz_tz26, hz_tz27, hz_tz33, hz_tz34, hz_tz37, hz_tz38, hz_RW, rfl⟩ := kz
  replace hP := swP hP
  replace hD := swD hD
  refine cSI (X := wZ V z pz fz gz) (pl := wx) (rest := rest) G (k_X10_lit_0 l V z a1 (pz 0) (pz 5) (pz 6) (pz 7) (pz 8) (pz 9) (pz 10) (pz 11) (pz 12) (pz 13) (pz 14) (pz 18) (pz 19) (pz 22) (pz 23) (pz 29) (fz 0) (hp 5) (hp 6) (hp 7) (hp 8) (hp 10) (hp 11) (hp 12) (hp 13) (hp 14) (hp 18) (hp 22) (hp 29) hz_tz1) mt_X10_lit q_8_12 ⟨Nat.le_of_ble_eq_true rfl, Nat.le_of_ble_eq_true rfl⟩ hP hD hS [0, 1] [0, 0] (by decide) (by decide +kernel) rfl 0 rfl rfl rfl rfl hlz rfl hro dL_law_945 hcs (fun r w H locs hw hPD hS => ?_)
  refine Exists.elim hw (fun v0 hw => ?_)
  refine And.elim (fun br hw => ?_) hw
  subst hw
  obtain ⟨hP, hD⟩ := hPD (wZ V z (up9 pz 0 v0) fz gz) rfl rfl
  replace hP := swP hP
  replace hD := swD hD
  exact kk r H locs _ ⟨(up9 pz 0 v0), fz, gz, (ivUp 0 hp (iv_top v0)), ht0, ht1, ht2, ht3, hz_tz1, hz_tz3, hz_tz4, hz_tz16, hz_tz17, hz_tz20, hz_tz21, hz_tz24, hz_tz25, hz_tz26, hz_tz27, hz_tz33, hz_tz34, hz_tz37, hz_tz38, hz_RW, rfl⟩ hP hD hS
theorem q_4_234 : Cond.code yX9_brightest prog_1_method_48_code 5 (some FieldType.int) ∈ gw := gw_4 (i := 234) (rfl) rfl
theorem q_4_232 : Cond.instanceMethod yX9_brightest ∈ gw := gw_4 (i := 232) (by decide +kernel) rfl
theorem q_4_233 : Cond.selects "BeaconDelay" yX9_brightest yX9_brightest ∈ gw := gw_4 (i := 233) (by decide +kernel) rfl
theorem mt_X9_brightest : MtV yX9_brightest cX9_brightest 5 (some .int) 0 := ⟨⟨q_4_234, q_1_1, by decide +kernel, by decide +kernel, by decide +kernel⟩, q_4_232, q_4_233⟩
theorem q_4_231 : Cond.methodLink "BeaconDelayLaw" 123 yX9_brightest ∈ gw := gw_4 (i := 231) (by decide +kernel) rfl
theorem dL_law_953 : decode cL_law 953 = .ok (.invokevirtual 123, 3) := by decide +kernel
set_option maxHeartbeats 4000000 in
set_option maxRecDepth 100000 in
theorem cx_26_s {p : Program} {e : Env} {s : State} {m : MethodId} {below : List Frame} {meth : Method} {c : Code} {l : Launch} {b Lk : Nat} {xs : Nat → Int32} {V : GV} {y : Nat → Nat} {τ : Nat → Int32} {H : Heap} {locs : List Loc} {cells slots : Nat} {wz : va_W} {ls : Array Slot} (G : LCx p s m meth c b Lk xs V)  {pp : Nat → Int32} {ff : Nat → Nat → Int32} {gg : Nat → Nat → Int64} {o10 o11 : Value} {rest : va_W} (hp : ivT tX pp) (ht0 : pp 0 = τ 0) (ht1 : pp 15 = τ 1) (ht2 : pp 16 = τ 2) (ht3 : BTs (ff 0) (tauT τ)) (ht4 : (∀ j, iv (-128) 127 ((ff 0) j))) (hR : RRo V y cells slots o10 o11 rest)  (hP : va_P V.1 vwCl (wB V y pp ff gg o10 o11 ++ rest ++ wz) H) (hD : va_D (AAs s) (wB V y pp ff gg o10 o11 ++ rest ++ wz)) (hS : va_S (AAs s) s.heap H locs) (hlz : ls.size = 4) (kk : (∀ (r : Int32) (H : Heap) (locs : List Loc) (cells slots : Nat) (wx : va_W), KX V y cells slots τ wx → va_P V.1 vwCl (wx ++ wz) H → va_D (AAs s) (wx ++ wz) → va_S (AAs s) s.heap H locs → W p l e room_1 s m #[Value.ref b] below meth c H locs cells slots (lw_Z below #[Value.ref b] s) (F0 m 956 ls [.int r]))) : W p l e room_1 s m #[Value.ref b] below meth c H locs cells slots (lw_Z below #[Value.ref b] s) (F0 m 953 ls [.ref (y 0)]) := by
  rw [as3] at hP hD
  refine cSI (X := wB V y pp ff gg o10 o11) (pl := rest ++ wz) (rest := []) G (k_X9_brightest_0 l V y (pp 0) o10 o11 (pp 1) (pp 2) (pp 3) (pp 4) (pp 5) (pp 6) (pp 7) (pp 8) (pp 9) (pp 10) (pp 11) (pp 12) (pp 13) (pp 14) (ff 2) (hp 0) (hp 5) (hp 6) (hp 7) (hp 10) (hp 11) (hp 12) (hp 13) (hp 14)) mt_X9_brightest q_4_231 ⟨Nat.le_of_ble_eq_true rfl, Nat.le_of_ble_eq_true rfl⟩ hP hD hS [0, 2, 4] [0, 1, 1] (by decide) (by decide +kernel) rfl 0 rfl rfl rfl rfl hlz rfl (Nat.le_of_ble_eq_true rfl) dL_law_953 hR.room (fun r w H locs hw hPD hS => ?_)
  subst hw
  obtain ⟨hP, hD⟩ := hPD (wB V y pp ff gg o10 o11) rfl rfl
  rw [← as3] at hP hD
  exact kk r H locs (cells + 0) (slots + 0) _ ⟨pp, ff, gg, o10, o11, rest, hp, ht0, ht1, ht2, ht3, ht4, hR, rfl⟩ hP hD hS
set_option maxHeartbeats 4000000 in
set_option maxRecDepth 100000 in
theorem cx_26 {p : Program} {e : Env} {s : State} {m : MethodId} {below : List Frame} {meth : Method} {c : Code} {l : Launch} {b Lk : Nat} {xs : Nat → Int32} {V : GV} {y : Nat → Nat} {τ : Nat → Int32} {H : Heap} {locs : List Loc} {cells slots : Nat} {wz : va_W} {ls : Array Slot} (G : LCx p s m meth c b Lk xs V)  {wx : va_W} (kx : KX V y cells slots τ wx) (hP : va_P V.1 vwCl (wx ++ wz) H) (hD : va_D (AAs s) (wx ++ wz)) (hS : va_S (AAs s) s.heap H locs) (hlz : ls.size = 4) (kk : (∀ (r : Int32) (H : Heap) (locs : List Loc) (cells slots : Nat) (wx : va_W), KX V y cells slots τ wx → va_P V.1 vwCl (wx ++ wz) H → va_D (AAs s) (wx ++ wz) → va_S (AAs s) s.heap H locs → W p l e room_1 s m #[Value.ref b] below meth c H locs cells slots (lw_Z below #[Value.ref b] s) (F0 m 956 ls [.int r]))) : W p l e room_1 s m #[Value.ref b] below meth c H locs cells slots (lw_Z below #[Value.ref b] s) (F0 m 953 ls [.ref (y 0)]) := by
  obtain ⟨pp, ff, gg, o10, o11, rest, hp, ht0, ht1, ht2, ht3, ht4, hR, rfl⟩ := kx
  exact cx_26_s G  hp ht0 ht1 ht2 ht3 ht4 hR hP hD hS hlz kk
theorem q_8_23 : Cond.code yX10_brightest prog_12_method_101_code 4 (some FieldType.int) ∈ gw := gw_8 (i := 23) (rfl) rfl
theorem q_8_21 : Cond.instanceMethod yX10_brightest ∈ gw := gw_8 (i := 21) (by decide +kernel) rfl
theorem q_8_22 : Cond.selects "BeaconDelayModel" yX10_brightest yX10_brightest ∈ gw := gw_8 (i := 22) (by decide +kernel) rfl
theorem mt_X10_brightest : MtV yX10_brightest cX10_brightest 4 (some .int) 0 := ⟨⟨q_8_23, q_1_9, by decide +kernel, by decide +kernel, by decide +kernel⟩, q_8_21, q_8_22⟩
theorem q_8_20 : Cond.methodLink "BeaconDelayLaw" 126 yX10_brightest ∈ gw := gw_8 (i := 20) (by decide +kernel) rfl
theorem dL_law_958 : decode cL_law 958 = .ok (.invokevirtual 126, 3) := by decide +kernel
set_option maxHeartbeats 4000000 in
set_option maxRecDepth 100000 in
theorem cz_26 {p : Program} {e : Env} {s : State} {m : MethodId} {below : List Frame} {meth : Method} {c : Code} {l : Launch} {b Lk : Nat} {xs : Nat → Int32} {V : GV} {z : Nat → Nat} {τ : Nat → Int32} {H : Heap} {locs : List Loc} {cells slots : Nat} {wx : va_W} {ls : Array Slot} {rest : List Value} (G : LCx p s m meth c b Lk xs V)  {wz : va_W} (kz : KZ V z τ wz) (hP : va_P V.1 vwCl (wx ++ wz) H) (hD : va_D (AAs s) (wx ++ wz)) (hS : va_S (AAs s) s.heap H locs) (hcs : cells + 0 ≤ 600000 ∧ slots + 0 ≤ 7302250) (hro : (rest.map fun v => v.category).sum ≤ 8) (hlz : ls.size = 4) (kk : (∀ (r : Int32) (H : Heap) (locs : List Loc) (wz : va_W), KZ V z τ wz → va_P V.1 vwCl (wx ++ wz) H → va_D (AAs s) (wx ++ wz) → va_S (AAs s) s.heap H locs → W p l e room_1 s m #[Value.ref b] below meth c H locs cells slots (lw_Z below #[Value.ref b] s) (F0 m 961 ls (.int r :: rest)))) : W p l e room_1 s m #[Value.ref b] below meth c H locs cells slots (lw_Z below #[Value.ref b] s) (F0 m 958 ls (.ref (z 0) :: rest)) := by
  obtain ⟨pz, fz, gz, hp, ht0, ht1, ht2, ht3, hz_tz1, hz_tz3, hz_tz4, hz_tz16, hz_tz17, hz_tz20, hz_tz21, hz_tz24, hz_tz25, hz_tz26, hz_tz27, hz_tz33, hz_tz34, hz_tz37, hz_tz38, hz_RW, rfl⟩ := kz
  replace hP := swP hP
  replace hD := swD hD
  refine cSI (X := wZ V z pz fz gz) (pl := wx) (rest := rest) G (k_X10_brightest_0 l V z (pz 0) (pz 5) (pz 6) (pz 7) (pz 8) (pz 9) (pz 10) (pz 11) (pz 12) (pz 13) (pz 14) (pz 18) (pz 19) (pz 22) (pz 23) (pz 29) (fz 0) (hp 5) (hp 6) (hp 7) (hp 8) (hp 10) (hp 11) (hp 12) (hp 13) (hp 14) (hp 18) (hp 22) (hp 29) hz_tz1) mt_X10_brightest q_8_20 ⟨Nat.le_of_ble_eq_true rfl, Nat.le_of_ble_eq_true rfl⟩ hP hD hS [0, 1] [0, 0] (by decide) (by decide +kernel) rfl 0 rfl rfl rfl rfl hlz rfl hro dL_law_958 hcs (fun r w H locs hw hPD hS => ?_)
  refine Exists.elim hw (fun v0 hw => ?_)
  subst hw
  obtain ⟨hP, hD⟩ := hPD (wZ V z (up9 pz 0 v0) fz gz) rfl rfl
  replace hP := swP hP
  replace hD := swD hD
  exact kk r H locs _ ⟨(up9 pz 0 v0), fz, gz, (ivUp 0 hp (iv_top v0)), ht0, ht1, ht2, ht3, hz_tz1, hz_tz3, hz_tz4, hz_tz16, hz_tz17, hz_tz20, hz_tz21, hz_tz24, hz_tz25, hz_tz26, hz_tz27, hz_tz33, hz_tz34, hz_tz37, hz_tz38, hz_RW, rfl⟩ hP hD hS
theorem q_5_4 : Cond.code yX9_wood prog_1_method_49_code 1 (some FieldType.int) ∈ gw := gw_5 (i := 4) (rfl) rfl
theorem q_5_2 : Cond.instanceMethod yX9_wood ∈ gw := gw_5 (i := 2) (by decide +kernel) rfl
theorem q_5_3 : Cond.selects "BeaconDelay" yX9_wood yX9_wood ∈ gw := gw_5 (i := 3) (by decide +kernel) rfl
theorem mt_X9_wood : MtV yX9_wood cX9_wood 1 (some .int) 0 := ⟨⟨q_5_4, q_1_1, by decide +kernel, by decide +kernel, by decide +kernel⟩, q_5_2, q_5_3⟩
theorem q_5_1 : Cond.methodLink "BeaconDelayLaw" 127 yX9_wood ∈ gw := gw_5 (i := 1) (by decide +kernel) rfl
theorem dL_law_966 : decode cL_law 966 = .ok (.invokevirtual 127, 3) := by decide +kernel
set_option maxHeartbeats 4000000 in
set_option maxRecDepth 100000 in
theorem cx_27_s {p : Program} {e : Env} {s : State} {m : MethodId} {below : List Frame} {meth : Method} {c : Code} {l : Launch} {b Lk : Nat} {xs : Nat → Int32} {V : GV} {y : Nat → Nat} {τ : Nat → Int32} {H : Heap} {locs : List Loc} {cells slots : Nat} {wz : va_W} {ls : Array Slot} (G : LCx p s m meth c b Lk xs V)  {pp : Nat → Int32} {ff : Nat → Nat → Int32} {gg : Nat → Nat → Int64} {o10 o11 : Value} {rest : va_W} (hp : ivT tX pp) (ht0 : pp 0 = τ 0) (ht1 : pp 15 = τ 1) (ht2 : pp 16 = τ 2) (ht3 : BTs (ff 0) (tauT τ)) (ht4 : (∀ j, iv (-128) 127 ((ff 0) j))) (hR : RRo V y cells slots o10 o11 rest)  (hP : va_P V.1 vwCl (wB V y pp ff gg o10 o11 ++ rest ++ wz) H) (hD : va_D (AAs s) (wB V y pp ff gg o10 o11 ++ rest ++ wz)) (hS : va_S (AAs s) s.heap H locs) (hlz : ls.size = 4) (kk : (∀ (r : Int32) (H : Heap) (locs : List Loc) (cells slots : Nat) (wx : va_W), KX V y cells slots τ wx → va_P V.1 vwCl (wx ++ wz) H → va_D (AAs s) (wx ++ wz) → va_S (AAs s) s.heap H locs → W p l e room_1 s m #[Value.ref b] below meth c H locs cells slots (lw_Z below #[Value.ref b] s) (F0 m 969 ls [.int r]))) : W p l e room_1 s m #[Value.ref b] below meth c H locs cells slots (lw_Z below #[Value.ref b] s) (F0 m 966 ls [.ref (y 0)]) := by
  rw [as3] at hP hD
  refine cSI (X := wB V y pp ff gg o10 o11) (pl := rest ++ wz) (rest := []) G (k_X9_wood_0 l V y (pp 0) o10 o11 (pp 1) (pp 2) (pp 3) (pp 4) (pp 5) (pp 6) (pp 7) (pp 8) (pp 9) (pp 10) (pp 11) (pp 12) (pp 13) (pp 14) (ff 3) (ff 4) (ff 5) (ff 6) (hp 0) (hp 5) (hp 6) (hp 7) (hp 10) (hp 11) (hp 12) (hp 13) (hp 14)) mt_X9_wood q_5_1 ⟨Nat.le_of_ble_eq_true rfl, Nat.le_of_ble_eq_true rfl⟩ hP hD hS [0, 2, 5, 6, 7, 8] [0, 1, 2, 0, 0, 0] (by decide) (by decide +kernel) rfl 0 rfl rfl rfl rfl hlz rfl (Nat.le_of_ble_eq_true rfl) dL_law_966 hR.room (fun r w H locs hw hPD hS => ?_)
  subst hw
  obtain ⟨hP, hD⟩ := hPD (wB V y pp ff gg o10 o11) rfl rfl
  rw [← as3] at hP hD
  exact kk r H locs (cells + 0) (slots + 0) _ ⟨pp, ff, gg, o10, o11, rest, hp, ht0, ht1, ht2, ht3, ht4, hR, rfl⟩ hP hD hS
set_option maxHeartbeats 4000000 in
set_option maxRecDepth 100000 in
theorem cx_27 {p : Program} {e : Env} {s : State} {m : MethodId} {below : List Frame} {meth : Method} {c : Code} {l : Launch} {b Lk : Nat} {xs : Nat → Int32} {V : GV} {y : Nat → Nat} {τ : Nat → Int32} {H : Heap} {locs : List Loc} {cells slots : Nat} {wz : va_W} {ls : Array Slot} (G : LCx p s m meth c b Lk xs V)  {wx : va_W} (kx : KX V y cells slots τ wx) (hP : va_P V.1 vwCl (wx ++ wz) H) (hD : va_D (AAs s) (wx ++ wz)) (hS : va_S (AAs s) s.heap H locs) (hlz : ls.size = 4) (kk : (∀ (r : Int32) (H : Heap) (locs : List Loc) (cells slots : Nat) (wx : va_W), KX V y cells slots τ wx → va_P V.1 vwCl (wx ++ wz) H → va_D (AAs s) (wx ++ wz) → va_S (AAs s) s.heap H locs → W p l e room_1 s m #[Value.ref b] below meth c H locs cells slots (lw_Z below #[Value.ref b] s) (F0 m 969 ls [.int r]))) : W p l e room_1 s m #[Value.ref b] below meth c H locs cells slots (lw_Z below #[Value.ref b] s) (F0 m 966 ls [.ref (y 0)]) := by
  obtain ⟨pp, ff, gg, o10, o11, rest, hp, ht0, ht1, ht2, ht3, ht4, hR, rfl⟩ := kx
  exact cx_27_s G  hp ht0 ht1 ht2 ht3 ht4 hR hP hD hS hlz kk
theorem q_8_30 : Cond.code yX10_wood prog_12_method_105_code 1 (some FieldType.int) ∈ gw := gw_8 (i := 30) (rfl) rfl
theorem q_8_28 : Cond.instanceMethod yX10_wood ∈ gw := gw_8 (i := 28) (by decide +kernel) rfl
theorem q_8_29 : Cond.selects "BeaconDelayModel" yX10_wood yX10_wood ∈ gw := gw_8 (i := 29) (by decide +kernel) rfl
theorem mt_X10_wood : MtV yX10_wood cX10_wood 1 (some .int) 0 := ⟨⟨q_8_30, q_1_9, by decide +kernel, by decide +kernel, by decide +kernel⟩, q_8_28, q_8_29⟩
theorem q_8_27 : Cond.methodLink "BeaconDelayLaw" 130 yX10_wood ∈ gw := gw_8 (i := 27) (by decide +kernel) rfl
theorem dL_law_971 : decode cL_law 971 = .ok (.invokevirtual 130, 3) := by decide +kernel
set_option maxHeartbeats 4000000 in
set_option maxRecDepth 100000 in
theorem cz_27 {p : Program} {e : Env} {s : State} {m : MethodId} {below : List Frame} {meth : Method} {c : Code} {l : Launch} {b Lk : Nat} {xs : Nat → Int32} {V : GV} {z : Nat → Nat} {τ : Nat → Int32} {H : Heap} {locs : List Loc} {cells slots : Nat} {wx : va_W} {ls : Array Slot} {rest : List Value} (G : LCx p s m meth c b Lk xs V)  {wz : va_W} (kz : KZ V z τ wz) (hP : va_P V.1 vwCl (wx ++ wz) H) (hD : va_D (AAs s) (wx ++ wz)) (hS : va_S (AAs s) s.heap H locs) (hcs : cells + 0 ≤ 600000 ∧ slots + 0 ≤ 7302250) (hro : (rest.map fun v => v.category).sum ≤ 8) (hlz : ls.size = 4) (kk : (∀ (r : Int32) (H : Heap) (locs : List Loc) (wz : va_W), KZ V z τ wz → va_P V.1 vwCl (wx ++ wz) H → va_D (AAs s) (wx ++ wz) → va_S (AAs s) s.heap H locs → W p l e room_1 s m #[Value.ref b] below meth c H locs cells slots (lw_Z below #[Value.ref b] s) (F0 m 974 ls (.int r :: rest)))) : W p l e room_1 s m #[Value.ref b] below meth c H locs cells slots (lw_Z below #[Value.ref b] s) (F0 m 971 ls (.ref (z 0) :: rest)) := by
  obtain ⟨pz, fz, gz, hp, ht0, ht1, ht2, ht3, hz_tz1, hz_tz3, hz_tz4, hz_tz16, hz_tz17, hz_tz20, hz_tz21, hz_tz24, hz_tz25, hz_tz26, hz_tz27, hz_tz33, hz_tz34, hz_tz37, hz_tz38, hz_RW, rfl⟩ := kz
  replace hP := swP hP
  replace hD := swD hD
  refine cSI (X := wZ V z pz fz gz) (pl := wx) (rest := rest) G (k_X10_wood_0 l V z (pz 0) (pz 5) (pz 6) (pz 7) (pz 8) (pz 9) (pz 10) (pz 11) (pz 12) (pz 13) (pz 14) (pz 18) (pz 19) (pz 22) (pz 23) (pz 29) (fz 0) (fz 14) (fz 15) (fz 16) (hp 5) (hp 6) (hp 7) (hp 8) (hp 10) (hp 11) (hp 12) (hp 13) (hp 14) (hp 18) (hp 22) (hp 29) hz_tz1 hz_tz33 hz_tz34) mt_X10_wood q_8_27 ⟨Nat.le_of_ble_eq_true rfl, Nat.le_of_ble_eq_true rfl⟩ hP hD hS [0, 1, 17, 18, 19] [0, 0, 15, 0, 0] (by decide) (by decide +kernel) rfl 0 rfl rfl rfl rfl hlz rfl hro dL_law_971 hcs (fun r w H locs hw hPD hS => ?_)
  refine Exists.elim hw (fun v0 hw => ?_)
  refine Exists.elim hw (fun g1 hw => ?_)
  refine Exists.elim hw (fun g2 hw => ?_)
  refine Exists.elim hw (fun g3 hw => ?_)
  refine And.elim (fun bg2 hw => ?_) hw
  refine And.elim (fun bg3 hw => ?_) hw
  subst hw
  obtain ⟨hP, hD⟩ := hPD (wZ V z (up9 pz 0 v0) (up9 (up9 (up9 fz 14 g1) 15 g2) 16 g3) gz) rfl rfl
  replace hP := swP hP
  replace hD := swD hD
  exact kk r H locs _ ⟨(up9 pz 0 v0), (up9 (up9 (up9 fz 14 g1) 15 g2) 16 g3), gz, (ivUp 0 hp (iv_top v0)), ht0, ht1, ht2, ht3, hz_tz1, hz_tz3, hz_tz4, hz_tz16, hz_tz17, hz_tz20, hz_tz21, hz_tz24, hz_tz25, hz_tz26, hz_tz27, bg2, bg3, hz_tz37, hz_tz38, hz_RW, rfl⟩ hP hD hS
theorem q_5_16 : Cond.code yX9_needed prog_1_method_50_code 4 (some FieldType.int) ∈ gw := gw_5 (i := 16) (rfl) rfl
theorem q_5_14 : Cond.instanceMethod yX9_needed ∈ gw := gw_5 (i := 14) (by decide +kernel) rfl
theorem q_5_15 : Cond.selects "BeaconDelay" yX9_needed yX9_needed ∈ gw := gw_5 (i := 15) (by decide +kernel) rfl
theorem mt_X9_needed : MtV yX9_needed cX9_needed 4 (some .int) 0 := ⟨⟨q_5_16, q_1_1, by decide +kernel, by decide +kernel, by decide +kernel⟩, q_5_14, q_5_15⟩
theorem q_5_13 : Cond.methodLink "BeaconDelayLaw" 131 yX9_needed ∈ gw := gw_5 (i := 13) (by decide +kernel) rfl
theorem dL_law_979 : decode cL_law 979 = .ok (.invokevirtual 131, 3) := by decide +kernel
set_option maxHeartbeats 4000000 in
set_option maxRecDepth 100000 in
theorem cx_28_s {p : Program} {e : Env} {s : State} {m : MethodId} {below : List Frame} {meth : Method} {c : Code} {l : Launch} {b Lk : Nat} {xs : Nat → Int32} {V : GV} {y : Nat → Nat} {τ : Nat → Int32} {H : Heap} {locs : List Loc} {cells slots : Nat} {wz : va_W} {ls : Array Slot} (G : LCx p s m meth c b Lk xs V)  {pp : Nat → Int32} {ff : Nat → Nat → Int32} {gg : Nat → Nat → Int64} {o10 o11 : Value} {rest : va_W} (hp : ivT tX pp) (ht0 : pp 0 = τ 0) (ht1 : pp 15 = τ 1) (ht2 : pp 16 = τ 2) (ht3 : BTs (ff 0) (tauT τ)) (ht4 : (∀ j, iv (-128) 127 ((ff 0) j))) (hR : RRo V y cells slots o10 o11 rest)  (hP : va_P V.1 vwCl (wB V y pp ff gg o10 o11 ++ rest ++ wz) H) (hD : va_D (AAs s) (wB V y pp ff gg o10 o11 ++ rest ++ wz)) (hS : va_S (AAs s) s.heap H locs) (hlz : ls.size = 4) (kk : (∀ (r : Int32) (H : Heap) (locs : List Loc) (cells slots : Nat) (wx : va_W), KX V y cells slots τ wx → va_P V.1 vwCl (wx ++ wz) H → va_D (AAs s) (wx ++ wz) → va_S (AAs s) s.heap H locs → W p l e room_1 s m #[Value.ref b] below meth c H locs cells slots (lw_Z below #[Value.ref b] s) (F0 m 982 ls [.int r]))) : W p l e room_1 s m #[Value.ref b] below meth c H locs cells slots (lw_Z below #[Value.ref b] s) (F0 m 979 ls [.ref (y 0)]) := by
  rw [as3] at hP hD
  refine cSI (X := wB V y pp ff gg o10 o11) (pl := rest ++ wz) (rest := []) G (k_X9_needed_0 l V y (pp 0) o10 o11 (pp 1) (pp 2) (pp 3) (pp 4) (pp 5) (pp 6) (pp 7) (pp 8) (pp 9) (pp 10) (pp 11) (pp 12) (pp 13) (pp 14) (ff 3) (ff 4) (ff 5) (ff 6) (hp 0) (hp 5) (hp 6) (hp 7) (hp 10) (hp 11) (hp 12) (hp 13) (hp 14)) mt_X9_needed q_5_13 ⟨Nat.le_of_ble_eq_true rfl, Nat.le_of_ble_eq_true rfl⟩ hP hD hS [0, 2, 5, 6, 7, 8] [0, 1, 2, 0, 0, 0] (by decide) (by decide +kernel) rfl 0 rfl rfl rfl rfl hlz rfl (Nat.le_of_ble_eq_true rfl) dL_law_979 hR.room (fun r w H locs hw hPD hS => ?_)
  subst hw
  obtain ⟨hP, hD⟩ := hPD (wB V y pp ff gg o10 o11) rfl rfl
  rw [← as3] at hP hD
  exact kk r H locs (cells + 0) (slots + 0) _ ⟨pp, ff, gg, o10, o11, rest, hp, ht0, ht1, ht2, ht3, ht4, hR, rfl⟩ hP hD hS
set_option maxHeartbeats 4000000 in
set_option maxRecDepth 100000 in
theorem cx_28 {p : Program} {e : Env} {s : State} {m : MethodId} {below : List Frame} {meth : Method} {c : Code} {l : Launch} {b Lk : Nat} {xs : Nat → Int32} {V : GV} {y : Nat → Nat} {τ : Nat → Int32} {H : Heap} {locs : List Loc} {cells slots : Nat} {wz : va_W} {ls : Array Slot} (G : LCx p s m meth c b Lk xs V)  {wx : va_W} (kx : KX V y cells slots τ wx) (hP : va_P V.1 vwCl (wx ++ wz) H) (hD : va_D (AAs s) (wx ++ wz)) (hS : va_S (AAs s) s.heap H locs) (hlz : ls.size = 4) (kk : (∀ (r : Int32) (H : Heap) (locs : List Loc) (cells slots : Nat) (wx : va_W), KX V y cells slots τ wx → va_P V.1 vwCl (wx ++ wz) H → va_D (AAs s) (wx ++ wz) → va_S (AAs s) s.heap H locs → W p l e room_1 s m #[Value.ref b] below meth c H locs cells slots (lw_Z below #[Value.ref b] s) (F0 m 982 ls [.int r]))) : W p l e room_1 s m #[Value.ref b] below meth c H locs cells slots (lw_Z below #[Value.ref b] s) (F0 m 979 ls [.ref (y 0)]) := by
  obtain ⟨pp, ff, gg, o10, o11, rest, hp, ht0, ht1, ht2, ht3, ht4, hR, rfl⟩ := kx
  exact cx_28_s G  hp ht0 ht1 ht2 ht3 ht4 hR hP hD hS hlz kk
theorem q_8_46 : Cond.code yX10_needed prog_12_method_106_code 4 (some FieldType.int) ∈ gw := gw_8 (i := 46) (rfl) rfl
theorem q_8_44 : Cond.instanceMethod yX10_needed ∈ gw := gw_8 (i := 44) (by decide +kernel) rfl
theorem q_8_45 : Cond.selects "BeaconDelayModel" yX10_needed yX10_needed ∈ gw := gw_8 (i := 45) (by decide +kernel) rfl
theorem mt_X10_needed : MtV yX10_needed cX10_needed 4 (some .int) 0 := ⟨⟨q_8_46, q_1_9, by decide +kernel, by decide +kernel, by decide +kernel⟩, q_8_44, q_8_45⟩
theorem q_8_43 : Cond.methodLink "BeaconDelayLaw" 134 yX10_needed ∈ gw := gw_8 (i := 43) (by decide +kernel) rfl
theorem dL_law_984 : decode cL_law 984 = .ok (.invokevirtual 134, 3) := by decide +kernel
set_option maxHeartbeats 4000000 in
set_option maxRecDepth 100000 in
theorem cz_28 {p : Program} {e : Env} {s : State} {m : MethodId} {below : List Frame} {meth : Method} {c : Code} {l : Launch} {b Lk : Nat} {xs : Nat → Int32} {V : GV} {z : Nat → Nat} {τ : Nat → Int32} {H : Heap} {locs : List Loc} {cells slots : Nat} {wx : va_W} {ls : Array Slot} {rest : List Value} (G : LCx p s m meth c b Lk xs V)  {wz : va_W} (kz : KZ V z τ wz) (hP : va_P V.1 vwCl (wx ++ wz) H) (hD : va_D (AAs s) (wx ++ wz)) (hS : va_S (AAs s) s.heap H locs) (hcs : cells + 0 ≤ 600000 ∧ slots + 0 ≤ 7302250) (hro : (rest.map fun v => v.category).sum ≤ 8) (hlz : ls.size = 4) (kk : (∀ (r : Int32) (H : Heap) (locs : List Loc) (wz : va_W), KZ V z τ wz → va_P V.1 vwCl (wx ++ wz) H → va_D (AAs s) (wx ++ wz) → va_S (AAs s) s.heap H locs → W p l e room_1 s m #[Value.ref b] below meth c H locs cells slots (lw_Z below #[Value.ref b] s) (F0 m 987 ls (.int r :: rest)))) : W p l e room_1 s m #[Value.ref b] below meth c H locs cells slots (lw_Z below #[Value.ref b] s) (F0 m 984 ls (.ref (z 0) :: rest)) := by
  obtain ⟨pz, fz, gz, hp, ht0, ht1, ht2, ht3, hz_tz1, hz_tz3, hz_tz4, hz_tz16, hz_tz17, hz_tz20, hz_tz21, hz_tz24, hz_tz25, hz_tz26, hz_tz27, hz_tz33, hz_tz34, hz_tz37, hz_tz38, hz_RW, rfl⟩ := kz
  replace hP := swP hP
  replace hD := swD hD
  refine cSI (X := wZ V z pz fz gz) (pl := wx) (rest := rest) G (k_X10_needed_0 l V z (pz 0) (pz 5) (pz 6) (pz 7) (pz 8) (pz 9) (pz 10) (pz 11) (pz 12) (pz 13) (pz 14) (pz 18) (pz 19) (pz 22) (pz 23) (pz 29) (fz 0) (fz 14) (fz 15) (fz 16) (hp 5) (hp 6) (hp 7) (hp 8) (hp 10) (hp 11) (hp 12) (hp 13) (hp 14) (hp 18) (hp 22) (hp 29) hz_tz1 hz_tz33 hz_tz34) mt_X10_needed q_8_43 ⟨Nat.le_of_ble_eq_true rfl, Nat.le_of_ble_eq_true rfl⟩ hP hD hS [0, 1, 17, 18, 19] [0, 0, 15, 0, 0] (by decide) (by decide +kernel) rfl 0 rfl rfl rfl rfl hlz rfl hro dL_law_984 hcs (fun r w H locs hw hPD hS => ?_)
  refine Exists.elim hw (fun v0 hw => ?_)
  refine Exists.elim hw (fun g1 hw => ?_)
  refine Exists.elim hw (fun g2 hw => ?_)
  refine Exists.elim hw (fun g3 hw => ?_)
  refine And.elim (fun bg2 hw => ?_) hw
  refine And.elim (fun bg3 hw => ?_) hw
  subst hw
  obtain ⟨hP, hD⟩ := hPD (wZ V z (up9 pz 0 v0) (up9 (up9 (up9 fz 14 g1) 15 g2) 16 g3) gz) rfl rfl
  replace hP := swP hP
  replace hD := swD hD
  exact kk r H locs _ ⟨(up9 pz 0 v0), (up9 (up9 (up9 fz 14 g1) 15 g2) 16 g3), gz, (ivUp 0 hp (iv_top v0)), ht0, ht1, ht2, ht3, hz_tz1, hz_tz3, hz_tz4, hz_tz16, hz_tz17, hz_tz20, hz_tz21, hz_tz24, hz_tz25, hz_tz26, hz_tz27, bg2, bg3, hz_tz37, hz_tz38, hz_RW, rfl⟩ hP hD hS
theorem q_5_20 : Cond.code yX9_high prog_1_method_53_code 5 (some FieldType.long) ∈ gw := gw_5 (i := 20) (rfl) rfl
theorem q_5_18 : Cond.instanceMethod yX9_high ∈ gw := gw_5 (i := 18) (by decide +kernel) rfl
theorem q_5_19 : Cond.selects "BeaconDelay" yX9_high yX9_high ∈ gw := gw_5 (i := 19) (by decide +kernel) rfl
theorem mt_X9_high : MtV yX9_high cX9_high 5 (some .long) 2 := ⟨⟨q_5_20, q_1_1, by decide +kernel, by decide +kernel, by decide +kernel⟩, q_5_18, q_5_19⟩
theorem q_5_17 : Cond.methodLink "BeaconDelayLaw" 135 yX9_high ∈ gw := gw_5 (i := 17) (by decide +kernel) rfl
theorem dL_law_1002 : decode cL_law 1002 = .ok (.invokevirtual 135, 3) := by decide +kernel
set_option maxHeartbeats 4000000 in
set_option maxRecDepth 100000 in
theorem cx_29_e {p : Program} {e : Env} {s : State} {m : MethodId} {below : List Frame} {meth : Method} {c : Code} {l : Launch} {b Lk : Nat} {xs : Nat → Int32} {V : GV} {y : Nat → Nat} {τ : Nat → Int32} {H : Heap} {locs : List Loc} {cells slots : Nat} {wz : va_W} {ls : Array Slot} (G : LCx p s m meth c b Lk xs V) (a1 : Int32) (a2 : Int32) {pp : Nat → Int32} {ff : Nat → Nat → Int32} {gg : Nat → Nat → Int64} {o10 o11 : Value} {rest : va_W} (hp : ivT tX pp) (ht0 : pp 0 = τ 0) (ht1 : pp 15 = τ 1) (ht2 : pp 16 = τ 2) (ht3 : BTs (ff 0) (tauT τ)) (ht4 : (∀ j, iv (-128) 127 ((ff 0) j))) (hR : RRo V y cells slots o10 o11 rest) (hg : ¬ (rfF a1 a2 (-1 : Int32) (pp 5) (pp 36) (pp 38) (pp 40) (pp 42) (gg 0) (gg 1) (gg 2) (gg 3) = 0)) (hP : va_P V.1 vwCl (wB V y pp ff gg o10 o11 ++ rest ++ wz) H) (hD : va_D (AAs s) (wB V y pp ff gg o10 o11 ++ rest ++ wz)) (hS : va_S (AAs s) s.heap H locs) (hlz : ls.size = 4) (kk : (∀ (r : Int64) (H : Heap) (locs : List Loc) (cells slots : Nat) (wx : va_W), KX V y cells slots τ wx → va_P V.1 vwCl (wx ++ wz) H → va_D (AAs s) (wx ++ wz) → va_S (AAs s) s.heap H locs → W p l e room_1 s m #[Value.ref b] below meth c H locs cells slots (lw_Z below #[Value.ref b] s) (F0 m 1005 ls [.long r]))) : W p l e room_1 s m #[Value.ref b] below meth c H locs cells slots (lw_Z below #[Value.ref b] s) (F0 m 1002 ls [.int a2, .int a1, .ref (y 0)]) := by
  rw [as3] at hP hD
  refine cSL (X := wB V y pp ff gg o10 o11) (pl := rest ++ wz) (rest := []) G (k_X9_high_1 l V y a1 a2 (pp 0) o10 o11 (pp 1) (pp 2) (pp 3) (pp 4) (pp 5) (pp 6) (pp 7) (pp 8) (pp 9) (pp 10) (pp 11) (pp 12) (pp 13) (pp 14) (pp 36) (pp 37) (gg 0) (pp 38) (pp 39) (gg 1) (pp 40) (pp 41) (gg 2) (pp 42) (pp 43) (gg 3) (hp 0) (hp 5) (hp 6) (hp 7) (hp 10) (hp 11) (hp 12) (hp 13) (hp 14) (hp 36) (hp 38) (hp 40) (hp 42) hg) mt_X9_high q_5_17 ⟨Nat.le_of_ble_eq_true rfl, Nat.le_of_ble_eq_true rfl⟩ hP hD hS [0, 2, 30, 33, 34, 35, 36, 37, 38, 39, 40] [0, 1, 27, 2, 0, 0, 0, 0, 0, 0, 0] (by decide) (by decide +kernel) rfl 0 rfl rfl rfl rfl hlz rfl (Nat.le_of_ble_eq_true rfl) dL_law_1002 hR.room (fun r w H locs hw hPD hS => ?_)
  subst hw
  obtain ⟨hP, hD⟩ := hPD (wB V y pp ff gg o10 o11) rfl rfl
  rw [← as3] at hP hD
  exact kk r H locs (cells + 0) (slots + 0) _ ⟨pp, ff, gg, o10, o11, rest, hp, ht0, ht1, ht2, ht3, ht4, hR, rfl⟩ hP hD hS
set_option maxHeartbeats 4000000 in
set_option maxRecDepth 100000 in
theorem cx_29_0 {p : Program} {e : Env} {s : State} {m : MethodId} {below : List Frame} {meth : Method} {c : Code} {l : Launch} {b Lk : Nat} {xs : Nat → Int32} {V : GV} {y : Nat → Nat} {τ : Nat → Int32} {H : Heap} {locs : List Loc} {cells slots : Nat} {wz : va_W} {ls : Array Slot} (G : LCx p s m meth c b Lk xs V) (a1 : Int32) (a2 : Int32) {pp : Nat → Int32} {ff : Nat → Nat → Int32} {gg : Nat → Nat → Int64} (hp : ivT tX pp) (ht0 : pp 0 = τ 0) (ht1 : pp 15 = τ 1) (ht2 : pp 16 = τ 2) (ht3 : BTs (ff 0) (tauT τ)) (ht4 : (∀ j, iv (-128) 127 ((ff 0) j))) (hc : cells + 116 ≤ 600000 ∧ slots + 633553 ≤ 7302250) (hg : rfF a1 a2 (-1 : Int32) (pp 5) (pp 36) (pp 38) (pp 40) (pp 42) (gg 0) (gg 1) (gg 2) (gg 3) = 0) (hP : va_P V.1 vwCl (wB V y pp ff gg .null .null ++ [] ++ wz) H) (hD : va_D (AAs s) (wB V y pp ff gg .null .null ++ [] ++ wz)) (hS : va_S (AAs s) s.heap H locs) (hlz : ls.size = 4) (kk : (∀ (r : Int64) (H : Heap) (locs : List Loc) (cells slots : Nat) (wx : va_W), KX V y cells slots τ wx → va_P V.1 vwCl (wx ++ wz) H → va_D (AAs s) (wx ++ wz) → va_S (AAs s) s.heap H locs → W p l e room_1 s m #[Value.ref b] below meth c H locs cells slots (lw_Z below #[Value.ref b] s) (F0 m 1005 ls [.long r]))) : W p l e room_1 s m #[Value.ref b] below meth c H locs cells slots (lw_Z below #[Value.ref b] s) (F0 m 1002 ls [.int a2, .int a1, .ref (y 0)]) := by
  refine cXL (X := wB V y pp ff gg .null .null ++ []) (pl := wz) (wr := [(y 1, aB V 900 (ff 0)), (y 4, aI V 4 (ff 2)), (y 5, aI V 4 (ff 3)), (y 6, aI V 8 (ff 4)), (y 7, aI V 8 (ff 5)), (y 8, aI V 8 (ff 6)), (y 10, .inr (6, [.ref (y 11), .int (pp 15), .int (pp 16), .ref (y 1), .int (pp 17), .int (pp 18), .int (pp 19), .int (pp 20), .int (pp 21)])), (y 11, .inr (1, [.int (pp 22), .int (pp 23), .int (pp 24), .int (pp 25), .int (pp 26), .int (pp 27), .ref (y 12), .ref (y 13), .ref (y 14), .ref (y 15), .ref (y 16), .ref (y 17), .ref (y 18), .int (pp 28), .int (pp 29), .int (pp 30), .int (pp 31), .int (pp 32)])), (y 12, aI V 4 (ff 8)), (y 13, aI V 4 (ff 9)), (y 14, aI V 4 (ff 10)), (y 15, aI V 8 (ff 11)), (y 16, aI V 8 (ff 12)), (y 17, aI V 8 (ff 13)), (y 18, aI V 900 (ff 14)), (y 23, aI V 10 (ff 18)), (y 24, aI V 10 (ff 19)), (y 25, .inr (0, [.int (pp 33), .int (pp 34)])), (y 26, .inr (5, [.ref (y 27), .ref (y 28), .ref (y 29), .int (pp 35)])), (y 27, aI V 10 (ff 20)), (y 28, aI V 10 (ff 21)), (y 29, aI V 10 (ff 22)), (y 31, aM V 2 (va_up (va_up (fun _ => none) 0 (some (y 41))) 1 (some (y 50)))), (y 32, aI V 10 (ff 23)), (y 41, .inr (3, [.ref (y 42), .int (pp 44), .int (pp 45), .int (pp 46), .int (pp 47)])), (y 42, .inr (1, [.int (pp 48), .int (pp 49), .int (pp 50), .int (pp 51), .int (pp 52), .int (pp 53), .ref (y 43), .ref (y 44), .ref (y 45), .ref (y 46), .ref (y 47), .ref (y 48), .ref (y 49), .int (pp 54), .int (pp 55), .int (pp 56), .int (pp 57), .int (pp 58)])), (y 43, aI V 4 (ff 24)), (y 44, aI V 4 (ff 25)), (y 45, aI V 4 (ff 26)), (y 46, aI V 8 (ff 27)), (y 47, aI V 8 (ff 28)), (y 48, aI V 8 (ff 29)), (y 49, aI V 900 (ff 30)), (y 50, .inr (3, [.ref (y 51), .int (pp 59), .int (pp 60), .int (pp 61), .int (pp 62)])), (y 51, .inr (1, [.int (pp 63), .int (pp 64), .int (pp 65), .int (pp 66), .int (pp 67), .int (pp 68), .ref (y 52), .ref (y 53), .ref (y 54), .ref (y 55), .ref (y 56), .ref (y 57), .ref (y 58), .int (pp 69), .int (pp 70), .int (pp 71), .int (pp 72), .int (pp 73)])), (y 52, aI V 4 (ff 31)), (y 53, aI V 4 (ff 32)), (y 54, aI V 4 (ff 33)), (y 55, aI V 8 (ff 34)), (y 56, aI V 8 (ff 35)), (y 57, aI V 8 (ff 36)), (y 58, aI V 900 (ff 37))]) (rest := []) G (k_X9_high_2 l V y a1 a2 (pp 0) (.null) (pp 1) (pp 2) (pp 3) (pp 4) (pp 5) (pp 6) (pp 7) (pp 8) (pp 9) (pp 10) (pp 11) (pp 12) (pp 13) (pp 14) (ff 1) (ff 7) (ff 15) (ff 16) (ff 17) (pp 36) (pp 37) (gg 0) (pp 38) (pp 39) (gg 1) (pp 40) (pp 41) (gg 2) (pp 42) (pp 43) (gg 3) (hp 0) (hp 5) (hp 6) (hp 7) (hp 10) (hp 11) (hp 12) (hp 13) (hp 14) (hp 36) (hp 38) (hp 40) (hp 42) hg) mt_X9_high q_5_17 ⟨Nat.le_of_ble_eq_true rfl, Nat.le_of_ble_eq_true rfl⟩ hP hD hS [0, 2, 3, 9, 19, 20, 21, 22, 30, 33, 34, 35, 36, 37, 38, 39, 40] [1, 4, 5, 6, 7, 8, 10, 11, 12, 13, 14, 15, 16, 17, 18, 23, 24, 25, 26, 27, 28, 29, 31, 32, 41, 42, 43, 44, 45, 46, 47, 48, 49, 50, 51, 52, 53, 54, 55, 56, 57, 58] (by decide +kernel) rfl rfl (by decide +kernel) (by decide +kernel) 0 rfl rfl rfl rfl hlz rfl (Nat.le_of_ble_eq_true rfl) dL_law_1002 (by omega) (fun r w H locs hw hP hD hS => ?_)
  refine Exists.elim hw (fun n1 hw => ?_)
  refine Exists.elim hw (fun L1 hw => ?_)
  refine Exists.elim hw (fun Yw1 hw => ?_)
  refine Exists.elim hw (fun wa1 hw => ?_)
  refine Exists.elim hw (fun wb1 hw => ?_)
  refine Exists.elim hw (fun g0 hw => ?_)
  refine Exists.elim hw (fun g1 hw => ?_)
  refine Exists.elim hw (fun g2 hw => ?_)
  refine Exists.elim hw (fun ww0 hw => ?_)
  refine Exists.elim hw (fun ww5 hw => ?_)
  refine Exists.elim hw (fun ww6 hw => ?_)
  refine Exists.elim hw (fun ww14 hw => ?_)
  refine Exists.elim hw (fun ww15 hw => ?_)
  refine Exists.elim hw (fun ww16 hw => ?_)
  refine Exists.elim hw (fun wew1 hw => ?_)
  refine Exists.elim hw (fun wew2 hw => ?_)
  refine Exists.elim hw (fun wew3 hw => ?_)
  refine Exists.elim hw (fun wew4 hw => ?_)
  refine Exists.elim hw (fun wew5 hw => ?_)
  refine Exists.elim hw (fun wew6 hw => ?_)
  refine Exists.elim hw (fun wew7 hw => ?_)
  refine Exists.elim hw (fun wew8 hw => ?_)
  refine Exists.elim hw (fun wew9 hw => ?_)
  refine And.elim (fun hn1 hw => ?_) hw
  refine And.elim (fun hL1 hw => ?_) hw
  refine And.elim (fun bww0 hw => ?_) hw
  refine And.elim (fun bww5 hw => ?_) hw
  refine And.elim (fun bww6 hw => ?_) hw
  refine And.elim (fun bww14 hw => ?_) hw
  refine And.elim (fun bww16 hw => ?_) hw
  refine And.elim (fun bwew1 hw => ?_) hw
  refine And.elim (fun bwew4 hw => ?_) hw
  refine And.elim (fun bwew5 hw => ?_) hw
  refine And.elim (fun bwew6 hw => ?_) hw
  refine And.elim (fun bwew7 hw => ?_) hw
  refine And.elim (fun g_0 hw => ?_) hw
  refine And.elim (fun g_1 hw => ?_) hw
  refine And.elim (fun g_2 hw => ?_) hw
  refine And.elim (fun g_3 hw => ?_) hw
  subst hw
  have hP := ptP (ws' := wB V y pp (up9 (up9 (up9 ff 15 g0) 16 g1) 17 g2) gg (.ref (Yw1 0)) .null ++ (wY V y n1 L1 Yw1 wa1 wb1 (br9 17 (br9 8 (br9 4 (br9 2 (br9 1 (lf9 ww0) (fun _ => 0)) (fun _ => 0)) (br9 6 (br9 5 (fun _ => 0) (lf9 ww5)) (br9 7 (lf9 ww6) (fun _ => 0)))) (br9 12 (fun _ => 0) (br9 14 (fun _ => 0) (br9 15 (lf9 ww14) (br9 16 (lf9 ww15) (lf9 ww16)))))) (fun _ => 0)) (br9 9 (br9 4 (br9 2 (br9 1 (lf9 wew1) (lf9 wew2)) (br9 3 (lf9 wew3) (lf9 wew4))) (br9 6 (br9 5 (lf9 wew5) (lf9 wew6)) (br9 7 (lf9 wew7) (br9 8 (lf9 wew8) (lf9 wew9))))) (fun _ _ => 0)) ++ [])) hP [42, 0, 43, 44, 1, 2, 3, 4, 5, 45, 6, 7, 8, 9, 10, 11, 12, 13, 14, 46, 47, 48, 49, 15, 16, 17, 18, 19, 20, 21, 50, 22, 23, 51, 52, 53, 54, 55, 56, 57, 58, 24, 25, 26, 27, 28, 29, 30, 31, 32, 33, 34, 35, 36, 37, 38, 39, 40, 41, 59, 60, 61, 62, 63, 64, 65, 66, 67, 68] rfl
  have hD := hD.part (cx := wB V y pp (up9 (up9 (up9 ff 15 g0) 16 g1) 17 g2) gg (.ref (Yw1 0)) .null ++ (wY V y n1 L1 Yw1 wa1 wb1 (br9 17 (br9 8 (br9 4 (br9 2 (br9 1 (lf9 ww0) (fun _ => 0)) (fun _ => 0)) (br9 6 (br9 5 (fun _ => 0) (lf9 ww5)) (br9 7 (lf9 ww6) (fun _ => 0)))) (br9 12 (fun _ => 0) (br9 14 (fun _ => 0) (br9 15 (lf9 ww14) (br9 16 (lf9 ww15) (lf9 ww16)))))) (fun _ => 0)) (br9 9 (br9 4 (br9 2 (br9 1 (lf9 wew1) (lf9 wew2)) (br9 3 (lf9 wew3) (lf9 wew4))) (br9 6 (br9 5 (lf9 wew5) (lf9 wew6)) (br9 7 (lf9 wew7) (br9 8 (lf9 wew8) (lf9 wew9))))) (fun _ _ => 0)) ++ [])) [42, 0, 43, 44, 1, 2, 3, 4, 5, 45, 6, 7, 8, 9, 10, 11, 12, 13, 14, 46, 47, 48, 49, 15, 16, 17, 18, 19, 20, 21, 50, 22, 23, 51, 52, 53, 54, 55, 56, 57, 58, 24, 25, 26, 27, 28, 29, 30, 31, 32, 33, 34, 35, 36, 37, 38, 39, 40, 41, 59, 60, 61, 62, 63, 64, 65, 66, 67, 68] (by decide +kernel) rfl
  exact kk r H locs (cells + 10) (slots + 46481) _ ⟨pp, (up9 (up9 (up9 ff 15 g0) 16 g1) 17 g2), gg, .ref (Yw1 0), .null, _, hp, ht0, ht1, ht2, ht3, ht4, Or.inr ⟨n1, L1, Yw1, wa1, wb1, (br9 17 (br9 8 (br9 4 (br9 2 (br9 1 (lf9 ww0) (fun _ => 0)) (fun _ => 0)) (br9 6 (br9 5 (fun _ => 0) (lf9 ww5)) (br9 7 (lf9 ww6) (fun _ => 0)))) (br9 12 (fun _ => 0) (br9 14 (fun _ => 0) (br9 15 (lf9 ww14) (br9 16 (lf9 ww15) (lf9 ww16)))))) (fun _ => 0)), (br9 9 (br9 4 (br9 2 (br9 1 (lf9 wew1) (lf9 wew2)) (br9 3 (lf9 wew3) (lf9 wew4))) (br9 6 (br9 5 (lf9 wew5) (lf9 wew6)) (br9 7 (lf9 wew7) (br9 8 (lf9 wew8) (lf9 wew9))))) (fun _ _ => 0)), [], 0, ⟨hn1, hL1, bww0, bww5, bww6, bww14, bww16, bwew1, bwew4, bwew5, bwew6, bwew7, g_0, g_1, g_2⟩, (Or.inl ⟨rfl, rfl, rfl⟩), (show PTn _ _ _ _ ww0 from by rw [g_3]; exact PTn_0 10 46481 hc (hp 5) (by decide) (by decide) n1 0), rfl, rfl⟩, rfl⟩ hP hD hS
set_option maxHeartbeats 4000000 in
set_option maxRecDepth 100000 in
theorem cx_29_a {p : Program} {e : Env} {s : State} {m : MethodId} {below : List Frame} {meth : Method} {c : Code} {l : Launch} {b Lk : Nat} {xs : Nat → Int32} {V : GV} {y : Nat → Nat} {τ : Nat → Int32} {H : Heap} {locs : List Loc} {cells slots : Nat} {wz : va_W} {ls : Array Slot} (G : LCx p s m meth c b Lk xs V) (a1 : Int32) (a2 : Int32) {pp : Nat → Int32} {ff : Nat → Nat → Int32} {gg : Nat → Nat → Int64} {n L : Nat} {Yw : Nat → Nat} {wa wb : Nat} {qq : Nat → Int32} {ee : Nat → Nat → Int32} {o11 : Value} {fr : va_W} {fm : Nat} (hp : ivT tX pp) (ht0 : pp 0 = τ 0) (ht1 : pp 15 = τ 1) (ht2 : pp 16 = τ 2) (ht3 : BTs (ff 0) (tauT τ)) (ht4 : (∀ j, iv (-128) 127 ((ff 0) j))) (hW : WFa n L qq ee) (hF : RFo V o11 fr fm) (hT : PTn cells slots n fm (qq 0)) (hq : pp 5 ≤ qq 0) (hP : va_P V.1 vwCl (wB V y pp ff gg (.ref (Yw 0)) o11 ++ (wY V y n L Yw wa wb qq ee ++ fr) ++ wz) H) (hD : va_D (AAs s) (wB V y pp ff gg (.ref (Yw 0)) o11 ++ (wY V y n L Yw wa wb qq ee ++ fr) ++ wz)) (hS : va_S (AAs s) s.heap H locs) (hlz : ls.size = 4) (kk : (∀ (r : Int64) (H : Heap) (locs : List Loc) (cells slots : Nat) (wx : va_W), KX V y cells slots τ wx → va_P V.1 vwCl (wx ++ wz) H → va_D (AAs s) (wx ++ wz) → va_S (AAs s) s.heap H locs → W p l e room_1 s m #[Value.ref b] below meth c H locs cells slots (lw_Z below #[Value.ref b] s) (F0 m 1005 ls [.long r]))) : W p l e room_1 s m #[Value.ref b] below meth c H locs cells slots (lw_Z below #[Value.ref b] s) (F0 m 1002 ls [.int a2, .int a1, .ref (y 0)]) := by
  obtain ⟨hn, hL, hw_q0, hw_q5, hw_q6, hw_q14, hw_q16, hw_tYw1, hw_tYw4, hw_tYw5, hw_tYw6, hw_tYw7, hw_WA, hw_WB, hw_WC⟩ := id hW
  rw [as4] at hP hD
  refine cXL (X := wB V y pp ff gg (.ref (Yw 0)) o11 ++ wY V y n L Yw wa wb qq ee) (pl := fr ++ wz) (wr := [(y 1, aB V 900 (ff 0)), (y 4, aI V 4 (ff 2)), (y 5, aI V 4 (ff 3)), (y 6, aI V 8 (ff 4)), (y 7, aI V 8 (ff 5)), (y 8, aI V 8 (ff 6)), (y 10, .inr (6, [.ref (y 11), .int (pp 15), .int (pp 16), .ref (y 1), .int (pp 17), .int (pp 18), .int (pp 19), .int (pp 20), .int (pp 21)])), (y 11, .inr (1, [.int (pp 22), .int (pp 23), .int (pp 24), .int (pp 25), .int (pp 26), .int (pp 27), .ref (y 12), .ref (y 13), .ref (y 14), .ref (y 15), .ref (y 16), .ref (y 17), .ref (y 18), .int (pp 28), .int (pp 29), .int (pp 30), .int (pp 31), .int (pp 32)])), (y 12, aI V 4 (ff 8)), (y 13, aI V 4 (ff 9)), (y 14, aI V 4 (ff 10)), (y 15, aI V 8 (ff 11)), (y 16, aI V 8 (ff 12)), (y 17, aI V 8 (ff 13)), (y 18, aI V 900 (ff 14)), (y 23, aI V 10 (ff 18)), (y 24, aI V 10 (ff 19)), (y 25, .inr (0, [.int (pp 33), .int (pp 34)])), (y 26, .inr (5, [.ref (y 27), .ref (y 28), .ref (y 29), .int (pp 35)])), (y 27, aI V 10 (ff 20)), (y 28, aI V 10 (ff 21)), (y 29, aI V 10 (ff 22)), (y 31, aM V 2 (va_up (va_up (fun _ => none) 0 (some (y 41))) 1 (some (y 50)))), (y 32, aI V 10 (ff 23)), (y 41, .inr (3, [.ref (y 42), .int (pp 44), .int (pp 45), .int (pp 46), .int (pp 47)])), (y 42, .inr (1, [.int (pp 48), .int (pp 49), .int (pp 50), .int (pp 51), .int (pp 52), .int (pp 53), .ref (y 43), .ref (y 44), .ref (y 45), .ref (y 46), .ref (y 47), .ref (y 48), .ref (y 49), .int (pp 54), .int (pp 55), .int (pp 56), .int (pp 57), .int (pp 58)])), (y 43, aI V 4 (ff 24)), (y 44, aI V 4 (ff 25)), (y 45, aI V 4 (ff 26)), (y 46, aI V 8 (ff 27)), (y 47, aI V 8 (ff 28)), (y 48, aI V 8 (ff 29)), (y 49, aI V 900 (ff 30)), (y 50, .inr (3, [.ref (y 51), .int (pp 59), .int (pp 60), .int (pp 61), .int (pp 62)])), (y 51, .inr (1, [.int (pp 63), .int (pp 64), .int (pp 65), .int (pp 66), .int (pp 67), .int (pp 68), .ref (y 52), .ref (y 53), .ref (y 54), .ref (y 55), .ref (y 56), .ref (y 57), .ref (y 58), .int (pp 69), .int (pp 70), .int (pp 71), .int (pp 72), .int (pp 73)])), (y 52, aI V 4 (ff 31)), (y 53, aI V 4 (ff 32)), (y 54, aI V 4 (ff 33)), (y 55, aI V 8 (ff 34)), (y 56, aI V 8 (ff 35)), (y 57, aI V 8 (ff 36)), (y 58, aI V 900 (ff 37)), (Yw 7, aI V n (ee 6))]) (rest := []) G (k_X9_high_0 l V n L Yw y a1 a2 (pp 0) o11 (pp 1) (pp 2) (pp 3) (pp 4) (pp 5) (pp 6) (pp 7) (pp 8) (pp 9) (pp 10) (pp 11) (pp 12) (pp 13) (pp 14) (ff 1) (ff 7) (ff 15) (ff 16) (ff 17) (pp 36) (pp 37) (gg 0) (pp 38) (pp 39) (gg 1) (pp 40) (pp 41) (gg 2) (pp 42) (pp 43) (gg 3) (qq 0) wa (qq 5) (qq 6) wb (qq 14) (qq 15) (qq 16) (ee 0) (ee 1) (ee 2) (ee 3) (ee 4) (ee 5) (ee 7) (ee 8) hn hL hq (hp 0) (hp 5) (hp 6) (hp 7) (hp 10) (hp 11) (hp 12) (hp 13) (hp 14) (hp 36) (hp 38) (hp 40) (hp 42) hw_q0 hw_q5 hw_q6 hw_q14 hw_q16 hw_tYw1 hw_tYw4 hw_tYw5 hw_tYw6 hw_WA hw_WB hw_WC) mt_X9_high q_5_17 ⟨Nat.le_of_ble_eq_true rfl, Nat.le_of_ble_eq_true rfl⟩ hP hD hS [0, 2, 3, 9, 19, 20, 21, 22, 30, 33, 34, 35, 36, 37, 38, 39, 40, 59, 60, 61, 62, 63, 64, 65, 67, 68] [1, 4, 5, 6, 7, 8, 10, 11, 12, 13, 14, 15, 16, 17, 18, 23, 24, 25, 26, 27, 28, 29, 31, 32, 41, 42, 43, 44, 45, 46, 47, 48, 49, 50, 51, 52, 53, 54, 55, 56, 57, 58, 66] (by decide +kernel) rfl rfl (by decide +kernel) (by decide +kernel) 0 rfl rfl rfl rfl hlz rfl (Nat.le_of_ble_eq_true rfl) dL_law_1002 (PTn_room hT hw_q0) (fun r w H locs hw hP hD hS => ?_)
  refine Exists.elim hw (fun g0 hw => ?_)
  refine Exists.elim hw (fun g1 hw => ?_)
  refine Exists.elim hw (fun g2 hw => ?_)
  refine Exists.elim hw (fun wa2 hw => ?_)
  refine Exists.elim hw (fun v4 hw => ?_)
  refine Exists.elim hw (fun v5 hw => ?_)
  refine Exists.elim hw (fun wb2 hw => ?_)
  refine Exists.elim hw (fun v7 hw => ?_)
  refine Exists.elim hw (fun v8 hw => ?_)
  refine Exists.elim hw (fun v9 hw => ?_)
  refine Exists.elim hw (fun g10 hw => ?_)
  refine Exists.elim hw (fun g11 hw => ?_)
  refine Exists.elim hw (fun g12 hw => ?_)
  refine Exists.elim hw (fun g13 hw => ?_)
  refine Exists.elim hw (fun g14 hw => ?_)
  refine Exists.elim hw (fun g15 hw => ?_)
  refine Exists.elim hw (fun g16 hw => ?_)
  refine Exists.elim hw (fun g17 hw => ?_)
  refine And.elim (fun bv4 hw => ?_) hw
  refine And.elim (fun bv5 hw => ?_) hw
  refine And.elim (fun bv7 hw => ?_) hw
  refine And.elim (fun bv9 hw => ?_) hw
  refine And.elim (fun bg10 hw => ?_) hw
  refine And.elim (fun bg13 hw => ?_) hw
  refine And.elim (fun bg14 hw => ?_) hw
  refine And.elim (fun bg15 hw => ?_) hw
  refine And.elim (fun g_0 hw => ?_) hw
  refine And.elim (fun g_1 hw => ?_) hw
  refine And.elim (fun g_2 hw => ?_) hw
  subst hw
  have hP := ptP (ws' := wB V y pp (up9 (up9 (up9 ff 15 g0) 16 g1) 17 g2) gg (.ref (Yw 0)) o11 ++ wY V y n L Yw wa2 wb2 (br9 17 (br9 8 (br9 4 qq (br9 6 (br9 5 qq (lf9 v4)) (br9 7 (lf9 v5) qq))) (br9 12 qq (br9 14 qq (br9 15 (lf9 v7) (br9 16 (lf9 v8) (lf9 v9)))))) qq) (br9 9 (br9 4 (br9 2 (br9 1 (lf9 g10) (lf9 g11)) (br9 3 (lf9 g12) (lf9 g13))) (br9 6 (br9 5 (lf9 g14) (lf9 g15)) (br9 7 ee (br9 8 (lf9 g16) (lf9 g17))))) ee)) hP [43, 0, 44, 45, 1, 2, 3, 4, 5, 46, 6, 7, 8, 9, 10, 11, 12, 13, 14, 47, 48, 49, 50, 15, 16, 17, 18, 19, 20, 21, 51, 22, 23, 52, 53, 54, 55, 56, 57, 58, 59, 24, 25, 26, 27, 28, 29, 30, 31, 32, 33, 34, 35, 36, 37, 38, 39, 40, 41, 60, 61, 62, 63, 64, 65, 66, 42, 67, 68] rfl
  have hD := hD.part (cx := wB V y pp (up9 (up9 (up9 ff 15 g0) 16 g1) 17 g2) gg (.ref (Yw 0)) o11 ++ wY V y n L Yw wa2 wb2 (br9 17 (br9 8 (br9 4 qq (br9 6 (br9 5 qq (lf9 v4)) (br9 7 (lf9 v5) qq))) (br9 12 qq (br9 14 qq (br9 15 (lf9 v7) (br9 16 (lf9 v8) (lf9 v9)))))) qq) (br9 9 (br9 4 (br9 2 (br9 1 (lf9 g10) (lf9 g11)) (br9 3 (lf9 g12) (lf9 g13))) (br9 6 (br9 5 (lf9 g14) (lf9 g15)) (br9 7 ee (br9 8 (lf9 g16) (lf9 g17))))) ee)) [43, 0, 44, 45, 1, 2, 3, 4, 5, 46, 6, 7, 8, 9, 10, 11, 12, 13, 14, 47, 48, 49, 50, 15, 16, 17, 18, 19, 20, 21, 51, 22, 23, 52, 53, 54, 55, 56, 57, 58, 59, 24, 25, 26, 27, 28, 29, 30, 31, 32, 33, 34, 35, 36, 37, 38, 39, 40, 41, 60, 61, 62, 63, 64, 65, 66, 42, 67, 68] (by decide +kernel) rfl
  rw [← as4] at hP hD
  exact kk r H locs (cells + 0) (slots + 0) _ ⟨pp, (up9 (up9 (up9 ff 15 g0) 16 g1) 17 g2), gg, .ref (Yw 0), o11, _, hp, ht0, ht1, ht2, ht3, ht4, Or.inr ⟨n, L, Yw, wa2, wb2, (br9 17 (br9 8 (br9 4 qq (br9 6 (br9 5 qq (lf9 v4)) (br9 7 (lf9 v5) qq))) (br9 12 qq (br9 14 qq (br9 15 (lf9 v7) (br9 16 (lf9 v8) (lf9 v9)))))) qq), (br9 9 (br9 4 (br9 2 (br9 1 (lf9 g10) (lf9 g11)) (br9 3 (lf9 g12) (lf9 g13))) (br9 6 (br9 5 (lf9 g14) (lf9 g15)) (br9 7 ee (br9 8 (lf9 g16) (lf9 g17))))) ee), fr, fm, ⟨hn, hL, hw_q0, bv4, bv5, bv7, bv9, bg10, bg13, bg14, bg15, hw_tYw7, g_0, g_1, g_2⟩, hF, hT, rfl, rfl⟩, rfl⟩ hP hD hS
set_option maxHeartbeats 4000000 in
set_option maxRecDepth 100000 in
theorem cx_29_b {p : Program} {e : Env} {s : State} {m : MethodId} {below : List Frame} {meth : Method} {c : Code} {l : Launch} {b Lk : Nat} {xs : Nat → Int32} {V : GV} {y : Nat → Nat} {τ : Nat → Int32} {H : Heap} {locs : List Loc} {cells slots : Nat} {wz : va_W} {ls : Array Slot} (G : LCx p s m meth c b Lk xs V) (a1 : Int32) (a2 : Int32) {pp : Nat → Int32} {ff : Nat → Nat → Int32} {gg : Nat → Nat → Int64} {n L : Nat} {Yw : Nat → Nat} {wa wb : Nat} {qq : Nat → Int32} {ee : Nat → Nat → Int32} {o11 : Value} {fr : va_W} {fm : Nat} (hp : ivT tX pp) (ht0 : pp 0 = τ 0) (ht1 : pp 15 = τ 1) (ht2 : pp 16 = τ 2) (ht3 : BTs (ff 0) (tauT τ)) (ht4 : (∀ j, iv (-128) 127 ((ff 0) j))) (hW : WFa n L qq ee) (hF : RFo V o11 fr fm) (hT : PTn cells slots n fm (qq 0)) (hq : qq 0 < pp 5) (hg : rfF a1 a2 (-1 : Int32) (pp 5) (pp 36) (pp 38) (pp 40) (pp 42) (gg 0) (gg 1) (gg 2) (gg 3) = 0) (hP : va_P V.1 vwCl (wB V y pp ff gg (.ref (Yw 0)) o11 ++ (wY V y n L Yw wa wb qq ee ++ fr) ++ wz) H) (hD : va_D (AAs s) (wB V y pp ff gg (.ref (Yw 0)) o11 ++ (wY V y n L Yw wa wb qq ee ++ fr) ++ wz)) (hS : va_S (AAs s) s.heap H locs) (hlz : ls.size = 4) (kk : (∀ (r : Int64) (H : Heap) (locs : List Loc) (cells slots : Nat) (wx : va_W), KX V y cells slots τ wx → va_P V.1 vwCl (wx ++ wz) H → va_D (AAs s) (wx ++ wz) → va_S (AAs s) s.heap H locs → W p l e room_1 s m #[Value.ref b] below meth c H locs cells slots (lw_Z below #[Value.ref b] s) (F0 m 1005 ls [.long r]))) : W p l e room_1 s m #[Value.ref b] below meth c H locs cells slots (lw_Z below #[Value.ref b] s) (F0 m 1002 ls [.int a2, .int a1, .ref (y 0)]) := by
  obtain ⟨hn, hL, hw_q0, hw_q5, hw_q6, hw_q14, hw_q16, hw_tYw1, hw_tYw4, hw_tYw5, hw_tYw6, hw_tYw7, hw_WA, hw_WB, hw_WC⟩ := id hW
  have hTB := PTn_B 10 46481 hT hw_q0 (hp 5) hq (by decide) (by decide)
  rw [as4] at hP hD
  refine cXL (X := wB V y pp ff gg (.ref (Yw 0)) o11 ++ wY V y n L Yw wa wb qq ee) (pl := fr ++ wz) (wr := [(y 1, aB V 900 (ff 0)), (y 4, aI V 4 (ff 2)), (y 5, aI V 4 (ff 3)), (y 6, aI V 8 (ff 4)), (y 7, aI V 8 (ff 5)), (y 8, aI V 8 (ff 6)), (y 10, .inr (6, [.ref (y 11), .int (pp 15), .int (pp 16), .ref (y 1), .int (pp 17), .int (pp 18), .int (pp 19), .int (pp 20), .int (pp 21)])), (y 11, .inr (1, [.int (pp 22), .int (pp 23), .int (pp 24), .int (pp 25), .int (pp 26), .int (pp 27), .ref (y 12), .ref (y 13), .ref (y 14), .ref (y 15), .ref (y 16), .ref (y 17), .ref (y 18), .int (pp 28), .int (pp 29), .int (pp 30), .int (pp 31), .int (pp 32)])), (y 12, aI V 4 (ff 8)), (y 13, aI V 4 (ff 9)), (y 14, aI V 4 (ff 10)), (y 15, aI V 8 (ff 11)), (y 16, aI V 8 (ff 12)), (y 17, aI V 8 (ff 13)), (y 18, aI V 900 (ff 14)), (y 23, aI V 10 (ff 18)), (y 24, aI V 10 (ff 19)), (y 25, .inr (0, [.int (pp 33), .int (pp 34)])), (y 26, .inr (5, [.ref (y 27), .ref (y 28), .ref (y 29), .int (pp 35)])), (y 27, aI V 10 (ff 20)), (y 28, aI V 10 (ff 21)), (y 29, aI V 10 (ff 22)), (y 31, aM V 2 (va_up (va_up (fun _ => none) 0 (some (y 41))) 1 (some (y 50)))), (y 32, aI V 10 (ff 23)), (y 41, .inr (3, [.ref (y 42), .int (pp 44), .int (pp 45), .int (pp 46), .int (pp 47)])), (y 42, .inr (1, [.int (pp 48), .int (pp 49), .int (pp 50), .int (pp 51), .int (pp 52), .int (pp 53), .ref (y 43), .ref (y 44), .ref (y 45), .ref (y 46), .ref (y 47), .ref (y 48), .ref (y 49), .int (pp 54), .int (pp 55), .int (pp 56), .int (pp 57), .int (pp 58)])), (y 43, aI V 4 (ff 24)), (y 44, aI V 4 (ff 25)), (y 45, aI V 4 (ff 26)), (y 46, aI V 8 (ff 27)), (y 47, aI V 8 (ff 28)), (y 48, aI V 8 (ff 29)), (y 49, aI V 900 (ff 30)), (y 50, .inr (3, [.ref (y 51), .int (pp 59), .int (pp 60), .int (pp 61), .int (pp 62)])), (y 51, .inr (1, [.int (pp 63), .int (pp 64), .int (pp 65), .int (pp 66), .int (pp 67), .int (pp 68), .ref (y 52), .ref (y 53), .ref (y 54), .ref (y 55), .ref (y 56), .ref (y 57), .ref (y 58), .int (pp 69), .int (pp 70), .int (pp 71), .int (pp 72), .int (pp 73)])), (y 52, aI V 4 (ff 31)), (y 53, aI V 4 (ff 32)), (y 54, aI V 4 (ff 33)), (y 55, aI V 8 (ff 34)), (y 56, aI V 8 (ff 35)), (y 57, aI V 8 (ff 36)), (y 58, aI V 900 (ff 37))]) (rest := []) G (k_X9_high_3 l V n L Yw y a1 a2 (pp 0) o11 (pp 1) (pp 2) (pp 3) (pp 4) (pp 5) (pp 6) (pp 7) (pp 8) (pp 9) (pp 10) (pp 11) (pp 12) (pp 13) (pp 14) (ff 1) (ff 7) (ff 15) (ff 16) (ff 17) (pp 36) (pp 37) (gg 0) (pp 38) (pp 39) (gg 1) (pp 40) (pp 41) (gg 2) (pp 42) (pp 43) (gg 3) (qq 0) wa (qq 5) (qq 6) wb (qq 14) (qq 15) (qq 16) (ee 0) (ee 1) (ee 2) (ee 3) (ee 4) (ee 5) (ee 6) (ee 7) (ee 8) hn hL hq (hp 0) (hp 5) (hp 6) (hp 7) (hp 10) (hp 11) (hp 12) (hp 13) (hp 14) (hp 36) (hp 38) (hp 40) (hp 42) hw_q0 hw_q5 hw_q6 hw_q14 hw_q16 hw_tYw1 hw_tYw4 hw_tYw5 hw_tYw6 hw_tYw7 hw_WA hw_WB hw_WC hg) mt_X9_high q_5_17 ⟨Nat.le_of_ble_eq_true rfl, Nat.le_of_ble_eq_true rfl⟩ hP hD hS [0, 2, 3, 9, 19, 20, 21, 22, 30, 33, 34, 35, 36, 37, 38, 39, 40, 59, 60, 61, 62, 63, 64, 65, 66, 67, 68] [1, 4, 5, 6, 7, 8, 10, 11, 12, 13, 14, 15, 16, 17, 18, 23, 24, 25, 26, 27, 28, 29, 31, 32, 41, 42, 43, 44, 45, 46, 47, 48, 49, 50, 51, 52, 53, 54, 55, 56, 57, 58] (by decide +kernel) rfl rfl (by decide +kernel) (by decide +kernel) 0 rfl rfl rfl rfl hlz rfl (Nat.le_of_ble_eq_true rfl) dL_law_1002 hTB.1 (fun r w H locs hw hP hD hS => ?_)
  refine Exists.elim hw (fun n1 hw => ?_)
  refine Exists.elim hw (fun L1 hw => ?_)
  refine Exists.elim hw (fun Yw1 hw => ?_)
  refine Exists.elim hw (fun wa1 hw => ?_)
  refine Exists.elim hw (fun wb1 hw => ?_)
  refine Exists.elim hw (fun g0 hw => ?_)
  refine Exists.elim hw (fun g1 hw => ?_)
  refine Exists.elim hw (fun g2 hw => ?_)
  refine Exists.elim hw (fun ww0 hw => ?_)
  refine Exists.elim hw (fun ww5 hw => ?_)
  refine Exists.elim hw (fun ww6 hw => ?_)
  refine Exists.elim hw (fun ww14 hw => ?_)
  refine Exists.elim hw (fun ww15 hw => ?_)
  refine Exists.elim hw (fun ww16 hw => ?_)
  refine Exists.elim hw (fun wew1 hw => ?_)
  refine Exists.elim hw (fun wew2 hw => ?_)
  refine Exists.elim hw (fun wew3 hw => ?_)
  refine Exists.elim hw (fun wew4 hw => ?_)
  refine Exists.elim hw (fun wew5 hw => ?_)
  refine Exists.elim hw (fun wew6 hw => ?_)
  refine Exists.elim hw (fun wew7 hw => ?_)
  refine Exists.elim hw (fun wew8 hw => ?_)
  refine Exists.elim hw (fun wew9 hw => ?_)
  refine And.elim (fun hn1 hw => ?_) hw
  refine And.elim (fun hL1 hw => ?_) hw
  refine And.elim (fun bww0 hw => ?_) hw
  refine And.elim (fun bww5 hw => ?_) hw
  refine And.elim (fun bww6 hw => ?_) hw
  refine And.elim (fun bww14 hw => ?_) hw
  refine And.elim (fun bww16 hw => ?_) hw
  refine And.elim (fun bwew1 hw => ?_) hw
  refine And.elim (fun bwew4 hw => ?_) hw
  refine And.elim (fun bwew5 hw => ?_) hw
  refine And.elim (fun bwew6 hw => ?_) hw
  refine And.elim (fun bwew7 hw => ?_) hw
  refine And.elim (fun g_0 hw => ?_) hw
  refine And.elim (fun g_1 hw => ?_) hw
  refine And.elim (fun g_2 hw => ?_) hw
  refine And.elim (fun g_3 hw => ?_) hw
  subst hw
  have hP := ptP (ws' := wB V y pp (up9 (up9 (up9 ff 15 g0) 16 g1) 17 g2) gg (.ref (Yw1 0)) o11 ++ wY V y n1 L1 Yw1 wa1 wb1 (br9 17 (br9 8 (br9 4 (br9 2 (br9 1 (lf9 ww0) (fun _ => 0)) (fun _ => 0)) (br9 6 (br9 5 (fun _ => 0) (lf9 ww5)) (br9 7 (lf9 ww6) (fun _ => 0)))) (br9 12 (fun _ => 0) (br9 14 (fun _ => 0) (br9 15 (lf9 ww14) (br9 16 (lf9 ww15) (lf9 ww16)))))) (fun _ => 0)) (br9 9 (br9 4 (br9 2 (br9 1 (lf9 wew1) (lf9 wew2)) (br9 3 (lf9 wew3) (lf9 wew4))) (br9 6 (br9 5 (lf9 wew5) (lf9 wew6)) (br9 7 (lf9 wew7) (br9 8 (lf9 wew8) (lf9 wew9))))) (fun _ _ => 0))) hP [42, 0, 43, 44, 1, 2, 3, 4, 5, 45, 6, 7, 8, 9, 10, 11, 12, 13, 14, 46, 47, 48, 49, 15, 16, 17, 18, 19, 20, 21, 50, 22, 23, 51, 52, 53, 54, 55, 56, 57, 58, 24, 25, 26, 27, 28, 29, 30, 31, 32, 33, 34, 35, 36, 37, 38, 39, 40, 41, 59, 60, 61, 62, 63, 64, 65, 66, 67, 68] rfl
  have hD := hD.part (cx := wB V y pp (up9 (up9 (up9 ff 15 g0) 16 g1) 17 g2) gg (.ref (Yw1 0)) o11 ++ wY V y n1 L1 Yw1 wa1 wb1 (br9 17 (br9 8 (br9 4 (br9 2 (br9 1 (lf9 ww0) (fun _ => 0)) (fun _ => 0)) (br9 6 (br9 5 (fun _ => 0) (lf9 ww5)) (br9 7 (lf9 ww6) (fun _ => 0)))) (br9 12 (fun _ => 0) (br9 14 (fun _ => 0) (br9 15 (lf9 ww14) (br9 16 (lf9 ww15) (lf9 ww16)))))) (fun _ => 0)) (br9 9 (br9 4 (br9 2 (br9 1 (lf9 wew1) (lf9 wew2)) (br9 3 (lf9 wew3) (lf9 wew4))) (br9 6 (br9 5 (lf9 wew5) (lf9 wew6)) (br9 7 (lf9 wew7) (br9 8 (lf9 wew8) (lf9 wew9))))) (fun _ _ => 0))) [42, 0, 43, 44, 1, 2, 3, 4, 5, 45, 6, 7, 8, 9, 10, 11, 12, 13, 14, 46, 47, 48, 49, 15, 16, 17, 18, 19, 20, 21, 50, 22, 23, 51, 52, 53, 54, 55, 56, 57, 58, 24, 25, 26, 27, 28, 29, 30, 31, 32, 33, 34, 35, 36, 37, 38, 39, 40, 41, 59, 60, 61, 62, 63, 64, 65, 66, 67, 68] (by decide +kernel) rfl
  rw [← as4] at hP hD
  exact kk r H locs (cells + 10) (slots + 46481) _ ⟨pp, (up9 (up9 (up9 ff 15 g0) 16 g1) 17 g2), gg, .ref (Yw1 0), o11, _, hp, ht0, ht1, ht2, ht3, ht4, Or.inr ⟨n1, L1, Yw1, wa1, wb1, (br9 17 (br9 8 (br9 4 (br9 2 (br9 1 (lf9 ww0) (fun _ => 0)) (fun _ => 0)) (br9 6 (br9 5 (fun _ => 0) (lf9 ww5)) (br9 7 (lf9 ww6) (fun _ => 0)))) (br9 12 (fun _ => 0) (br9 14 (fun _ => 0) (br9 15 (lf9 ww14) (br9 16 (lf9 ww15) (lf9 ww16)))))) (fun _ => 0)), (br9 9 (br9 4 (br9 2 (br9 1 (lf9 wew1) (lf9 wew2)) (br9 3 (lf9 wew3) (lf9 wew4))) (br9 6 (br9 5 (lf9 wew5) (lf9 wew6)) (br9 7 (lf9 wew7) (br9 8 (lf9 wew8) (lf9 wew9))))) (fun _ _ => 0)), fr, fm, ⟨hn1, hL1, bww0, bww5, bww6, bww14, bww16, bwew1, bwew4, bwew5, bwew6, bwew7, g_0, g_1, g_2⟩, hF, (show PTn _ _ _ _ ww0 from by rw [g_3]; exact hTB.2 n1 fm), rfl, rfl⟩, rfl⟩ hP hD hS
set_option maxHeartbeats 4000000 in
set_option maxRecDepth 100000 in
theorem cx_29 {p : Program} {e : Env} {s : State} {m : MethodId} {below : List Frame} {meth : Method} {c : Code} {l : Launch} {b Lk : Nat} {xs : Nat → Int32} {V : GV} {y : Nat → Nat} {τ : Nat → Int32} {H : Heap} {locs : List Loc} {cells slots : Nat} {wz : va_W} {ls : Array Slot} (G : LCx p s m meth c b Lk xs V) (a1 : Int32) (a2 : Int32) {wx : va_W} (kx : KX V y cells slots τ wx) (hP : va_P V.1 vwCl (wx ++ wz) H) (hD : va_D (AAs s) (wx ++ wz)) (hS : va_S (AAs s) s.heap H locs) (hlz : ls.size = 4) (kk : (∀ (r : Int64) (H : Heap) (locs : List Loc) (cells slots : Nat) (wx : va_W), KX V y cells slots τ wx → va_P V.1 vwCl (wx ++ wz) H → va_D (AAs s) (wx ++ wz) → va_S (AAs s) s.heap H locs → W p l e room_1 s m #[Value.ref b] below meth c H locs cells slots (lw_Z below #[Value.ref b] s) (F0 m 1005 ls [.long r]))) : W p l e room_1 s m #[Value.ref b] below meth c H locs cells slots (lw_Z below #[Value.ref b] s) (F0 m 1002 ls [.int a2, .int a1, .ref (y 0)]) := by
  obtain ⟨pp, ff, gg, o10, o11, rest, hp, ht0, ht1, ht2, ht3, ht4, hR, rfl⟩ := kx
  by_cases hg : rfF a1 a2 (-1 : Int32) (pp 5) (pp 36) (pp 38) (pp 40) (pp 42) (gg 0) (gg 1) (gg 2) (gg 3) = 0
  · rcases hR with ⟨rfl, rfl, rfl, hc⟩ | ⟨n, L, Yw, wa, wb, qq, ee, fr, fm, hW, hF, hT, rfl, rfl⟩
    · exact cx_29_0 G _ _ hp ht0 ht1 ht2 ht3 ht4 hc hg hP hD hS hlz kk
    · rcases Classical.em (pp 5 ≤ qq 0) with hq | hq
      · exact cx_29_a G _ _ hp ht0 ht1 ht2 ht3 ht4 hW hF hT hq hP hD hS hlz kk
      · replace hq := Int32.not_le.mp hq
        exact cx_29_b G _ _ hp ht0 ht1 ht2 ht3 ht4 hW hF hT hq hg hP hD hS hlz kk
  · exact cx_29_e G _ _ hp ht0 ht1 ht2 ht3 ht4 hR hg hP hD hS hlz kk
theorem q_8_50 : Cond.code yX10_high prog_12_method_110_code 4 (some FieldType.long) ∈ gw := gw_8 (i := 50) (rfl) rfl
theorem q_8_48 : Cond.instanceMethod yX10_high ∈ gw := gw_8 (i := 48) (by decide +kernel) rfl
theorem q_8_49 : Cond.selects "BeaconDelayModel" yX10_high yX10_high ∈ gw := gw_8 (i := 49) (by decide +kernel) rfl
theorem mt_X10_high : MtV yX10_high cX10_high 4 (some .long) 2 := ⟨⟨q_8_50, q_1_9, by decide +kernel, by decide +kernel, by decide +kernel⟩, q_8_48, q_8_49⟩
theorem q_8_47 : Cond.methodLink "BeaconDelayLaw" 139 yX10_high ∈ gw := gw_8 (i := 47) (by decide +kernel) rfl
theorem dL_law_1017 : decode cL_law 1017 = .ok (.invokevirtual 139, 3) := by decide +kernel
set_option maxHeartbeats 4000000 in
set_option maxRecDepth 100000 in
theorem cz_29 {p : Program} {e : Env} {s : State} {m : MethodId} {below : List Frame} {meth : Method} {c : Code} {l : Launch} {b Lk : Nat} {xs : Nat → Int32} {V : GV} {z : Nat → Nat} {τ : Nat → Int32} {H : Heap} {locs : List Loc} {cells slots : Nat} {wx : va_W} {ls : Array Slot} {rest : List Value} (G : LCx p s m meth c b Lk xs V) (a1 : Int32) (a2 : Int32) {wz : va_W} (kz : KZ V z τ wz) (hP : va_P V.1 vwCl (wx ++ wz) H) (hD : va_D (AAs s) (wx ++ wz)) (hS : va_S (AAs s) s.heap H locs) (hcs : cells + 0 ≤ 600000 ∧ slots + 0 ≤ 7302250) (hro : (rest.map fun v => v.category).sum ≤ 8) (hlz : ls.size = 4) (kk : (∀ (r : Int64) (H : Heap) (locs : List Loc) (wz : va_W), KZ V z τ wz → va_P V.1 vwCl (wx ++ wz) H → va_D (AAs s) (wx ++ wz) → va_S (AAs s) s.heap H locs → W p l e room_1 s m #[Value.ref b] below meth c H locs cells slots (lw_Z below #[Value.ref b] s) (F0 m 1020 ls (.long r :: rest)))) : W p l e room_1 s m #[Value.ref b] below meth c H locs cells slots (lw_Z below #[Value.ref b] s) (F0 m 1017 ls (.int a2 :: .int a1 :: .ref (z 0) :: rest)) := by
  obtain ⟨pz, fz, gz, hp, ht0, ht1, ht2, ht3, hz_tz1, hz_tz3, hz_tz4, hz_tz16, hz_tz17, hz_tz20, hz_tz21, hz_tz24, hz_tz25, hz_tz26, hz_tz27, hz_tz33, hz_tz34, hz_tz37, hz_tz38, hz_RW, rfl⟩ := kz
  replace hP := swP hP
  replace hD := swD hD
  refine cSL (X := wZ V z pz fz gz) (pl := wx) (rest := rest) G (k_X10_high_0 l V z a1 a2 (pz 0) (pz 5) (pz 6) (pz 7) (pz 8) (pz 9) (pz 10) (pz 11) (pz 12) (pz 13) (pz 14) (pz 18) (pz 19) (pz 22) (pz 23) (pz 29) (fz 0) (fz 4) (fz 5) (fz 9) (fz 10) (fz 13) (gz 2) (fz 18) (fz 19) (gz 3) (hp 5) (hp 6) (hp 7) (hp 8) (hp 10) (hp 11) (hp 12) (hp 13) (hp 14) (hp 18) (hp 22) (hp 29) hz_tz1 hz_tz16 hz_tz24 hz_tz25 hz_tz37 hz_tz38 hz_RW) mt_X10_high q_8_47 ⟨Nat.le_of_ble_eq_true rfl, Nat.le_of_ble_eq_true rfl⟩ hP hD hS [0, 1, 5, 6, 10, 11, 14, 20, 22, 23, 24] [0, 0, 3, 0, 3, 0, 2, 5, 1, 0, 0] (by decide) (by decide +kernel) rfl 0 rfl rfl rfl rfl hlz rfl hro dL_law_1017 hcs (fun r w H locs hw hPD hS => ?_)
  refine Exists.elim hw (fun v0 hw => ?_)
  refine Exists.elim hw (fun v1 hw => ?_)
  refine Exists.elim hw (fun g2 hw => ?_)
  refine Exists.elim hw (fun g3 hw => ?_)
  refine Exists.elim hw (fun g4 hw => ?_)
  refine Exists.elim hw (fun g5 hw => ?_)
  refine Exists.elim hw (fun g6 hw => ?_)
  refine Exists.elim hw (fun g7 hw => ?_)
  refine And.elim (fun bv1 hw => ?_) hw
  refine And.elim (fun bg3 hw => ?_) hw
  refine And.elim (fun bg4 hw => ?_) hw
  refine And.elim (fun bg5 hw => ?_) hw
  refine And.elim (fun g_0 hw => ?_) hw
  subst hw
  obtain ⟨hP, hD⟩ := hPD (wZ V z (up9 (up9 pz 0 v0) 29 v1) (br9 14 (br9 7 (br9 3 fz (br9 5 (br9 4 fz (lf9 g2)) (br9 6 (lf9 g3) fz))) (br9 10 (br9 8 fz (br9 9 fz (lf9 g4))) (br9 12 (br9 11 (lf9 g5) fz) (br9 13 fz (lf9 g6))))) fz) (up9 gz 2 g7)) rfl rfl
  replace hP := swP hP
  replace hD := swD hD
  exact kk r H locs _ ⟨(up9 (up9 pz 0 v0) 29 v1), (br9 14 (br9 7 (br9 3 fz (br9 5 (br9 4 fz (lf9 g2)) (br9 6 (lf9 g3) fz))) (br9 10 (br9 8 fz (br9 9 fz (lf9 g4))) (br9 12 (br9 11 (lf9 g5) fz) (br9 13 fz (lf9 g6))))) fz), (up9 gz 2 g7), (ivUp 29 (ivUp 0 hp (iv_top v0)) bv1), ht0, ht1, ht2, ht3, hz_tz1, hz_tz3, hz_tz4, bg3, hz_tz17, hz_tz20, hz_tz21, bg4, bg5, hz_tz26, hz_tz27, hz_tz33, hz_tz34, hz_tz37, hz_tz38, g_0, rfl⟩ hP hD hS
theorem q_5_38 : Cond.code yX9_highBy prog_1_method_54_code 6 (some FieldType.int) ∈ gw := gw_5 (i := 38) (rfl) rfl
theorem q_5_36 : Cond.instanceMethod yX9_highBy ∈ gw := gw_5 (i := 36) (by decide +kernel) rfl
theorem q_5_37 : Cond.selects "BeaconDelay" yX9_highBy yX9_highBy ∈ gw := gw_5 (i := 37) (by decide +kernel) rfl
theorem mt_X9_highBy : MtV yX9_highBy cX9_highBy 6 (some .int) 3 := ⟨⟨q_5_38, q_1_1, by decide +kernel, by decide +kernel, by decide +kernel⟩, q_5_36, q_5_37⟩
theorem q_5_35 : Cond.methodLink "BeaconDelayLaw" 140 yX9_highBy ∈ gw := gw_5 (i := 35) (by decide +kernel) rfl
theorem dL_law_1040 : decode cL_law 1040 = .ok (.invokevirtual 140, 3) := by decide +kernel
set_option maxHeartbeats 4000000 in
set_option maxRecDepth 100000 in
theorem cx_30_e {p : Program} {e : Env} {s : State} {m : MethodId} {below : List Frame} {meth : Method} {c : Code} {l : Launch} {b Lk : Nat} {xs : Nat → Int32} {V : GV} {y : Nat → Nat} {τ : Nat → Int32} {H : Heap} {locs : List Loc} {cells slots : Nat} {wz : va_W} {ls : Array Slot} (G : LCx p s m meth c b Lk xs V) (a1 : Int32) (a2 : Int32) (a3 : Int32) {pp : Nat → Int32} {ff : Nat → Nat → Int32} {gg : Nat → Nat → Int64} {o10 o11 : Value} {rest : va_W} (hp : ivT tX pp) (ht0 : pp 0 = τ 0) (ht1 : pp 15 = τ 1) (ht2 : pp 16 = τ 2) (ht3 : BTs (ff 0) (tauT τ)) (ht4 : (∀ j, iv (-128) 127 ((ff 0) j))) (hR : RRo V y cells slots o10 o11 rest) (hg : ¬ (rfF a1 a2 (-1 : Int32) (pp 5) (pp 36) (pp 38) (pp 40) (pp 42) (gg 0) (gg 1) (gg 2) (gg 3) = 0 ∧ 0 ≤ (a3 : Int32).toInt ∧ (a3 : Int32).toInt < (cntF a1 (pp 36) (pp 38) (pp 40) (pp 42) : Int32).toInt)) (hP : va_P V.1 vwCl (wB V y pp ff gg o10 o11 ++ rest ++ wz) H) (hD : va_D (AAs s) (wB V y pp ff gg o10 o11 ++ rest ++ wz)) (hS : va_S (AAs s) s.heap H locs) (hlz : ls.size = 4) (kk : (∀ (r : Int32) (H : Heap) (locs : List Loc) (cells slots : Nat) (wx : va_W), KX V y cells slots τ wx → va_P V.1 vwCl (wx ++ wz) H → va_D (AAs s) (wx ++ wz) → va_S (AAs s) s.heap H locs → W p l e room_1 s m #[Value.ref b] below meth c H locs cells slots (lw_Z below #[Value.ref b] s) (F0 m 1043 ls [.int r]))) : W p l e room_1 s m #[Value.ref b] below meth c H locs cells slots (lw_Z below #[Value.ref b] s) (F0 m 1040 ls [.int a3, .int a2, .int a1, .ref (y 0)]) := by
  rw [as3] at hP hD
  refine cSI (X := wB V y pp ff gg o10 o11) (pl := rest ++ wz) (rest := []) G (k_X9_highBy_1 l V y a1 a2 a3 (pp 0) o10 o11 (pp 1) (pp 2) (pp 3) (pp 4) (pp 5) (pp 6) (pp 7) (pp 8) (pp 9) (pp 10) (pp 11) (pp 12) (pp 13) (pp 14) (pp 36) (pp 37) (gg 0) (pp 38) (pp 39) (gg 1) (pp 40) (pp 41) (gg 2) (pp 42) (pp 43) (gg 3) (hp 0) (hp 5) (hp 6) (hp 7) (hp 10) (hp 11) (hp 12) (hp 13) (hp 14) (hp 36) (hp 38) (hp 40) (hp 42) hg) mt_X9_highBy q_5_35 ⟨Nat.le_of_ble_eq_true rfl, Nat.le_of_ble_eq_true rfl⟩ hP hD hS [0, 2, 30, 33, 34, 35, 36, 37, 38, 39, 40] [0, 1, 27, 2, 0, 0, 0, 0, 0, 0, 0] (by decide) (by decide +kernel) rfl 0 rfl rfl rfl rfl hlz rfl (Nat.le_of_ble_eq_true rfl) dL_law_1040 hR.room (fun r w H locs hw hPD hS => ?_)
  refine And.elim (fun br hw => ?_) hw
  subst hw
  obtain ⟨hP, hD⟩ := hPD (wB V y pp ff gg o10 o11) rfl rfl
  rw [← as3] at hP hD
  exact kk r H locs (cells + 0) (slots + 0) _ ⟨pp, ff, gg, o10, o11, rest, hp, ht0, ht1, ht2, ht3, ht4, hR, rfl⟩ hP hD hS
set_option maxHeartbeats 4000000 in
set_option maxRecDepth 100000 in
theorem cx_30_0 {p : Program} {e : Env} {s : State} {m : MethodId} {below : List Frame} {meth : Method} {c : Code} {l : Launch} {b Lk : Nat} {xs : Nat → Int32} {V : GV} {y : Nat → Nat} {τ : Nat → Int32} {H : Heap} {locs : List Loc} {cells slots : Nat} {wz : va_W} {ls : Array Slot} (G : LCx p s m meth c b Lk xs V) (a1 : Int32) (a2 : Int32) (a3 : Int32) {pp : Nat → Int32} {ff : Nat → Nat → Int32} {gg : Nat → Nat → Int64} (hp : ivT tX pp) (ht0 : pp 0 = τ 0) (ht1 : pp 15 = τ 1) (ht2 : pp 16 = τ 2) (ht3 : BTs (ff 0) (tauT τ)) (ht4 : (∀ j, iv (-128) 127 ((ff 0) j))) (hc : cells + 116 ≤ 600000 ∧ slots + 633553 ≤ 7302250) (hg : rfF a1 a2 (-1 : Int32) (pp 5) (pp 36) (pp 38) (pp 40) (pp 42) (gg 0) (gg 1) (gg 2) (gg 3) = 0 ∧ 0 ≤ (a3 : Int32).toInt ∧ (a3 : Int32).toInt < (cntF a1 (pp 36) (pp 38) (pp 40) (pp 42) : Int32).toInt) (hP : va_P V.1 vwCl (wB V y pp ff gg .null .null ++ [] ++ wz) H) (hD : va_D (AAs s) (wB V y pp ff gg .null .null ++ [] ++ wz)) (hS : va_S (AAs s) s.heap H locs) (hlz : ls.size = 4) (kk : (∀ (r : Int32) (H : Heap) (locs : List Loc) (cells slots : Nat) (wx : va_W), KX V y cells slots τ wx → va_P V.1 vwCl (wx ++ wz) H → va_D (AAs s) (wx ++ wz) → va_S (AAs s) s.heap H locs → W p l e room_1 s m #[Value.ref b] below meth c H locs cells slots (lw_Z below #[Value.ref b] s) (F0 m 1043 ls [.int r]))) : W p l e room_1 s m #[Value.ref b] below meth c H locs cells slots (lw_Z below #[Value.ref b] s) (F0 m 1040 ls [.int a3, .int a2, .int a1, .ref (y 0)]) := by
  refine cXI (X := wB V y pp ff gg .null .null ++ []) (pl := wz) (wr := [(y 1, aB V 900 (ff 0)), (y 4, aI V 4 (ff 2)), (y 5, aI V 4 (ff 3)), (y 6, aI V 8 (ff 4)), (y 7, aI V 8 (ff 5)), (y 8, aI V 8 (ff 6)), (y 10, .inr (6, [.ref (y 11), .int (pp 15), .int (pp 16), .ref (y 1), .int (pp 17), .int (pp 18), .int (pp 19), .int (pp 20), .int (pp 21)])), (y 11, .inr (1, [.int (pp 22), .int (pp 23), .int (pp 24), .int (pp 25), .int (pp 26), .int (pp 27), .ref (y 12), .ref (y 13), .ref (y 14), .ref (y 15), .ref (y 16), .ref (y 17), .ref (y 18), .int (pp 28), .int (pp 29), .int (pp 30), .int (pp 31), .int (pp 32)])), (y 12, aI V 4 (ff 8)), (y 13, aI V 4 (ff 9)), (y 14, aI V 4 (ff 10)), (y 15, aI V 8 (ff 11)), (y 16, aI V 8 (ff 12)), (y 17, aI V 8 (ff 13)), (y 18, aI V 900 (ff 14)), (y 23, aI V 10 (ff 18)), (y 24, aI V 10 (ff 19)), (y 25, .inr (0, [.int (pp 33), .int (pp 34)])), (y 26, .inr (5, [.ref (y 27), .ref (y 28), .ref (y 29), .int (pp 35)])), (y 27, aI V 10 (ff 20)), (y 28, aI V 10 (ff 21)), (y 29, aI V 10 (ff 22)), (y 31, aM V 2 (va_up (va_up (fun _ => none) 0 (some (y 41))) 1 (some (y 50)))), (y 32, aI V 10 (ff 23)), (y 41, .inr (3, [.ref (y 42), .int (pp 44), .int (pp 45), .int (pp 46), .int (pp 47)])), (y 42, .inr (1, [.int (pp 48), .int (pp 49), .int (pp 50), .int (pp 51), .int (pp 52), .int (pp 53), .ref (y 43), .ref (y 44), .ref (y 45), .ref (y 46), .ref (y 47), .ref (y 48), .ref (y 49), .int (pp 54), .int (pp 55), .int (pp 56), .int (pp 57), .int (pp 58)])), (y 43, aI V 4 (ff 24)), (y 44, aI V 4 (ff 25)), (y 45, aI V 4 (ff 26)), (y 46, aI V 8 (ff 27)), (y 47, aI V 8 (ff 28)), (y 48, aI V 8 (ff 29)), (y 49, aI V 900 (ff 30)), (y 50, .inr (3, [.ref (y 51), .int (pp 59), .int (pp 60), .int (pp 61), .int (pp 62)])), (y 51, .inr (1, [.int (pp 63), .int (pp 64), .int (pp 65), .int (pp 66), .int (pp 67), .int (pp 68), .ref (y 52), .ref (y 53), .ref (y 54), .ref (y 55), .ref (y 56), .ref (y 57), .ref (y 58), .int (pp 69), .int (pp 70), .int (pp 71), .int (pp 72), .int (pp 73)])), (y 52, aI V 4 (ff 31)), (y 53, aI V 4 (ff 32)), (y 54, aI V 4 (ff 33)), (y 55, aI V 8 (ff 34)), (y 56, aI V 8 (ff 35)), (y 57, aI V 8 (ff 36)), (y 58, aI V 900 (ff 37))]) (rest := []) G (k_X9_highBy_2 l V y a1 a2 a3 (pp 0) (.null) (pp 1) (pp 2) (pp 3) (pp 4) (pp 5) (pp 6) (pp 7) (pp 8) (pp 9) (pp 10) (pp 11) (pp 12) (pp 13) (pp 14) (ff 1) (ff 7) (ff 15) (ff 16) (ff 17) (pp 36) (pp 37) (gg 0) (pp 38) (pp 39) (gg 1) (pp 40) (pp 41) (gg 2) (pp 42) (pp 43) (gg 3) (hp 0) (hp 5) (hp 6) (hp 7) (hp 10) (hp 11) (hp 12) (hp 13) (hp 14) (hp 36) (hp 38) (hp 40) (hp 42) hg.1 hg.2.1 hg.2.2) mt_X9_highBy q_5_35 ⟨Nat.le_of_ble_eq_true rfl, Nat.le_of_ble_eq_true rfl⟩ hP hD hS [0, 2, 3, 9, 19, 20, 21, 22, 30, 33, 34, 35, 36, 37, 38, 39, 40] [1, 4, 5, 6, 7, 8, 10, 11, 12, 13, 14, 15, 16, 17, 18, 23, 24, 25, 26, 27, 28, 29, 31, 32, 41, 42, 43, 44, 45, 46, 47, 48, 49, 50, 51, 52, 53, 54, 55, 56, 57, 58] (by decide +kernel) rfl rfl (by decide +kernel) (by decide +kernel) 0 rfl rfl rfl rfl hlz rfl (Nat.le_of_ble_eq_true rfl) dL_law_1040 (by omega) (fun r w H locs hw hP hD hS => ?_)
  refine Exists.elim hw (fun n1 hw => ?_)
  refine Exists.elim hw (fun L1 hw => ?_)
  refine Exists.elim hw (fun Yw1 hw => ?_)
  refine Exists.elim hw (fun wa1 hw => ?_)
  refine Exists.elim hw (fun wb1 hw => ?_)
  refine Exists.elim hw (fun g0 hw => ?_)
  refine Exists.elim hw (fun g1 hw => ?_)
  refine Exists.elim hw (fun g2 hw => ?_)
  refine Exists.elim hw (fun ww0 hw => ?_)
  refine Exists.elim hw (fun ww5 hw => ?_)
  refine Exists.elim hw (fun ww6 hw => ?_)
  refine Exists.elim hw (fun ww14 hw => ?_)
  refine Exists.elim hw (fun ww15 hw => ?_)
  refine Exists.elim hw (fun ww16 hw => ?_)
  refine Exists.elim hw (fun wew1 hw => ?_)
  refine Exists.elim hw (fun wew2 hw => ?_)
  refine Exists.elim hw (fun wew3 hw => ?_)
  refine Exists.elim hw (fun wew4 hw => ?_)
  refine Exists.elim hw (fun wew5 hw => ?_)
  refine Exists.elim hw (fun wew6 hw => ?_)
  refine Exists.elim hw (fun wew7 hw => ?_)
  refine Exists.elim hw (fun wew8 hw => ?_)
  refine Exists.elim hw (fun wew9 hw => ?_)
  refine And.elim (fun hn1 hw => ?_) hw
  refine And.elim (fun hL1 hw => ?_) hw
  refine And.elim (fun bww0 hw => ?_) hw
  refine And.elim (fun bww5 hw => ?_) hw
  refine And.elim (fun bww6 hw => ?_) hw
  refine And.elim (fun bww14 hw => ?_) hw
  refine And.elim (fun bww16 hw => ?_) hw
  refine And.elim (fun bwew1 hw => ?_) hw
  refine And.elim (fun bwew4 hw => ?_) hw
  refine And.elim (fun bwew5 hw => ?_) hw
  refine And.elim (fun bwew6 hw => ?_) hw
  refine And.elim (fun bwew7 hw => ?_) hw
  refine And.elim (fun br hw => ?_) hw
  refine And.elim (fun g_0 hw => ?_) hw
  refine And.elim (fun g_1 hw => ?_) hw
  refine And.elim (fun g_2 hw => ?_) hw
  refine And.elim (fun g_3 hw => ?_) hw
  subst hw
  have hP := ptP (ws' := wB V y pp (up9 (up9 (up9 ff 15 g0) 16 g1) 17 g2) gg (.ref (Yw1 0)) .null ++ (wY V y n1 L1 Yw1 wa1 wb1 (br9 17 (br9 8 (br9 4 (br9 2 (br9 1 (lf9 ww0) (fun _ => 0)) (fun _ => 0)) (br9 6 (br9 5 (fun _ => 0) (lf9 ww5)) (br9 7 (lf9 ww6) (fun _ => 0)))) (br9 12 (fun _ => 0) (br9 14 (fun _ => 0) (br9 15 (lf9 ww14) (br9 16 (lf9 ww15) (lf9 ww16)))))) (fun _ => 0)) (br9 9 (br9 4 (br9 2 (br9 1 (lf9 wew1) (lf9 wew2)) (br9 3 (lf9 wew3) (lf9 wew4))) (br9 6 (br9 5 (lf9 wew5) (lf9 wew6)) (br9 7 (lf9 wew7) (br9 8 (lf9 wew8) (lf9 wew9))))) (fun _ _ => 0)) ++ [])) hP [42, 0, 43, 44, 1, 2, 3, 4, 5, 45, 6, 7, 8, 9, 10, 11, 12, 13, 14, 46, 47, 48, 49, 15, 16, 17, 18, 19, 20, 21, 50, 22, 23, 51, 52, 53, 54, 55, 56, 57, 58, 24, 25, 26, 27, 28, 29, 30, 31, 32, 33, 34, 35, 36, 37, 38, 39, 40, 41, 59, 60, 61, 62, 63, 64, 65, 66, 67, 68] rfl
  have hD := hD.part (cx := wB V y pp (up9 (up9 (up9 ff 15 g0) 16 g1) 17 g2) gg (.ref (Yw1 0)) .null ++ (wY V y n1 L1 Yw1 wa1 wb1 (br9 17 (br9 8 (br9 4 (br9 2 (br9 1 (lf9 ww0) (fun _ => 0)) (fun _ => 0)) (br9 6 (br9 5 (fun _ => 0) (lf9 ww5)) (br9 7 (lf9 ww6) (fun _ => 0)))) (br9 12 (fun _ => 0) (br9 14 (fun _ => 0) (br9 15 (lf9 ww14) (br9 16 (lf9 ww15) (lf9 ww16)))))) (fun _ => 0)) (br9 9 (br9 4 (br9 2 (br9 1 (lf9 wew1) (lf9 wew2)) (br9 3 (lf9 wew3) (lf9 wew4))) (br9 6 (br9 5 (lf9 wew5) (lf9 wew6)) (br9 7 (lf9 wew7) (br9 8 (lf9 wew8) (lf9 wew9))))) (fun _ _ => 0)) ++ [])) [42, 0, 43, 44, 1, 2, 3, 4, 5, 45, 6, 7, 8, 9, 10, 11, 12, 13, 14, 46, 47, 48, 49, 15, 16, 17, 18, 19, 20, 21, 50, 22, 23, 51, 52, 53, 54, 55, 56, 57, 58, 24, 25, 26, 27, 28, 29, 30, 31, 32, 33, 34, 35, 36, 37, 38, 39, 40, 41, 59, 60, 61, 62, 63, 64, 65, 66, 67, 68] (by decide +kernel) rfl
  exact kk r H locs (cells + 10) (slots + 46481) _ ⟨pp, (up9 (up9 (up9 ff 15 g0) 16 g1) 17 g2), gg, .ref (Yw1 0), .null, _, hp, ht0, ht1, ht2, ht3, ht4, Or.inr ⟨n1, L1, Yw1, wa1, wb1, (br9 17 (br9 8 (br9 4 (br9 2 (br9 1 (lf9 ww0) (fun _ => 0)) (fun _ => 0)) (br9 6 (br9 5 (fun _ => 0) (lf9 ww5)) (br9 7 (lf9 ww6) (fun _ => 0)))) (br9 12 (fun _ => 0) (br9 14 (fun _ => 0) (br9 15 (lf9 ww14) (br9 16 (lf9 ww15) (lf9 ww16)))))) (fun _ => 0)), (br9 9 (br9 4 (br9 2 (br9 1 (lf9 wew1) (lf9 wew2)) (br9 3 (lf9 wew3) (lf9 wew4))) (br9 6 (br9 5 (lf9 wew5) (lf9 wew6)) (br9 7 (lf9 wew7) (br9 8 (lf9 wew8) (lf9 wew9))))) (fun _ _ => 0)), [], 0, ⟨hn1, hL1, bww0, bww5, bww6, bww14, bww16, bwew1, bwew4, bwew5, bwew6, bwew7, g_0, g_1, g_2⟩, (Or.inl ⟨rfl, rfl, rfl⟩), (show PTn _ _ _ _ ww0 from by rw [g_3]; exact PTn_0 10 46481 hc (hp 5) (by decide) (by decide) n1 0), rfl, rfl⟩, rfl⟩ hP hD hS
set_option maxHeartbeats 4000000 in
set_option maxRecDepth 100000 in
theorem cx_30_a {p : Program} {e : Env} {s : State} {m : MethodId} {below : List Frame} {meth : Method} {c : Code} {l : Launch} {b Lk : Nat} {xs : Nat → Int32} {V : GV} {y : Nat → Nat} {τ : Nat → Int32} {H : Heap} {locs : List Loc} {cells slots : Nat} {wz : va_W} {ls : Array Slot} (G : LCx p s m meth c b Lk xs V) (a1 : Int32) (a2 : Int32) (a3 : Int32) {pp : Nat → Int32} {ff : Nat → Nat → Int32} {gg : Nat → Nat → Int64} {n L : Nat} {Yw : Nat → Nat} {wa wb : Nat} {qq : Nat → Int32} {ee : Nat → Nat → Int32} {o11 : Value} {fr : va_W} {fm : Nat} (hp : ivT tX pp) (ht0 : pp 0 = τ 0) (ht1 : pp 15 = τ 1) (ht2 : pp 16 = τ 2) (ht3 : BTs (ff 0) (tauT τ)) (ht4 : (∀ j, iv (-128) 127 ((ff 0) j))) (hW : WFa n L qq ee) (hF : RFo V o11 fr fm) (hT : PTn cells slots n fm (qq 0)) (hq : pp 5 ≤ qq 0) (hP : va_P V.1 vwCl (wB V y pp ff gg (.ref (Yw 0)) o11 ++ (wY V y n L Yw wa wb qq ee ++ fr) ++ wz) H) (hD : va_D (AAs s) (wB V y pp ff gg (.ref (Yw 0)) o11 ++ (wY V y n L Yw wa wb qq ee ++ fr) ++ wz)) (hS : va_S (AAs s) s.heap H locs) (hlz : ls.size = 4) (kk : (∀ (r : Int32) (H : Heap) (locs : List Loc) (cells slots : Nat) (wx : va_W), KX V y cells slots τ wx → va_P V.1 vwCl (wx ++ wz) H → va_D (AAs s) (wx ++ wz) → va_S (AAs s) s.heap H locs → W p l e room_1 s m #[Value.ref b] below meth c H locs cells slots (lw_Z below #[Value.ref b] s) (F0 m 1043 ls [.int r]))) : W p l e room_1 s m #[Value.ref b] below meth c H locs cells slots (lw_Z below #[Value.ref b] s) (F0 m 1040 ls [.int a3, .int a2, .int a1, .ref (y 0)]) := by
  obtain ⟨hn, hL, hw_q0, hw_q5, hw_q6, hw_q14, hw_q16, hw_tYw1, hw_tYw4, hw_tYw5, hw_tYw6, hw_tYw7, hw_WA, hw_WB, hw_WC⟩ := id hW
  rw [as4] at hP hD
  refine cSI (X := wB V y pp ff gg (.ref (Yw 0)) o11 ++ wY V y n L Yw wa wb qq ee) (pl := fr ++ wz) (rest := []) G (k_X9_highBy_0 l V n L Yw y a1 a2 a3 (pp 0) o11 (pp 1) (pp 2) (pp 3) (pp 4) (pp 5) (pp 6) (pp 7) (pp 8) (pp 9) (pp 10) (pp 11) (pp 12) (pp 13) (pp 14) (ff 1) (ff 7) (ff 15) (ff 16) (ff 17) (pp 36) (pp 37) (gg 0) (pp 38) (pp 39) (gg 1) (pp 40) (pp 41) (gg 2) (pp 42) (pp 43) (gg 3) (qq 0) wa (qq 5) (qq 6) wb (qq 14) (qq 15) (qq 16) (ee 0) (ee 1) (ee 2) (ee 3) (ee 4) (ee 5) (ee 7) hn hL hq (hp 0) (hp 5) (hp 6) (hp 7) (hp 10) (hp 11) (hp 12) (hp 13) (hp 14) (hp 36) (hp 38) (hp 40) (hp 42) hw_q0 hw_q5 hw_q6 hw_q14 hw_q16 hw_tYw1 hw_tYw4 hw_tYw5 hw_tYw6 hw_WA hw_WB hw_WC) mt_X9_highBy q_5_35 ⟨Nat.le_of_ble_eq_true rfl, Nat.le_of_ble_eq_true rfl⟩ hP hD hS [0, 2, 3, 9, 19, 20, 21, 22, 30, 33, 34, 35, 36, 37, 38, 39, 40, 59, 60, 61, 62, 63, 64, 65, 67] [0, 1, 0, 5, 9, 0, 0, 0, 7, 2, 0, 0, 0, 0, 0, 0, 0, 18, 0, 0, 0, 0, 0, 0, 1] (by decide) (by decide +kernel) rfl 0 rfl rfl rfl rfl hlz rfl (Nat.le_of_ble_eq_true rfl) dL_law_1040 (PTn_room hT hw_q0) (fun r w H locs hw hPD hS => ?_)
  refine Exists.elim hw (fun g0 hw => ?_)
  refine Exists.elim hw (fun g1 hw => ?_)
  refine Exists.elim hw (fun g2 hw => ?_)
  refine Exists.elim hw (fun v3 hw => ?_)
  refine Exists.elim hw (fun v4 hw => ?_)
  refine Exists.elim hw (fun v5 hw => ?_)
  refine Exists.elim hw (fun v6 hw => ?_)
  refine Exists.elim hw (fun v7 hw => ?_)
  refine Exists.elim hw (fun g8 hw => ?_)
  refine Exists.elim hw (fun g9 hw => ?_)
  refine Exists.elim hw (fun g10 hw => ?_)
  refine Exists.elim hw (fun g11 hw => ?_)
  refine Exists.elim hw (fun g12 hw => ?_)
  refine Exists.elim hw (fun g13 hw => ?_)
  refine Exists.elim hw (fun g14 hw => ?_)
  refine And.elim (fun bv3 hw => ?_) hw
  refine And.elim (fun bv4 hw => ?_) hw
  refine And.elim (fun bv5 hw => ?_) hw
  refine And.elim (fun bv7 hw => ?_) hw
  refine And.elim (fun bg8 hw => ?_) hw
  refine And.elim (fun bg11 hw => ?_) hw
  refine And.elim (fun bg12 hw => ?_) hw
  refine And.elim (fun bg13 hw => ?_) hw
  refine And.elim (fun br hw => ?_) hw
  refine And.elim (fun g_0 hw => ?_) hw
  refine And.elim (fun g_1 hw => ?_) hw
  refine And.elim (fun g_2 hw => ?_) hw
  subst hw
  obtain ⟨hP, hD⟩ := hPD (wB V y pp (up9 (up9 (up9 ff 15 g0) 16 g1) 17 g2) gg (.ref (Yw 0)) o11 ++ wY V y n L Yw wa wb (br9 17 (br9 8 (br9 4 qq (br9 6 (br9 5 qq (lf9 v3)) (br9 7 (lf9 v4) qq))) (br9 12 qq (br9 14 qq (br9 15 (lf9 v5) (br9 16 (lf9 v6) (lf9 v7)))))) qq) (br9 8 (br9 4 (br9 2 (br9 1 (lf9 g8) (lf9 g9)) (br9 3 (lf9 g10) (lf9 g11))) (br9 6 (br9 5 (lf9 g12) (lf9 g13)) (br9 7 ee (lf9 g14)))) ee)) rfl rfl
  rw [← as4] at hP hD
  exact kk r H locs (cells + 0) (slots + 0) _ ⟨pp, (up9 (up9 (up9 ff 15 g0) 16 g1) 17 g2), gg, .ref (Yw 0), o11, _, hp, ht0, ht1, ht2, ht3, ht4, Or.inr ⟨n, L, Yw, wa, wb, (br9 17 (br9 8 (br9 4 qq (br9 6 (br9 5 qq (lf9 v3)) (br9 7 (lf9 v4) qq))) (br9 12 qq (br9 14 qq (br9 15 (lf9 v5) (br9 16 (lf9 v6) (lf9 v7)))))) qq), (br9 8 (br9 4 (br9 2 (br9 1 (lf9 g8) (lf9 g9)) (br9 3 (lf9 g10) (lf9 g11))) (br9 6 (br9 5 (lf9 g12) (lf9 g13)) (br9 7 ee (lf9 g14)))) ee), fr, fm, ⟨hn, hL, hw_q0, bv3, bv4, bv5, bv7, bg8, bg11, bg12, bg13, hw_tYw7, g_0, g_1, g_2⟩, hF, hT, rfl, rfl⟩, rfl⟩ hP hD hS
set_option maxHeartbeats 4000000 in
set_option maxRecDepth 100000 in
theorem cx_30_b {p : Program} {e : Env} {s : State} {m : MethodId} {below : List Frame} {meth : Method} {c : Code} {l : Launch} {b Lk : Nat} {xs : Nat → Int32} {V : GV} {y : Nat → Nat} {τ : Nat → Int32} {H : Heap} {locs : List Loc} {cells slots : Nat} {wz : va_W} {ls : Array Slot} (G : LCx p s m meth c b Lk xs V) (a1 : Int32) (a2 : Int32) (a3 : Int32) {pp : Nat → Int32} {ff : Nat → Nat → Int32} {gg : Nat → Nat → Int64} {n L : Nat} {Yw : Nat → Nat} {wa wb : Nat} {qq : Nat → Int32} {ee : Nat → Nat → Int32} {o11 : Value} {fr : va_W} {fm : Nat} (hp : ivT tX pp) (ht0 : pp 0 = τ 0) (ht1 : pp 15 = τ 1) (ht2 : pp 16 = τ 2) (ht3 : BTs (ff 0) (tauT τ)) (ht4 : (∀ j, iv (-128) 127 ((ff 0) j))) (hW : WFa n L qq ee) (hF : RFo V o11 fr fm) (hT : PTn cells slots n fm (qq 0)) (hq : qq 0 < pp 5) (hg : rfF a1 a2 (-1 : Int32) (pp 5) (pp 36) (pp 38) (pp 40) (pp 42) (gg 0) (gg 1) (gg 2) (gg 3) = 0 ∧ 0 ≤ (a3 : Int32).toInt ∧ (a3 : Int32).toInt < (cntF a1 (pp 36) (pp 38) (pp 40) (pp 42) : Int32).toInt) (hP : va_P V.1 vwCl (wB V y pp ff gg (.ref (Yw 0)) o11 ++ (wY V y n L Yw wa wb qq ee ++ fr) ++ wz) H) (hD : va_D (AAs s) (wB V y pp ff gg (.ref (Yw 0)) o11 ++ (wY V y n L Yw wa wb qq ee ++ fr) ++ wz)) (hS : va_S (AAs s) s.heap H locs) (hlz : ls.size = 4) (kk : (∀ (r : Int32) (H : Heap) (locs : List Loc) (cells slots : Nat) (wx : va_W), KX V y cells slots τ wx → va_P V.1 vwCl (wx ++ wz) H → va_D (AAs s) (wx ++ wz) → va_S (AAs s) s.heap H locs → W p l e room_1 s m #[Value.ref b] below meth c H locs cells slots (lw_Z below #[Value.ref b] s) (F0 m 1043 ls [.int r]))) : W p l e room_1 s m #[Value.ref b] below meth c H locs cells slots (lw_Z below #[Value.ref b] s) (F0 m 1040 ls [.int a3, .int a2, .int a1, .ref (y 0)]) := by
  obtain ⟨hn, hL, hw_q0, hw_q5, hw_q6, hw_q14, hw_q16, hw_tYw1, hw_tYw4, hw_tYw5, hw_tYw6, hw_tYw7, hw_WA, hw_WB, hw_WC⟩ := id hW
  have hTB := PTn_B 10 46481 hT hw_q0 (hp 5) hq (by decide) (by decide)
  rw [as4] at hP hD
  refine cXI (X := wB V y pp ff gg (.ref (Yw 0)) o11 ++ wY V y n L Yw wa wb qq ee) (pl := fr ++ wz) (wr := [(y 1, aB V 900 (ff 0)), (y 4, aI V 4 (ff 2)), (y 5, aI V 4 (ff 3)), (y 6, aI V 8 (ff 4)), (y 7, aI V 8 (ff 5)), (y 8, aI V 8 (ff 6)), (y 10, .inr (6, [.ref (y 11), .int (pp 15), .int (pp 16), .ref (y 1), .int (pp 17), .int (pp 18), .int (pp 19), .int (pp 20), .int (pp 21)])), (y 11, .inr (1, [.int (pp 22), .int (pp 23), .int (pp 24), .int (pp 25), .int (pp 26), .int (pp 27), .ref (y 12), .ref (y 13), .ref (y 14), .ref (y 15), .ref (y 16), .ref (y 17), .ref (y 18), .int (pp 28), .int (pp 29), .int (pp 30), .int (pp 31), .int (pp 32)])), (y 12, aI V 4 (ff 8)), (y 13, aI V 4 (ff 9)), (y 14, aI V 4 (ff 10)), (y 15, aI V 8 (ff 11)), (y 16, aI V 8 (ff 12)), (y 17, aI V 8 (ff 13)), (y 18, aI V 900 (ff 14)), (y 23, aI V 10 (ff 18)), (y 24, aI V 10 (ff 19)), (y 25, .inr (0, [.int (pp 33), .int (pp 34)])), (y 26, .inr (5, [.ref (y 27), .ref (y 28), .ref (y 29), .int (pp 35)])), (y 27, aI V 10 (ff 20)), (y 28, aI V 10 (ff 21)), (y 29, aI V 10 (ff 22)), (y 31, aM V 2 (va_up (va_up (fun _ => none) 0 (some (y 41))) 1 (some (y 50)))), (y 32, aI V 10 (ff 23)), (y 41, .inr (3, [.ref (y 42), .int (pp 44), .int (pp 45), .int (pp 46), .int (pp 47)])), (y 42, .inr (1, [.int (pp 48), .int (pp 49), .int (pp 50), .int (pp 51), .int (pp 52), .int (pp 53), .ref (y 43), .ref (y 44), .ref (y 45), .ref (y 46), .ref (y 47), .ref (y 48), .ref (y 49), .int (pp 54), .int (pp 55), .int (pp 56), .int (pp 57), .int (pp 58)])), (y 43, aI V 4 (ff 24)), (y 44, aI V 4 (ff 25)), (y 45, aI V 4 (ff 26)), (y 46, aI V 8 (ff 27)), (y 47, aI V 8 (ff 28)), (y 48, aI V 8 (ff 29)), (y 49, aI V 900 (ff 30)), (y 50, .inr (3, [.ref (y 51), .int (pp 59), .int (pp 60), .int (pp 61), .int (pp 62)])), (y 51, .inr (1, [.int (pp 63), .int (pp 64), .int (pp 65), .int (pp 66), .int (pp 67), .int (pp 68), .ref (y 52), .ref (y 53), .ref (y 54), .ref (y 55), .ref (y 56), .ref (y 57), .ref (y 58), .int (pp 69), .int (pp 70), .int (pp 71), .int (pp 72), .int (pp 73)])), (y 52, aI V 4 (ff 31)), (y 53, aI V 4 (ff 32)), (y 54, aI V 4 (ff 33)), (y 55, aI V 8 (ff 34)), (y 56, aI V 8 (ff 35)), (y 57, aI V 8 (ff 36)), (y 58, aI V 900 (ff 37))]) (rest := []) G (k_X9_highBy_3 l V n L Yw y a1 a2 a3 (pp 0) o11 (pp 1) (pp 2) (pp 3) (pp 4) (pp 5) (pp 6) (pp 7) (pp 8) (pp 9) (pp 10) (pp 11) (pp 12) (pp 13) (pp 14) (ff 1) (ff 7) (ff 15) (ff 16) (ff 17) (pp 36) (pp 37) (gg 0) (pp 38) (pp 39) (gg 1) (pp 40) (pp 41) (gg 2) (pp 42) (pp 43) (gg 3) (qq 0) wa (qq 5) (qq 6) wb (qq 14) (qq 15) (qq 16) (ee 0) (ee 1) (ee 2) (ee 3) (ee 4) (ee 5) (ee 6) (ee 7) (ee 8) hn hL hq (hp 0) (hp 5) (hp 6) (hp 7) (hp 10) (hp 11) (hp 12) (hp 13) (hp 14) (hp 36) (hp 38) (hp 40) (hp 42) hw_q0 hw_q5 hw_q6 hw_q14 hw_q16 hw_tYw1 hw_tYw4 hw_tYw5 hw_tYw6 hw_tYw7 hw_WA hw_WB hw_WC hg.1 hg.2.1 hg.2.2) mt_X9_highBy q_5_35 ⟨Nat.le_of_ble_eq_true rfl, Nat.le_of_ble_eq_true rfl⟩ hP hD hS [0, 2, 3, 9, 19, 20, 21, 22, 30, 33, 34, 35, 36, 37, 38, 39, 40, 59, 60, 61, 62, 63, 64, 65, 66, 67, 68] [1, 4, 5, 6, 7, 8, 10, 11, 12, 13, 14, 15, 16, 17, 18, 23, 24, 25, 26, 27, 28, 29, 31, 32, 41, 42, 43, 44, 45, 46, 47, 48, 49, 50, 51, 52, 53, 54, 55, 56, 57, 58] (by decide +kernel) rfl rfl (by decide +kernel) (by decide +kernel) 0 rfl rfl rfl rfl hlz rfl (Nat.le_of_ble_eq_true rfl) dL_law_1040 hTB.1 (fun r w H locs hw hP hD hS => ?_)
  refine Exists.elim hw (fun n1 hw => ?_)
  refine Exists.elim hw (fun L1 hw => ?_)
  refine Exists.elim hw (fun Yw1 hw => ?_)
  refine Exists.elim hw (fun wa1 hw => ?_)
  refine Exists.elim hw (fun wb1 hw => ?_)
  refine Exists.elim hw (fun g0 hw => ?_)
  refine Exists.elim hw (fun g1 hw => ?_)
  refine Exists.elim hw (fun g2 hw => ?_)
  refine Exists.elim hw (fun ww0 hw => ?_)
  refine Exists.elim hw (fun ww5 hw => ?_)
  refine Exists.elim hw (fun ww6 hw => ?_)
  refine Exists.elim hw (fun ww14 hw => ?_)
  refine Exists.elim hw (fun ww15 hw => ?_)
  refine Exists.elim hw (fun ww16 hw => ?_)
  refine Exists.elim hw (fun wew1 hw => ?_)
  refine Exists.elim hw (fun wew2 hw => ?_)
  refine Exists.elim hw (fun wew3 hw => ?_)
  refine Exists.elim hw (fun wew4 hw => ?_)
  refine Exists.elim hw (fun wew5 hw => ?_)
  refine Exists.elim hw (fun wew6 hw => ?_)
  refine Exists.elim hw (fun wew7 hw => ?_)
  refine Exists.elim hw (fun wew8 hw => ?_)
  refine Exists.elim hw (fun wew9 hw => ?_)
  refine And.elim (fun hn1 hw => ?_) hw
  refine And.elim (fun hL1 hw => ?_) hw
  refine And.elim (fun bww0 hw => ?_) hw
  refine And.elim (fun bww5 hw => ?_) hw
  refine And.elim (fun bww6 hw => ?_) hw
  refine And.elim (fun bww14 hw => ?_) hw
  refine And.elim (fun bww16 hw => ?_) hw
  refine And.elim (fun bwew1 hw => ?_) hw
  refine And.elim (fun bwew4 hw => ?_) hw
  refine And.elim (fun bwew5 hw => ?_) hw
  refine And.elim (fun bwew6 hw => ?_) hw
  refine And.elim (fun bwew7 hw => ?_) hw
  refine And.elim (fun br hw => ?_) hw
  refine And.elim (fun g_0 hw => ?_) hw
  refine And.elim (fun g_1 hw => ?_) hw
  refine And.elim (fun g_2 hw => ?_) hw
  refine And.elim (fun g_3 hw => ?_) hw
  subst hw
  have hP := ptP (ws' := wB V y pp (up9 (up9 (up9 ff 15 g0) 16 g1) 17 g2) gg (.ref (Yw1 0)) o11 ++ wY V y n1 L1 Yw1 wa1 wb1 (br9 17 (br9 8 (br9 4 (br9 2 (br9 1 (lf9 ww0) (fun _ => 0)) (fun _ => 0)) (br9 6 (br9 5 (fun _ => 0) (lf9 ww5)) (br9 7 (lf9 ww6) (fun _ => 0)))) (br9 12 (fun _ => 0) (br9 14 (fun _ => 0) (br9 15 (lf9 ww14) (br9 16 (lf9 ww15) (lf9 ww16)))))) (fun _ => 0)) (br9 9 (br9 4 (br9 2 (br9 1 (lf9 wew1) (lf9 wew2)) (br9 3 (lf9 wew3) (lf9 wew4))) (br9 6 (br9 5 (lf9 wew5) (lf9 wew6)) (br9 7 (lf9 wew7) (br9 8 (lf9 wew8) (lf9 wew9))))) (fun _ _ => 0))) hP [42, 0, 43, 44, 1, 2, 3, 4, 5, 45, 6, 7, 8, 9, 10, 11, 12, 13, 14, 46, 47, 48, 49, 15, 16, 17, 18, 19, 20, 21, 50, 22, 23, 51, 52, 53, 54, 55, 56, 57, 58, 24, 25, 26, 27, 28, 29, 30, 31, 32, 33, 34, 35, 36, 37, 38, 39, 40, 41, 59, 60, 61, 62, 63, 64, 65, 66, 67, 68] rfl
  have hD := hD.part (cx := wB V y pp (up9 (up9 (up9 ff 15 g0) 16 g1) 17 g2) gg (.ref (Yw1 0)) o11 ++ wY V y n1 L1 Yw1 wa1 wb1 (br9 17 (br9 8 (br9 4 (br9 2 (br9 1 (lf9 ww0) (fun _ => 0)) (fun _ => 0)) (br9 6 (br9 5 (fun _ => 0) (lf9 ww5)) (br9 7 (lf9 ww6) (fun _ => 0)))) (br9 12 (fun _ => 0) (br9 14 (fun _ => 0) (br9 15 (lf9 ww14) (br9 16 (lf9 ww15) (lf9 ww16)))))) (fun _ => 0)) (br9 9 (br9 4 (br9 2 (br9 1 (lf9 wew1) (lf9 wew2)) (br9 3 (lf9 wew3) (lf9 wew4))) (br9 6 (br9 5 (lf9 wew5) (lf9 wew6)) (br9 7 (lf9 wew7) (br9 8 (lf9 wew8) (lf9 wew9))))) (fun _ _ => 0))) [42, 0, 43, 44, 1, 2, 3, 4, 5, 45, 6, 7, 8, 9, 10, 11, 12, 13, 14, 46, 47, 48, 49, 15, 16, 17, 18, 19, 20, 21, 50, 22, 23, 51, 52, 53, 54, 55, 56, 57, 58, 24, 25, 26, 27, 28, 29, 30, 31, 32, 33, 34, 35, 36, 37, 38, 39, 40, 41, 59, 60, 61, 62, 63, 64, 65, 66, 67, 68] (by decide +kernel) rfl
  rw [← as4] at hP hD
  exact kk r H locs (cells + 10) (slots + 46481) _ ⟨pp, (up9 (up9 (up9 ff 15 g0) 16 g1) 17 g2), gg, .ref (Yw1 0), o11, _, hp, ht0, ht1, ht2, ht3, ht4, Or.inr ⟨n1, L1, Yw1, wa1, wb1, (br9 17 (br9 8 (br9 4 (br9 2 (br9 1 (lf9 ww0) (fun _ => 0)) (fun _ => 0)) (br9 6 (br9 5 (fun _ => 0) (lf9 ww5)) (br9 7 (lf9 ww6) (fun _ => 0)))) (br9 12 (fun _ => 0) (br9 14 (fun _ => 0) (br9 15 (lf9 ww14) (br9 16 (lf9 ww15) (lf9 ww16)))))) (fun _ => 0)), (br9 9 (br9 4 (br9 2 (br9 1 (lf9 wew1) (lf9 wew2)) (br9 3 (lf9 wew3) (lf9 wew4))) (br9 6 (br9 5 (lf9 wew5) (lf9 wew6)) (br9 7 (lf9 wew7) (br9 8 (lf9 wew8) (lf9 wew9))))) (fun _ _ => 0)), fr, fm, ⟨hn1, hL1, bww0, bww5, bww6, bww14, bww16, bwew1, bwew4, bwew5, bwew6, bwew7, g_0, g_1, g_2⟩, hF, (show PTn _ _ _ _ ww0 from by rw [g_3]; exact hTB.2 n1 fm), rfl, rfl⟩, rfl⟩ hP hD hS
