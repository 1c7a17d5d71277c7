set_option maxHeartbeats 4000000 in
set_option maxRecDepth 100000 in
theorem cx_30 {p : Program} {e : Env} {s : State} {m : MethodId} {below : List Frame} {meth : Method} {c : Code} {l : Launch} {b Lk : Nat} {xs : Nat → Int32} {V : GV} {y : Nat → Nat} {τ : Nat → Int32} {H : Heap} {locs : List Loc} {cells slots : Nat} {wz : va_W} {ls : Array Slot} (G : LCx p s m meth c b Lk xs V) (a1 : Int32) (a2 : Int32) (a3 : Int32) {wx : va_W} (kx : KX V y cells slots τ wx) (hP : va_P V.1 vwCl (wx ++ wz) H) (hD : va_D (AAs s) (wx ++ wz)) (hS : va_S (AAs s) s.heap H locs) (hlz : ls.size = 4) (kk : (∀ (r : Int32) (H : Heap) (locs : List Loc) (cells slots : Nat) (wx : va_W), KX V y cells slots τ wx → va_P V.1 vwCl (wx ++ wz) H → va_D (AAs s) (wx ++ wz) → va_S (AAs s) s.heap H locs → W p l e room_1 s m #[Value.ref b] below meth c H locs cells slots (lw_Z below #[Value.ref b] s) (F0 m 1043 ls [.int r]))) : W p l e room_1 s m #[Value.ref b] below meth c H locs cells slots (lw_Z below #[Value.ref b] s) (F0 m 1040 ls [.int a3, .int a2, .int a1, .ref (y 0)]) := by
  obtain ⟨pp, ff, gg, o10, o11, rest, hp, ht0, ht1, ht2, ht3, ht4, hR, rfl⟩ := kx
  by_cases hg : rfF a1 a2 (-1 : Int32) (pp 5) (pp 36) (pp 38) (pp 40) (pp 42) (gg 0) (gg 1) (gg 2) (gg 3) = 0 ∧ 0 ≤ (a3 : Int32).toInt ∧ (a3 : Int32).toInt < (cntF a1 (pp 36) (pp 38) (pp 40) (pp 42) : Int32).toInt
  · rcases hR with ⟨rfl, rfl, rfl, hc⟩ | ⟨n, L, Yw, wa, wb, qq, ee, fr, fm, hW, hF, hT, rfl, rfl⟩
    · exact cx_30_0 G _ _ _ hp ht0 ht1 ht2 ht3 ht4 hc hg hP hD hS hlz kk
    · rcases Classical.em (pp 5 ≤ qq 0) with hq | hq
      · exact cx_30_a G _ _ _ hp ht0 ht1 ht2 ht3 ht4 hW hF hT hq hP hD hS hlz kk
      · replace hq := Int32.not_le.mp hq
        exact cx_30_b G _ _ _ hp ht0 ht1 ht2 ht3 ht4 hW hF hT hq hg hP hD hS hlz kk
  · exact cx_30_e G _ _ _ hp ht0 ht1 ht2 ht3 ht4 hR hg hP hD hS hlz kk
theorem q_8_68 : Cond.code yX10_highBy prog_12_method_111_code 8 (some FieldType.int) ∈ gw := gw_8 (i := 68) (rfl) rfl
theorem q_8_66 : Cond.instanceMethod yX10_highBy ∈ gw := gw_8 (i := 66) (by decide +kernel) rfl
theorem q_8_67 : Cond.selects "BeaconDelayModel" yX10_highBy yX10_highBy ∈ gw := gw_8 (i := 67) (by decide +kernel) rfl
theorem mt_X10_highBy : MtV yX10_highBy cX10_highBy 8 (some .int) 3 := ⟨⟨q_8_68, q_1_9, by decide +kernel, by decide +kernel, by decide +kernel⟩, q_8_66, q_8_67⟩
theorem q_8_65 : Cond.methodLink "BeaconDelayLaw" 143 yX10_highBy ∈ gw := gw_8 (i := 65) (by decide +kernel) rfl
theorem dL_law_1060 : decode cL_law 1060 = .ok (.invokevirtual 143, 3) := by decide +kernel
set_option maxHeartbeats 4000000 in
set_option maxRecDepth 100000 in
theorem cz_30 {p : Program} {e : Env} {s : State} {m : MethodId} {below : List Frame} {meth : Method} {c : Code} {l : Launch} {b Lk : Nat} {xs : Nat → Int32} {V : GV} {z : Nat → Nat} {τ : Nat → Int32} {H : Heap} {locs : List Loc} {cells slots : Nat} {wx : va_W} {ls : Array Slot} {rest : List Value} (G : LCx p s m meth c b Lk xs V) (a1 : Int32) (a2 : Int32) (a3 : Int32) {wz : va_W} (kz : KZ V z τ wz) (hP : va_P V.1 vwCl (wx ++ wz) H) (hD : va_D (AAs s) (wx ++ wz)) (hS : va_S (AAs s) s.heap H locs) (hcs : cells + 0 ≤ 600000 ∧ slots + 0 ≤ 7302250) (hro : (rest.map fun v => v.category).sum ≤ 8) (hlz : ls.size = 4) (kk : (∀ (r : Int32) (H : Heap) (locs : List Loc) (wz : va_W), KZ V z τ wz → va_P V.1 vwCl (wx ++ wz) H → va_D (AAs s) (wx ++ wz) → va_S (AAs s) s.heap H locs → W p l e room_1 s m #[Value.ref b] below meth c H locs cells slots (lw_Z below #[Value.ref b] s) (F0 m 1063 ls (.int r :: rest)))) : W p l e room_1 s m #[Value.ref b] below meth c H locs cells slots (lw_Z below #[Value.ref b] s) (F0 m 1060 ls (.int a3 :: .int a2 :: .int a1 :: .ref (z 0) :: rest)) := by
  obtain ⟨pz, fz, gz, hp, ht0, ht1, ht2, ht3, hz_tz1, hz_tz3, hz_tz4, hz_tz16, hz_tz17, hz_tz20, hz_tz21, hz_tz24, hz_tz25, hz_tz26, hz_tz27, hz_tz33, hz_tz34, hz_tz37, hz_tz38, hz_RW, rfl⟩ := kz
  replace hP := swP hP
  replace hD := swD hD
  refine cSI (X := wZ V z pz fz gz) (pl := wx) (rest := rest) G (k_X10_highBy_0 l V z a1 a2 a3 (pz 0) (pz 5) (pz 6) (pz 7) (pz 8) (pz 9) (pz 10) (pz 11) (pz 12) (pz 13) (pz 14) (pz 18) (pz 19) (pz 22) (pz 23) (pz 29) (fz 0) (fz 4) (fz 5) (fz 9) (fz 10) (fz 13) (gz 2) (fz 18) (fz 19) (gz 3) (hp 5) (hp 6) (hp 7) (hp 8) (hp 10) (hp 11) (hp 12) (hp 13) (hp 14) (hp 18) (hp 22) (hp 29) hz_tz1 hz_tz16 hz_tz24 hz_tz25 hz_tz37 hz_tz38 hz_RW) mt_X10_highBy q_8_65 ⟨Nat.le_of_ble_eq_true rfl, Nat.le_of_ble_eq_true rfl⟩ hP hD hS [0, 1, 5, 6, 10, 11, 14, 20, 22, 23, 24] [0, 0, 3, 0, 3, 0, 2, 5, 1, 0, 0] (by decide) (by decide +kernel) rfl 0 rfl rfl rfl rfl hlz rfl hro dL_law_1060 hcs (fun r w H locs hw hPD hS => ?_)
  refine Exists.elim hw (fun v0 hw => ?_)
  refine Exists.elim hw (fun v1 hw => ?_)
  refine Exists.elim hw (fun g2 hw => ?_)
  refine Exists.elim hw (fun g3 hw => ?_)
  refine Exists.elim hw (fun g4 hw => ?_)
  refine Exists.elim hw (fun g5 hw => ?_)
  refine Exists.elim hw (fun g6 hw => ?_)
  refine Exists.elim hw (fun g7 hw => ?_)
  refine And.elim (fun bv1 hw => ?_) hw
  refine And.elim (fun bg3 hw => ?_) hw
  refine And.elim (fun bg4 hw => ?_) hw
  refine And.elim (fun bg5 hw => ?_) hw
  refine And.elim (fun br hw => ?_) hw
  refine And.elim (fun g_0 hw => ?_) hw
  subst hw
  obtain ⟨hP, hD⟩ := hPD (wZ V z (up9 (up9 pz 0 v0) 29 v1) (br9 14 (br9 7 (br9 3 fz (br9 5 (br9 4 fz (lf9 g2)) (br9 6 (lf9 g3) fz))) (br9 10 (br9 8 fz (br9 9 fz (lf9 g4))) (br9 12 (br9 11 (lf9 g5) fz) (br9 13 fz (lf9 g6))))) fz) (up9 gz 2 g7)) rfl rfl
  replace hP := swP hP
  replace hD := swD hD
  exact kk r H locs _ ⟨(up9 (up9 pz 0 v0) 29 v1), (br9 14 (br9 7 (br9 3 fz (br9 5 (br9 4 fz (lf9 g2)) (br9 6 (lf9 g3) fz))) (br9 10 (br9 8 fz (br9 9 fz (lf9 g4))) (br9 12 (br9 11 (lf9 g5) fz) (br9 13 fz (lf9 g6))))) fz), (up9 gz 2 g7), (ivUp 29 (ivUp 0 hp (iv_top v0)) bv1), ht0, ht1, ht2, ht3, hz_tz1, hz_tz3, hz_tz4, bg3, hz_tz17, hz_tz20, hz_tz21, bg4, bg5, hz_tz26, hz_tz27, hz_tz33, hz_tz34, hz_tz37, hz_tz38, g_0, rfl⟩ hP hD hS
theorem q_5_58 : Cond.code yX9_fogs prog_1_method_55_code 6 (some FieldType.int) ∈ gw := gw_5 (i := 58) (rfl) rfl
theorem q_5_56 : Cond.instanceMethod yX9_fogs ∈ gw := gw_5 (i := 56) (by decide +kernel) rfl
theorem q_5_57 : Cond.selects "BeaconDelay" yX9_fogs yX9_fogs ∈ gw := gw_5 (i := 57) (by decide +kernel) rfl
theorem mt_X9_fogs : MtV yX9_fogs cX9_fogs 6 (some .int) 3 := ⟨⟨q_5_58, q_1_1, by decide +kernel, by decide +kernel, by decide +kernel⟩, q_5_56, q_5_57⟩
theorem q_5_55 : Cond.methodLink "BeaconDelayLaw" 144 yX9_fogs ∈ gw := gw_5 (i := 55) (by decide +kernel) rfl
theorem dL_law_1083 : decode cL_law 1083 = .ok (.invokevirtual 144, 3) := by decide +kernel
set_option maxHeartbeats 4000000 in
set_option maxRecDepth 100000 in
theorem cx_31_e {p : Program} {e : Env} {s : State} {m : MethodId} {below : List Frame} {meth : Method} {c : Code} {l : Launch} {b Lk : Nat} {xs : Nat → Int32} {V : GV} {y : Nat → Nat} {τ : Nat → Int32} {H : Heap} {locs : List Loc} {cells slots : Nat} {wz : va_W} {ls : Array Slot} (G : LCx p s m meth c b Lk xs V) (a1 : Int32) (a2 : Int32) (a3 : Int32) {pp : Nat → Int32} {ff : Nat → Nat → Int32} {gg : Nat → Nat → Int64} {o10 o11 : Value} {rest : va_W} (hp : ivT tX pp) (ht0 : pp 0 = τ 0) (ht1 : pp 15 = τ 1) (ht2 : pp 16 = τ 2) (ht3 : BTs (ff 0) (tauT τ)) (ht4 : (∀ j, iv (-128) 127 ((ff 0) j))) (hR : RRo V y cells slots o10 o11 rest) (hg : ¬ (rfF a1 a2 (-1 : Int32) (pp 5) (pp 36) (pp 38) (pp 40) (pp 42) (gg 0) (gg 1) (gg 2) (gg 3) = 0 ∧ 0 ≤ (a3 : Int32).toInt ∧ (a3 : Int32).toInt < (cntF a1 (pp 36) (pp 38) (pp 40) (pp 42) : Int32).toInt)) (hP : va_P V.1 vwCl (wB V y pp ff gg o10 o11 ++ rest ++ wz) H) (hD : va_D (AAs s) (wB V y pp ff gg o10 o11 ++ rest ++ wz)) (hS : va_S (AAs s) s.heap H locs) (hlz : ls.size = 4) (kk : (∀ (r : Int32) (H : Heap) (locs : List Loc) (cells slots : Nat) (wx : va_W), KX V y cells slots τ wx → va_P V.1 vwCl (wx ++ wz) H → va_D (AAs s) (wx ++ wz) → va_S (AAs s) s.heap H locs → W p l e room_1 s m #[Value.ref b] below meth c H locs cells slots (lw_Z below #[Value.ref b] s) (F0 m 1086 ls [.int r]))) : W p l e room_1 s m #[Value.ref b] below meth c H locs cells slots (lw_Z below #[Value.ref b] s) (F0 m 1083 ls [.int a3, .int a2, .int a1, .ref (y 0)]) := by
  rw [as3] at hP hD
  refine cSI (X := wB V y pp ff gg o10 o11) (pl := rest ++ wz) (rest := []) G (k_X9_fogs_1 l V y a1 a2 a3 (pp 0) o10 o11 (pp 1) (pp 2) (pp 3) (pp 4) (pp 5) (pp 6) (pp 7) (pp 8) (pp 9) (pp 10) (pp 11) (pp 12) (pp 13) (pp 14) (pp 36) (pp 37) (gg 0) (pp 38) (pp 39) (gg 1) (pp 40) (pp 41) (gg 2) (pp 42) (pp 43) (gg 3) (hp 0) (hp 5) (hp 6) (hp 7) (hp 10) (hp 11) (hp 12) (hp 13) (hp 14) (hp 36) (hp 38) (hp 40) (hp 42) hg) mt_X9_fogs q_5_55 ⟨Nat.le_of_ble_eq_true rfl, Nat.le_of_ble_eq_true rfl⟩ hP hD hS [0, 2, 30, 33, 34, 35, 36, 37, 38, 39, 40] [0, 1, 27, 2, 0, 0, 0, 0, 0, 0, 0] (by decide) (by decide +kernel) rfl 0 rfl rfl rfl rfl hlz rfl (Nat.le_of_ble_eq_true rfl) dL_law_1083 hR.room (fun r w H locs hw hPD hS => ?_)
  refine And.elim (fun br hw => ?_) hw
  subst hw
  obtain ⟨hP, hD⟩ := hPD (wB V y pp ff gg o10 o11) rfl rfl
  rw [← as3] at hP hD
  exact kk r H locs (cells + 0) (slots + 0) _ ⟨pp, ff, gg, o10, o11, rest, hp, ht0, ht1, ht2, ht3, ht4, hR, rfl⟩ hP hD hS
set_option maxHeartbeats 4000000 in
set_option maxRecDepth 100000 in
theorem cx_31_0 {p : Program} {e : Env} {s : State} {m : MethodId} {below : List Frame} {meth : Method} {c : Code} {l : Launch} {b Lk : Nat} {xs : Nat → Int32} {V : GV} {y : Nat → Nat} {τ : Nat → Int32} {H : Heap} {locs : List Loc} {cells slots : Nat} {wz : va_W} {ls : Array Slot} (G : LCx p s m meth c b Lk xs V) (a1 : Int32) (a2 : Int32) (a3 : Int32) {pp : Nat → Int32} {ff : Nat → Nat → Int32} {gg : Nat → Nat → Int64} (hp : ivT tX pp) (ht0 : pp 0 = τ 0) (ht1 : pp 15 = τ 1) (ht2 : pp 16 = τ 2) (ht3 : BTs (ff 0) (tauT τ)) (ht4 : (∀ j, iv (-128) 127 ((ff 0) j))) (hc : cells + 116 ≤ 600000 ∧ slots + 633553 ≤ 7302250) (hg : rfF a1 a2 (-1 : Int32) (pp 5) (pp 36) (pp 38) (pp 40) (pp 42) (gg 0) (gg 1) (gg 2) (gg 3) = 0 ∧ 0 ≤ (a3 : Int32).toInt ∧ (a3 : Int32).toInt < (cntF a1 (pp 36) (pp 38) (pp 40) (pp 42) : Int32).toInt) (hP : va_P V.1 vwCl (wB V y pp ff gg .null .null ++ [] ++ wz) H) (hD : va_D (AAs s) (wB V y pp ff gg .null .null ++ [] ++ wz)) (hS : va_S (AAs s) s.heap H locs) (hlz : ls.size = 4) (kk : (∀ (r : Int32) (H : Heap) (locs : List Loc) (cells slots : Nat) (wx : va_W), KX V y cells slots τ wx → va_P V.1 vwCl (wx ++ wz) H → va_D (AAs s) (wx ++ wz) → va_S (AAs s) s.heap H locs → W p l e room_1 s m #[Value.ref b] below meth c H locs cells slots (lw_Z below #[Value.ref b] s) (F0 m 1086 ls [.int r]))) : W p l e room_1 s m #[Value.ref b] below meth c H locs cells slots (lw_Z below #[Value.ref b] s) (F0 m 1083 ls [.int a3, .int a2, .int a1, .ref (y 0)]) := by
  refine cXI (X := wB V y pp ff gg .null .null ++ []) (pl := wz) (wr := [(y 1, aB V 900 (ff 0)), (y 4, aI V 4 (ff 2)), (y 5, aI V 4 (ff 3)), (y 6, aI V 8 (ff 4)), (y 7, aI V 8 (ff 5)), (y 8, aI V 8 (ff 6)), (y 10, .inr (6, [.ref (y 11), .int (pp 15), .int (pp 16), .ref (y 1), .int (pp 17), .int (pp 18), .int (pp 19), .int (pp 20), .int (pp 21)])), (y 11, .inr (1, [.int (pp 22), .int (pp 23), .int (pp 24), .int (pp 25), .int (pp 26), .int (pp 27), .ref (y 12), .ref (y 13), .ref (y 14), .ref (y 15), .ref (y 16), .ref (y 17), .ref (y 18), .int (pp 28), .int (pp 29), .int (pp 30), .int (pp 31), .int (pp 32)])), (y 12, aI V 4 (ff 8)), (y 13, aI V 4 (ff 9)), (y 14, aI V 4 (ff 10)), (y 15, aI V 8 (ff 11)), (y 16, aI V 8 (ff 12)), (y 17, aI V 8 (ff 13)), (y 18, aI V 900 (ff 14)), (y 23, aI V 10 (ff 18)), (y 24, aI V 10 (ff 19)), (y 25, .inr (0, [.int (pp 33), .int (pp 34)])), (y 26, .inr (5, [.ref (y 27), .ref (y 28), .ref (y 29), .int (pp 35)])), (y 27, aI V 10 (ff 20)), (y 28, aI V 10 (ff 21)), (y 29, aI V 10 (ff 22)), (y 31, aM V 2 (va_up (va_up (fun _ => none) 0 (some (y 41))) 1 (some (y 50)))), (y 32, aI V 10 (ff 23)), (y 41, .inr (3, [.ref (y 42), .int (pp 44), .int (pp 45), .int (pp 46), .int (pp 47)])), (y 42, .inr (1, [.int (pp 48), .int (pp 49), .int (pp 50), .int (pp 51), .int (pp 52), .int (pp 53), .ref (y 43), .ref (y 44), .ref (y 45), .ref (y 46), .ref (y 47), .ref (y 48), .ref (y 49), .int (pp 54), .int (pp 55), .int (pp 56), .int (pp 57), .int (pp 58)])), (y 43, aI V 4 (ff 24)), (y 44, aI V 4 (ff 25)), (y 45, aI V 4 (ff 26)), (y 46, aI V 8 (ff 27)), (y 47, aI V 8 (ff 28)), (y 48, aI V 8 (ff 29)), (y 49, aI V 900 (ff 30)), (y 50, .inr (3, [.ref (y 51), .int (pp 59), .int (pp 60), .int (pp 61), .int (pp 62)])), (y 51, .inr (1, [.int (pp 63), .int (pp 64), .int (pp 65), .int (pp 66), .int (pp 67), .int (pp 68), .ref (y 52), .ref (y 53), .ref (y 54), .ref (y 55), .ref (y 56), .ref (y 57), .ref (y 58), .int (pp 69), .int (pp 70), .int (pp 71), .int (pp 72), .int (pp 73)])), (y 52, aI V 4 (ff 31)), (y 53, aI V 4 (ff 32)), (y 54, aI V 4 (ff 33)), (y 55, aI V 8 (ff 34)), (y 56, aI V 8 (ff 35)), (y 57, aI V 8 (ff 36)), (y 58, aI V 900 (ff 37))]) (rest := []) G (k_X9_fogs_2 l V y a1 a2 a3 (pp 0) (.null) (pp 1) (pp 2) (pp 3) (pp 4) (pp 5) (pp 6) (pp 7) (pp 8) (pp 9) (pp 10) (pp 11) (pp 12) (pp 13) (pp 14) (ff 1) (ff 7) (ff 15) (ff 16) (ff 17) (pp 36) (pp 37) (gg 0) (pp 38) (pp 39) (gg 1) (pp 40) (pp 41) (gg 2) (pp 42) (pp 43) (gg 3) (hp 0) (hp 5) (hp 6) (hp 7) (hp 10) (hp 11) (hp 12) (hp 13) (hp 14) (hp 36) (hp 38) (hp 40) (hp 42) hg.1 hg.2.1 hg.2.2) mt_X9_fogs q_5_55 ⟨Nat.le_of_ble_eq_true rfl, Nat.le_of_ble_eq_true rfl⟩ hP hD hS [0, 2, 3, 9, 19, 20, 21, 22, 30, 33, 34, 35, 36, 37, 38, 39, 40] [1, 4, 5, 6, 7, 8, 10, 11, 12, 13, 14, 15, 16, 17, 18, 23, 24, 25, 26, 27, 28, 29, 31, 32, 41, 42, 43, 44, 45, 46, 47, 48, 49, 50, 51, 52, 53, 54, 55, 56, 57, 58] (by decide +kernel) rfl rfl (by decide +kernel) (by decide +kernel) 0 rfl rfl rfl rfl hlz rfl (Nat.le_of_ble_eq_true rfl) dL_law_1083 (by omega) (fun r w H locs hw hP hD hS => ?_)
  refine Exists.elim hw (fun n1 hw => ?_)
  refine Exists.elim hw (fun L1 hw => ?_)
  refine Exists.elim hw (fun Yw1 hw => ?_)
  refine Exists.elim hw (fun wa1 hw => ?_)
  refine Exists.elim hw (fun wb1 hw => ?_)
  refine Exists.elim hw (fun g0 hw => ?_)
  refine Exists.elim hw (fun g1 hw => ?_)
  refine Exists.elim hw (fun g2 hw => ?_)
  refine Exists.elim hw (fun ww0 hw => ?_)
  refine Exists.elim hw (fun ww5 hw => ?_)
  refine Exists.elim hw (fun ww6 hw => ?_)
  refine Exists.elim hw (fun ww14 hw => ?_)
  refine Exists.elim hw (fun ww15 hw => ?_)
  refine Exists.elim hw (fun ww16 hw => ?_)
  refine Exists.elim hw (fun wew1 hw => ?_)
  refine Exists.elim hw (fun wew2 hw => ?_)
  refine Exists.elim hw (fun wew3 hw => ?_)
  refine Exists.elim hw (fun wew4 hw => ?_)
  refine Exists.elim hw (fun wew5 hw => ?_)
  refine Exists.elim hw (fun wew6 hw => ?_)
  refine Exists.elim hw (fun wew7 hw => ?_)
  refine Exists.elim hw (fun wew8 hw => ?_)
  refine Exists.elim hw (fun wew9 hw => ?_)
  refine And.elim (fun hn1 hw => ?_) hw
  refine And.elim (fun hL1 hw => ?_) hw
  refine And.elim (fun bww0 hw => ?_) hw
  refine And.elim (fun bww5 hw => ?_) hw
  refine And.elim (fun bww6 hw => ?_) hw
  refine And.elim (fun bww14 hw => ?_) hw
  refine And.elim (fun bww16 hw => ?_) hw
  refine And.elim (fun bwew1 hw => ?_) hw
  refine And.elim (fun bwew4 hw => ?_) hw
  refine And.elim (fun bwew5 hw => ?_) hw
  refine And.elim (fun bwew6 hw => ?_) hw
  refine And.elim (fun bwew7 hw => ?_) hw
  refine And.elim (fun g_0 hw => ?_) hw
  refine And.elim (fun g_1 hw => ?_) hw
  refine And.elim (fun g_2 hw => ?_) hw
  refine And.elim (fun g_3 hw => ?_) hw
  subst hw
  have hP := ptP (ws' := wB V y pp (up9 (up9 (up9 ff 15 g0) 16 g1) 17 g2) gg (.ref (Yw1 0)) .null ++ (wY V y n1 L1 Yw1 wa1 wb1 (br9 17 (br9 8 (br9 4 (br9 2 (br9 1 (lf9 ww0) (fun _ => 0)) (fun _ => 0)) (br9 6 (br9 5 (fun _ => 0) (lf9 ww5)) (br9 7 (lf9 ww6) (fun _ => 0)))) (br9 12 (fun _ => 0) (br9 14 (fun _ => 0) (br9 15 (lf9 ww14) (br9 16 (lf9 ww15) (lf9 ww16)))))) (fun _ => 0)) (br9 9 (br9 4 (br9 2 (br9 1 (lf9 wew1) (lf9 wew2)) (br9 3 (lf9 wew3) (lf9 wew4))) (br9 6 (br9 5 (lf9 wew5) (lf9 wew6)) (br9 7 (lf9 wew7) (br9 8 (lf9 wew8) (lf9 wew9))))) (fun _ _ => 0)) ++ [])) hP [42, 0, 43, 44, 1, 2, 3, 4, 5, 45, 6, 7, 8, 9, 10, 11, 12, 13, 14, 46, 47, 48, 49, 15, 16, 17, 18, 19, 20, 21, 50, 22, 23, 51, 52, 53, 54, 55, 56, 57, 58, 24, 25, 26, 27, 28, 29, 30, 31, 32, 33, 34, 35, 36, 37, 38, 39, 40, 41, 59, 60, 61, 62, 63, 64, 65, 66, 67, 68] rfl
  have hD := hD.part (cx := wB V y pp (up9 (up9 (up9 ff 15 g0) 16 g1) 17 g2) gg (.ref (Yw1 0)) .null ++ (wY V y n1 L1 Yw1 wa1 wb1 (br9 17 (br9 8 (br9 4 (br9 2 (br9 1 (lf9 ww0) (fun _ => 0)) (fun _ => 0)) (br9 6 (br9 5 (fun _ => 0) (lf9 ww5)) (br9 7 (lf9 ww6) (fun _ => 0)))) (br9 12 (fun _ => 0) (br9 14 (fun _ => 0) (br9 15 (lf9 ww14) (br9 16 (lf9 ww15) (lf9 ww16)))))) (fun _ => 0)) (br9 9 (br9 4 (br9 2 (br9 1 (lf9 wew1) (lf9 wew2)) (br9 3 (lf9 wew3) (lf9 wew4))) (br9 6 (br9 5 (lf9 wew5) (lf9 wew6)) (br9 7 (lf9 wew7) (br9 8 (lf9 wew8) (lf9 wew9))))) (fun _ _ => 0)) ++ [])) [42, 0, 43, 44, 1, 2, 3, 4, 5, 45, 6, 7, 8, 9, 10, 11, 12, 13, 14, 46, 47, 48, 49, 15, 16, 17, 18, 19, 20, 21, 50, 22, 23, 51, 52, 53, 54, 55, 56, 57, 58, 24, 25, 26, 27, 28, 29, 30, 31, 32, 33, 34, 35, 36, 37, 38, 39, 40, 41, 59, 60, 61, 62, 63, 64, 65, 66, 67, 68] (by decide +kernel) rfl
  exact kk r H locs (cells + 10) (slots + 46481) _ ⟨pp, (up9 (up9 (up9 ff 15 g0) 16 g1) 17 g2), gg, .ref (Yw1 0), .null, _, hp, ht0, ht1, ht2, ht3, ht4, Or.inr ⟨n1, L1, Yw1, wa1, wb1, (br9 17 (br9 8 (br9 4 (br9 2 (br9 1 (lf9 ww0) (fun _ => 0)) (fun _ => 0)) (br9 6 (br9 5 (fun _ => 0) (lf9 ww5)) (br9 7 (lf9 ww6) (fun _ => 0)))) (br9 12 (fun _ => 0) (br9 14 (fun _ => 0) (br9 15 (lf9 ww14) (br9 16 (lf9 ww15) (lf9 ww16)))))) (fun _ => 0)), (br9 9 (br9 4 (br9 2 (br9 1 (lf9 wew1) (lf9 wew2)) (br9 3 (lf9 wew3) (lf9 wew4))) (br9 6 (br9 5 (lf9 wew5) (lf9 wew6)) (br9 7 (lf9 wew7) (br9 8 (lf9 wew8) (lf9 wew9))))) (fun _ _ => 0)), [], 0, ⟨hn1, hL1, bww0, bww5, bww6, bww14, bww16, bwew1, bwew4, bwew5, bwew6, bwew7, g_0, g_1, g_2⟩, (Or.inl ⟨rfl, rfl, rfl⟩), (show PTn _ _ _ _ ww0 from by rw [g_3]; exact PTn_0 10 46481 hc (hp 5) (by decide) (by decide) n1 0), rfl, rfl⟩, rfl⟩ hP hD hS
set_option maxHeartbeats 4000000 in
set_option maxRecDepth 100000 in
theorem cx_31_a {p : Program} {e : Env} {s : State} {m : MethodId} {below : List Frame} {meth : Method} {c : Code} {l : Launch} {b Lk : Nat} {xs : Nat → Int32} {V : GV} {y : Nat → Nat} {τ : Nat → Int32} {H : Heap} {locs : List Loc} {cells slots : Nat} {wz : va_W} {ls : Array Slot} (G : LCx p s m meth c b Lk xs V) (a1 : Int32) (a2 : Int32) (a3 : Int32) {pp : Nat → Int32} {ff : Nat → Nat → Int32} {gg : Nat → Nat → Int64} {n L : Nat} {Yw : Nat → Nat} {wa wb : Nat} {qq : Nat → Int32} {ee : Nat → Nat → Int32} {o11 : Value} {fr : va_W} {fm : Nat} (hp : ivT tX pp) (ht0 : pp 0 = τ 0) (ht1 : pp 15 = τ 1) (ht2 : pp 16 = τ 2) (ht3 : BTs (ff 0) (tauT τ)) (ht4 : (∀ j, iv (-128) 127 ((ff 0) j))) (hW : WFa n L qq ee) (hF : RFo V o11 fr fm) (hT : PTn cells slots n fm (qq 0)) (hq : pp 5 ≤ qq 0) (hP : va_P V.1 vwCl (wB V y pp ff gg (.ref (Yw 0)) o11 ++ (wY V y n L Yw wa wb qq ee ++ fr) ++ wz) H) (hD : va_D (AAs s) (wB V y pp ff gg (.ref (Yw 0)) o11 ++ (wY V y n L Yw wa wb qq ee ++ fr) ++ wz)) (hS : va_S (AAs s) s.heap H locs) (hlz : ls.size = 4) (kk : (∀ (r : Int32) (H : Heap) (locs : List Loc) (cells slots : Nat) (wx : va_W), KX V y cells slots τ wx → va_P V.1 vwCl (wx ++ wz) H → va_D (AAs s) (wx ++ wz) → va_S (AAs s) s.heap H locs → W p l e room_1 s m #[Value.ref b] below meth c H locs cells slots (lw_Z below #[Value.ref b] s) (F0 m 1086 ls [.int r]))) : W p l e room_1 s m #[Value.ref b] below meth c H locs cells slots (lw_Z below #[Value.ref b] s) (F0 m 1083 ls [.int a3, .int a2, .int a1, .ref (y 0)]) := by
  obtain ⟨hn, hL, hw_q0, hw_q5, hw_q6, hw_q14, hw_q16, hw_tYw1, hw_tYw4, hw_tYw5, hw_tYw6, hw_tYw7, hw_WA, hw_WB, hw_WC⟩ := id hW
  rw [as4] at hP hD
  refine cSI (X := wB V y pp ff gg (.ref (Yw 0)) o11 ++ wY V y n L Yw wa wb qq ee) (pl := fr ++ wz) (rest := []) G (k_X9_fogs_0 l V n L Yw y a1 a2 a3 (pp 0) o11 (pp 1) (pp 2) (pp 3) (pp 4) (pp 5) (pp 6) (pp 7) (pp 8) (pp 9) (pp 10) (pp 11) (pp 12) (pp 13) (pp 14) (ff 1) (ff 7) (ff 15) (ff 16) (ff 17) (pp 36) (pp 37) (gg 0) (pp 38) (pp 39) (gg 1) (pp 40) (pp 41) (gg 2) (pp 42) (pp 43) (gg 3) (qq 0) wa (qq 5) (qq 6) wb (qq 14) (qq 15) (qq 16) (ee 0) (ee 1) (ee 2) (ee 3) (ee 4) (ee 5) (ee 7) hn hL hq (hp 0) (hp 5) (hp 6) (hp 7) (hp 10) (hp 11) (hp 12) (hp 13) (hp 14) (hp 36) (hp 38) (hp 40) (hp 42) hw_q0 hw_q5 hw_q6 hw_q14 hw_q16 hw_tYw1 hw_tYw4 hw_tYw5 hw_tYw6 hw_WA hw_WB hw_WC) mt_X9_fogs q_5_55 ⟨Nat.le_of_ble_eq_true rfl, Nat.le_of_ble_eq_true rfl⟩ hP hD hS [0, 2, 3, 9, 19, 20, 21, 22, 30, 33, 34, 35, 36, 37, 38, 39, 40, 59, 60, 61, 62, 63, 64, 65, 67] [0, 1, 0, 5, 9, 0, 0, 0, 7, 2, 0, 0, 0, 0, 0, 0, 0, 18, 0, 0, 0, 0, 0, 0, 1] (by decide) (by decide +kernel) rfl 0 rfl rfl rfl rfl hlz rfl (Nat.le_of_ble_eq_true rfl) dL_law_1083 (PTn_room hT hw_q0) (fun r w H locs hw hPD hS => ?_)
  refine Exists.elim hw (fun g0 hw => ?_)
  refine Exists.elim hw (fun g1 hw => ?_)
  refine Exists.elim hw (fun g2 hw => ?_)
  refine Exists.elim hw (fun v3 hw => ?_)
  refine Exists.elim hw (fun v4 hw => ?_)
  refine Exists.elim hw (fun v5 hw => ?_)
  refine Exists.elim hw (fun v6 hw => ?_)
  refine Exists.elim hw (fun v7 hw => ?_)
  refine Exists.elim hw (fun g8 hw => ?_)
  refine Exists.elim hw (fun g9 hw => ?_)
  refine Exists.elim hw (fun g10 hw => ?_)
  refine Exists.elim hw (fun g11 hw => ?_)
  refine Exists.elim hw (fun g12 hw => ?_)
  refine Exists.elim hw (fun g13 hw => ?_)
  refine Exists.elim hw (fun g14 hw => ?_)
  refine And.elim (fun bv3 hw => ?_) hw
  refine And.elim (fun bv4 hw => ?_) hw
  refine And.elim (fun bv5 hw => ?_) hw
  refine And.elim (fun bv7 hw => ?_) hw
  refine And.elim (fun bg8 hw => ?_) hw
  refine And.elim (fun bg11 hw => ?_) hw
  refine And.elim (fun bg12 hw => ?_) hw
  refine And.elim (fun bg13 hw => ?_) hw
  refine And.elim (fun g_0 hw => ?_) hw
  refine And.elim (fun g_1 hw => ?_) hw
  refine And.elim (fun g_2 hw => ?_) hw
  subst hw
  obtain ⟨hP, hD⟩ := hPD (wB V y pp (up9 (up9 (up9 ff 15 g0) 16 g1) 17 g2) gg (.ref (Yw 0)) o11 ++ wY V y n L Yw wa wb (br9 17 (br9 8 (br9 4 qq (br9 6 (br9 5 qq (lf9 v3)) (br9 7 (lf9 v4) qq))) (br9 12 qq (br9 14 qq (br9 15 (lf9 v5) (br9 16 (lf9 v6) (lf9 v7)))))) qq) (br9 8 (br9 4 (br9 2 (br9 1 (lf9 g8) (lf9 g9)) (br9 3 (lf9 g10) (lf9 g11))) (br9 6 (br9 5 (lf9 g12) (lf9 g13)) (br9 7 ee (lf9 g14)))) ee)) rfl rfl
  rw [← as4] at hP hD
  exact kk r H locs (cells + 0) (slots + 0) _ ⟨pp, (up9 (up9 (up9 ff 15 g0) 16 g1) 17 g2), gg, .ref (Yw 0), o11, _, hp, ht0, ht1, ht2, ht3, ht4, Or.inr ⟨n, L, Yw, wa, wb, (br9 17 (br9 8 (br9 4 qq (br9 6 (br9 5 qq (lf9 v3)) (br9 7 (lf9 v4) qq))) (br9 12 qq (br9 14 qq (br9 15 (lf9 v5) (br9 16 (lf9 v6) (lf9 v7)))))) qq), (br9 8 (br9 4 (br9 2 (br9 1 (lf9 g8) (lf9 g9)) (br9 3 (lf9 g10) (lf9 g11))) (br9 6 (br9 5 (lf9 g12) (lf9 g13)) (br9 7 ee (lf9 g14)))) ee), fr, fm, ⟨hn, hL, hw_q0, bv3, bv4, bv5, bv7, bg8, bg11, bg12, bg13, hw_tYw7, g_0, g_1, g_2⟩, hF, hT, rfl, rfl⟩, rfl⟩ hP hD hS
set_option maxHeartbeats 4000000 in
set_option maxRecDepth 100000 in
theorem cx_31_b {p : Program} {e : Env} {s : State} {m : MethodId} {below : List Frame} {meth : Method} {c : Code} {l : Launch} {b Lk : Nat} {xs : Nat → Int32} {V : GV} {y : Nat → Nat} {τ : Nat → Int32} {H : Heap} {locs : List Loc} {cells slots : Nat} {wz : va_W} {ls : Array Slot} (G : LCx p s m meth c b Lk xs V) (a1 : Int32) (a2 : Int32) (a3 : Int32) {pp : Nat → Int32} {ff : Nat → Nat → Int32} {gg : Nat → Nat → Int64} {n L : Nat} {Yw : Nat → Nat} {wa wb : Nat} {qq : Nat → Int32} {ee : Nat → Nat → Int32} {o11 : Value} {fr : va_W} {fm : Nat} (hp : ivT tX pp) (ht0 : pp 0 = τ 0) (ht1 : pp 15 = τ 1) (ht2 : pp 16 = τ 2) (ht3 : BTs (ff 0) (tauT τ)) (ht4 : (∀ j, iv (-128) 127 ((ff 0) j))) (hW : WFa n L qq ee) (hF : RFo V o11 fr fm) (hT : PTn cells slots n fm (qq 0)) (hq : qq 0 < pp 5) (hg : rfF a1 a2 (-1 : Int32) (pp 5) (pp 36) (pp 38) (pp 40) (pp 42) (gg 0) (gg 1) (gg 2) (gg 3) = 0 ∧ 0 ≤ (a3 : Int32).toInt ∧ (a3 : Int32).toInt < (cntF a1 (pp 36) (pp 38) (pp 40) (pp 42) : Int32).toInt) (hP : va_P V.1 vwCl (wB V y pp ff gg (.ref (Yw 0)) o11 ++ (wY V y n L Yw wa wb qq ee ++ fr) ++ wz) H) (hD : va_D (AAs s) (wB V y pp ff gg (.ref (Yw 0)) o11 ++ (wY V y n L Yw wa wb qq ee ++ fr) ++ wz)) (hS : va_S (AAs s) s.heap H locs) (hlz : ls.size = 4) (kk : (∀ (r : Int32) (H : Heap) (locs : List Loc) (cells slots : Nat) (wx : va_W), KX V y cells slots τ wx → va_P V.1 vwCl (wx ++ wz) H → va_D (AAs s) (wx ++ wz) → va_S (AAs s) s.heap H locs → W p l e room_1 s m #[Value.ref b] below meth c H locs cells slots (lw_Z below #[Value.ref b] s) (F0 m 1086 ls [.int r]))) : W p l e room_1 s m #[Value.ref b] below meth c H locs cells slots (lw_Z below #[Value.ref b] s) (F0 m 1083 ls [.int a3, .int a2, .int a1, .ref (y 0)]) := by
  obtain ⟨hn, hL, hw_q0, hw_q5, hw_q6, hw_q14, hw_q16, hw_tYw1, hw_tYw4, hw_tYw5, hw_tYw6, hw_tYw7, hw_WA, hw_WB, hw_WC⟩ := id hW
  have hTB := PTn_B 10 46481 hT hw_q0 (hp 5) hq (by decide) (by decide)
  rw [as4] at hP hD
  refine cXI (X := wB V y pp ff gg (.ref (Yw 0)) o11 ++ wY V y n L Yw wa wb qq ee) (pl := fr ++ wz) (wr := [(y 1, aB V 900 (ff 0)), (y 4, aI V 4 (ff 2)), (y 5, aI V 4 (ff 3)), (y 6, aI V 8 (ff 4)), (y 7, aI V 8 (ff 5)), (y 8, aI V 8 (ff 6)), (y 10, .inr (6, [.ref (y 11), .int (pp 15), .int (pp 16), .ref (y 1), .int (pp 17), .int (pp 18), .int (pp 19), .int (pp 20), .int (pp 21)])), (y 11, .inr (1, [.int (pp 22), .int (pp 23), .int (pp 24), .int (pp 25), .int (pp 26), .int (pp 27), .ref (y 12), .ref (y 13), .ref (y 14), .ref (y 15), .ref (y 16), .ref (y 17), .ref (y 18), .int (pp 28), .int (pp 29), .int (pp 30), .int (pp 31), .int (pp 32)])), (y 12, aI V 4 (ff 8)), (y 13, aI V 4 (ff 9)), (y 14, aI V 4 (ff 10)), (y 15, aI V 8 (ff 11)), (y 16, aI V 8 (ff 12)), (y 17, aI V 8 (ff 13)), (y 18, aI V 900 (ff 14)), (y 23, aI V 10 (ff 18)), (y 24, aI V 10 (ff 19)), (y 25, .inr (0, [.int (pp 33), .int (pp 34)])), (y 26, .inr (5, [.ref (y 27), .ref (y 28), .ref (y 29), .int (pp 35)])), (y 27, aI V 10 (ff 20)), (y 28, aI V 10 (ff 21)), (y 29, aI V 10 (ff 22)), (y 31, aM V 2 (va_up (va_up (fun _ => none) 0 (some (y 41))) 1 (some (y 50)))), (y 32, aI V 10 (ff 23)), (y 41, .inr (3, [.ref (y 42), .int (pp 44), .int (pp 45), .int (pp 46), .int (pp 47)])), (y 42, .inr (1, [.int (pp 48), .int (pp 49), .int (pp 50), .int (pp 51), .int (pp 52), .int (pp 53), .ref (y 43), .ref (y 44), .ref (y 45), .ref (y 46), .ref (y 47), .ref (y 48), .ref (y 49), .int (pp 54), .int (pp 55), .int (pp 56), .int (pp 57), .int (pp 58)])), (y 43, aI V 4 (ff 24)), (y 44, aI V 4 (ff 25)), (y 45, aI V 4 (ff 26)), (y 46, aI V 8 (ff 27)), (y 47, aI V 8 (ff 28)), (y 48, aI V 8 (ff 29)), (y 49, aI V 900 (ff 30)), (y 50, .inr (3, [.ref (y 51), .int (pp 59), .int (pp 60), .int (pp 61), .int (pp 62)])), (y 51, .inr (1, [.int (pp 63), .int (pp 64), .int (pp 65), .int (pp 66), .int (pp 67), .int (pp 68), .ref (y 52), .ref (y 53), .ref (y 54), .ref (y 55), .ref (y 56), .ref (y 57), .ref (y 58), .int (pp 69), .int (pp 70), .int (pp 71), .int (pp 72), .int (pp 73)])), (y 52, aI V 4 (ff 31)), (y 53, aI V 4 (ff 32)), (y 54, aI V 4 (ff 33)), (y 55, aI V 8 (ff 34)), (y 56, aI V 8 (ff 35)), (y 57, aI V 8 (ff 36)), (y 58, aI V 900 (ff 37))]) (rest := []) G (k_X9_fogs_3 l V n L Yw y a1 a2 a3 (pp 0) o11 (pp 1) (pp 2) (pp 3) (pp 4) (pp 5) (pp 6) (pp 7) (pp 8) (pp 9) (pp 10) (pp 11) (pp 12) (pp 13) (pp 14) (ff 1) (ff 7) (ff 15) (ff 16) (ff 17) (pp 36) (pp 37) (gg 0) (pp 38) (pp 39) (gg 1) (pp 40) (pp 41) (gg 2) (pp 42) (pp 43) (gg 3) (qq 0) wa (qq 5) (qq 6) wb (qq 14) (qq 15) (qq 16) (ee 0) (ee 1) (ee 2) (ee 3) (ee 4) (ee 5) (ee 6) (ee 7) (ee 8) hn hL hq (hp 0) (hp 5) (hp 6) (hp 7) (hp 10) (hp 11) (hp 12) (hp 13) (hp 14) (hp 36) (hp 38) (hp 40) (hp 42) hw_q0 hw_q5 hw_q6 hw_q14 hw_q16 hw_tYw1 hw_tYw4 hw_tYw5 hw_tYw6 hw_tYw7 hw_WA hw_WB hw_WC hg.1 hg.2.1 hg.2.2) mt_X9_fogs q_5_55 ⟨Nat.le_of_ble_eq_true rfl, Nat.le_of_ble_eq_true rfl⟩ hP hD hS [0, 2, 3, 9, 19, 20, 21, 22, 30, 33, 34, 35, 36, 37, 38, 39, 40, 59, 60, 61, 62, 63, 64, 65, 66, 67, 68] [1, 4, 5, 6, 7, 8, 10, 11, 12, 13, 14, 15, 16, 17, 18, 23, 24, 25, 26, 27, 28, 29, 31, 32, 41, 42, 43, 44, 45, 46, 47, 48, 49, 50, 51, 52, 53, 54, 55, 56, 57, 58] (by decide +kernel) rfl rfl (by decide +kernel) (by decide +kernel) 0 rfl rfl rfl rfl hlz rfl (Nat.le_of_ble_eq_true rfl) dL_law_1083 hTB.1 (fun r w H locs hw hP hD hS => ?_)
  refine Exists.elim hw (fun n1 hw => ?_)
  refine Exists.elim hw (fun L1 hw => ?_)
  refine Exists.elim hw (fun Yw1 hw => ?_)
  refine Exists.elim hw (fun wa1 hw => ?_)
  refine Exists.elim hw (fun wb1 hw => ?_)
  refine Exists.elim hw (fun g0 hw => ?_)
  refine Exists.elim hw (fun g1 hw => ?_)
  refine Exists.elim hw (fun g2 hw => ?_)
  refine Exists.elim hw (fun ww0 hw => ?_)
  refine Exists.elim hw (fun ww5 hw => ?_)
  refine Exists.elim hw (fun ww6 hw => ?_)
  refine Exists.elim hw (fun ww14 hw => ?_)
  refine Exists.elim hw (fun ww15 hw => ?_)
  refine Exists.elim hw (fun ww16 hw => ?_)
  refine Exists.elim hw (fun wew1 hw => ?_)
  refine Exists.elim hw (fun wew2 hw => ?_)
  refine Exists.elim hw (fun wew3 hw => ?_)
  refine Exists.elim hw (fun wew4 hw => ?_)
  refine Exists.elim hw (fun wew5 hw => ?_)
  refine Exists.elim hw (fun wew6 hw => ?_)
  refine Exists.elim hw (fun wew7 hw => ?_)
  refine Exists.elim hw (fun wew8 hw => ?_)
  refine Exists.elim hw (fun wew9 hw => ?_)
  refine And.elim (fun hn1 hw => ?_) hw
  refine And.elim (fun hL1 hw => ?_) hw
  refine And.elim (fun bww0 hw => ?_) hw
  refine And.elim (fun bww5 hw => ?_) hw
  refine And.elim (fun bww6 hw => ?_) hw
  refine And.elim (fun bww14 hw => ?_) hw
  refine And.elim (fun bww16 hw => ?_) hw
  refine And.elim (fun bwew1 hw => ?_) hw
  refine And.elim (fun bwew4 hw => ?_) hw
  refine And.elim (fun bwew5 hw => ?_) hw
  refine And.elim (fun bwew6 hw => ?_) hw
  refine And.elim (fun bwew7 hw => ?_) hw
  refine And.elim (fun g_0 hw => ?_) hw
  refine And.elim (fun g_1 hw => ?_) hw
  refine And.elim (fun g_2 hw => ?_) hw
  refine And.elim (fun g_3 hw => ?_) hw
  subst hw
  have hP := ptP (ws' := wB V y pp (up9 (up9 (up9 ff 15 g0) 16 g1) 17 g2) gg (.ref (Yw1 0)) o11 ++ wY V y n1 L1 Yw1 wa1 wb1 (br9 17 (br9 8 (br9 4 (br9 2 (br9 1 (lf9 ww0) (fun _ => 0)) (fun _ => 0)) (br9 6 (br9 5 (fun _ => 0) (lf9 ww5)) (br9 7 (lf9 ww6) (fun _ => 0)))) (br9 12 (fun _ => 0) (br9 14 (fun _ => 0) (br9 15 (lf9 ww14) (br9 16 (lf9 ww15) (lf9 ww16)))))) (fun _ => 0)) (br9 9 (br9 4 (br9 2 (br9 1 (lf9 wew1) (lf9 wew2)) (br9 3 (lf9 wew3) (lf9 wew4))) (br9 6 (br9 5 (lf9 wew5) (lf9 wew6)) (br9 7 (lf9 wew7) (br9 8 (lf9 wew8) (lf9 wew9))))) (fun _ _ => 0))) hP [42, 0, 43, 44, 1, 2, 3, 4, 5, 45, 6, 7, 8, 9, 10, 11, 12, 13, 14, 46, 47, 48, 49, 15, 16, 17, 18, 19, 20, 21, 50, 22, 23, 51, 52, 53, 54, 55, 56, 57, 58, 24, 25, 26, 27, 28, 29, 30, 31, 32, 33, 34, 35, 36, 37, 38, 39, 40, 41, 59, 60, 61, 62, 63, 64, 65, 66, 67, 68] rfl
  have hD := hD.part (cx := wB V y pp (up9 (up9 (up9 ff 15 g0) 16 g1) 17 g2) gg (.ref (Yw1 0)) o11 ++ wY V y n1 L1 Yw1 wa1 wb1 (br9 17 (br9 8 (br9 4 (br9 2 (br9 1 (lf9 ww0) (fun _ => 0)) (fun _ => 0)) (br9 6 (br9 5 (fun _ => 0) (lf9 ww5)) (br9 7 (lf9 ww6) (fun _ => 0)))) (br9 12 (fun _ => 0) (br9 14 (fun _ => 0) (br9 15 (lf9 ww14) (br9 16 (lf9 ww15) (lf9 ww16)))))) (fun _ => 0)) (br9 9 (br9 4 (br9 2 (br9 1 (lf9 wew1) (lf9 wew2)) (br9 3 (lf9 wew3) (lf9 wew4))) (br9 6 (br9 5 (lf9 wew5) (lf9 wew6)) (br9 7 (lf9 wew7) (br9 8 (lf9 wew8) (lf9 wew9))))) (fun _ _ => 0))) [42, 0, 43, 44, 1, 2, 3, 4, 5, 45, 6, 7, 8, 9, 10, 11, 12, 13, 14, 46, 47, 48, 49, 15, 16, 17, 18, 19, 20, 21, 50, 22, 23, 51, 52, 53, 54, 55, 56, 57, 58, 24, 25, 26, 27, 28, 29, 30, 31, 32, 33, 34, 35, 36, 37, 38, 39, 40, 41, 59, 60, 61, 62, 63, 64, 65, 66, 67, 68] (by decide +kernel) rfl
  rw [← as4] at hP hD
  exact kk r H locs (cells + 10) (slots + 46481) _ ⟨pp, (up9 (up9 (up9 ff 15 g0) 16 g1) 17 g2), gg, .ref (Yw1 0), o11, _, hp, ht0, ht1, ht2, ht3, ht4, Or.inr ⟨n1, L1, Yw1, wa1, wb1, (br9 17 (br9 8 (br9 4 (br9 2 (br9 1 (lf9 ww0) (fun _ => 0)) (fun _ => 0)) (br9 6 (br9 5 (fun _ => 0) (lf9 ww5)) (br9 7 (lf9 ww6) (fun _ => 0)))) (br9 12 (fun _ => 0) (br9 14 (fun _ => 0) (br9 15 (lf9 ww14) (br9 16 (lf9 ww15) (lf9 ww16)))))) (fun _ => 0)), (br9 9 (br9 4 (br9 2 (br9 1 (lf9 wew1) (lf9 wew2)) (br9 3 (lf9 wew3) (lf9 wew4))) (br9 6 (br9 5 (lf9 wew5) (lf9 wew6)) (br9 7 (lf9 wew7) (br9 8 (lf9 wew8) (lf9 wew9))))) (fun _ _ => 0)), fr, fm, ⟨hn1, hL1, bww0, bww5, bww6, bww14, bww16, bwew1, bwew4, bwew5, bwew6, bwew7, g_0, g_1, g_2⟩, hF, (show PTn _ _ _ _ ww0 from by rw [g_3]; exact hTB.2 n1 fm), rfl, rfl⟩, rfl⟩ hP hD hS
set_option maxHeartbeats 4000000 in
set_option maxRecDepth 100000 in
theorem cx_31 {p : Program} {e : Env} {s : State} {m : MethodId} {below : List Frame} {meth : Method} {c : Code} {l : Launch} {b Lk : Nat} {xs : Nat → Int32} {V : GV} {y : Nat → Nat} {τ : Nat → Int32} {H : Heap} {locs : List Loc} {cells slots : Nat} {wz : va_W} {ls : Array Slot} (G : LCx p s m meth c b Lk xs V) (a1 : Int32) (a2 : Int32) (a3 : Int32) {wx : va_W} (kx : KX V y cells slots τ wx) (hP : va_P V.1 vwCl (wx ++ wz) H) (hD : va_D (AAs s) (wx ++ wz)) (hS : va_S (AAs s) s.heap H locs) (hlz : ls.size = 4) (kk : (∀ (r : Int32) (H : Heap) (locs : List Loc) (cells slots : Nat) (wx : va_W), KX V y cells slots τ wx → va_P V.1 vwCl (wx ++ wz) H → va_D (AAs s) (wx ++ wz) → va_S (AAs s) s.heap H locs → W p l e room_1 s m #[Value.ref b] below meth c H locs cells slots (lw_Z below #[Value.ref b] s) (F0 m 1086 ls [.int r]))) : W p l e room_1 s m #[Value.ref b] below meth c H locs cells slots (lw_Z below #[Value.ref b] s) (F0 m 1083 ls [.int a3, .int a2, .int a1, .ref (y 0)]) := by
  obtain ⟨pp, ff, gg, o10, o11, rest, hp, ht0, ht1, ht2, ht3, ht4, hR, rfl⟩ := kx
  by_cases hg : rfF a1 a2 (-1 : Int32) (pp 5) (pp 36) (pp 38) (pp 40) (pp 42) (gg 0) (gg 1) (gg 2) (gg 3) = 0 ∧ 0 ≤ (a3 : Int32).toInt ∧ (a3 : Int32).toInt < (cntF a1 (pp 36) (pp 38) (pp 40) (pp 42) : Int32).toInt
  · rcases hR with ⟨rfl, rfl, rfl, hc⟩ | ⟨n, L, Yw, wa, wb, qq, ee, fr, fm, hW, hF, hT, rfl, rfl⟩
    · exact cx_31_0 G _ _ _ hp ht0 ht1 ht2 ht3 ht4 hc hg hP hD hS hlz kk
    · rcases Classical.em (pp 5 ≤ qq 0) with hq | hq
      · exact cx_31_a G _ _ _ hp ht0 ht1 ht2 ht3 ht4 hW hF hT hq hP hD hS hlz kk
      · replace hq := Int32.not_le.mp hq
        exact cx_31_b G _ _ _ hp ht0 ht1 ht2 ht3 ht4 hW hF hT hq hg hP hD hS hlz kk
  · exact cx_31_e G _ _ _ hp ht0 ht1 ht2 ht3 ht4 hR hg hP hD hS hlz kk
theorem q_8_72 : Cond.code yX10_fogs prog_12_method_112_code 10 (some FieldType.int) ∈ gw := gw_8 (i := 72) (rfl) rfl
theorem q_8_70 : Cond.instanceMethod yX10_fogs ∈ gw := gw_8 (i := 70) (by decide +kernel) rfl
theorem q_8_71 : Cond.selects "BeaconDelayModel" yX10_fogs yX10_fogs ∈ gw := gw_8 (i := 71) (by decide +kernel) rfl
theorem mt_X10_fogs : MtV yX10_fogs cX10_fogs 10 (some .int) 3 := ⟨⟨q_8_72, q_1_9, by decide +kernel, by decide +kernel, by decide +kernel⟩, q_8_70, q_8_71⟩
theorem q_8_69 : Cond.methodLink "BeaconDelayLaw" 147 yX10_fogs ∈ gw := gw_8 (i := 69) (by decide +kernel) rfl
theorem dL_law_1103 : decode cL_law 1103 = .ok (.invokevirtual 147, 3) := by decide +kernel
set_option maxHeartbeats 4000000 in
set_option maxRecDepth 100000 in
theorem cz_31 {p : Program} {e : Env} {s : State} {m : MethodId} {below : List Frame} {meth : Method} {c : Code} {l : Launch} {b Lk : Nat} {xs : Nat → Int32} {V : GV} {z : Nat → Nat} {τ : Nat → Int32} {H : Heap} {locs : List Loc} {cells slots : Nat} {wx : va_W} {ls : Array Slot} {rest : List Value} (G : LCx p s m meth c b Lk xs V) (a1 : Int32) (a2 : Int32) (a3 : Int32) {wz : va_W} (kz : KZ V z τ wz) (hP : va_P V.1 vwCl (wx ++ wz) H) (hD : va_D (AAs s) (wx ++ wz)) (hS : va_S (AAs s) s.heap H locs) (hcs : cells + 0 ≤ 600000 ∧ slots + 0 ≤ 7302250) (hro : (rest.map fun v => v.category).sum ≤ 8) (hlz : ls.size = 4) (kk : (∀ (r : Int32) (H : Heap) (locs : List Loc) (wz : va_W), KZ V z τ wz → va_P V.1 vwCl (wx ++ wz) H → va_D (AAs s) (wx ++ wz) → va_S (AAs s) s.heap H locs → W p l e room_1 s m #[Value.ref b] below meth c H locs cells slots (lw_Z below #[Value.ref b] s) (F0 m 1106 ls (.int r :: rest)))) : W p l e room_1 s m #[Value.ref b] below meth c H locs cells slots (lw_Z below #[Value.ref b] s) (F0 m 1103 ls (.int a3 :: .int a2 :: .int a1 :: .ref (z 0) :: rest)) := by
  obtain ⟨pz, fz, gz, hp, ht0, ht1, ht2, ht3, hz_tz1, hz_tz3, hz_tz4, hz_tz16, hz_tz17, hz_tz20, hz_tz21, hz_tz24, hz_tz25, hz_tz26, hz_tz27, hz_tz33, hz_tz34, hz_tz37, hz_tz38, hz_RW, rfl⟩ := kz
  replace hP := swP hP
  replace hD := swD hD
  refine cSI (X := wZ V z pz fz gz) (pl := wx) (rest := rest) G (k_X10_fogs_0 l V z a1 a2 a3 (pz 0) (pz 5) (pz 6) (pz 7) (pz 8) (pz 9) (pz 10) (pz 11) (pz 12) (pz 13) (pz 14) (pz 18) (pz 19) (pz 22) (pz 23) (pz 29) (fz 0) (fz 4) (fz 5) (fz 9) (fz 10) (fz 13) (gz 0) (gz 1) (gz 2) (fz 18) (fz 19) (gz 3) (hp 5) (hp 6) (hp 7) (hp 8) (hp 10) (hp 11) (hp 12) (hp 13) (hp 14) (hp 18) (hp 22) (hp 29) hz_tz1 hz_tz16 hz_tz24 hz_tz25 hz_tz37 hz_tz38 hz_RW) mt_X10_fogs q_8_69 ⟨Nat.le_of_ble_eq_true rfl, Nat.le_of_ble_eq_true rfl⟩ hP hD hS [0, 1, 5, 6, 10, 11, 14, 15, 16, 20, 22, 23, 24] [0, 0, 3, 0, 3, 0, 2, 0, 0, 3, 1, 0, 0] (by decide) (by decide +kernel) rfl 0 rfl rfl rfl rfl hlz rfl hro dL_law_1103 hcs (fun r w H locs hw hPD hS => ?_)
  refine Exists.elim hw (fun v0 hw => ?_)
  refine Exists.elim hw (fun v1 hw => ?_)
  refine Exists.elim hw (fun g2 hw => ?_)
  refine Exists.elim hw (fun g3 hw => ?_)
  refine Exists.elim hw (fun g4 hw => ?_)
  refine Exists.elim hw (fun g5 hw => ?_)
  refine Exists.elim hw (fun g6 hw => ?_)
  refine Exists.elim hw (fun g7 hw => ?_)
  refine Exists.elim hw (fun g8 hw => ?_)
  refine Exists.elim hw (fun g9 hw => ?_)
  refine And.elim (fun bv1 hw => ?_) hw
  refine And.elim (fun bg3 hw => ?_) hw
  refine And.elim (fun bg4 hw => ?_) hw
  refine And.elim (fun bg5 hw => ?_) hw
  refine And.elim (fun g_0 hw => ?_) hw
  subst hw
  obtain ⟨hP, hD⟩ := hPD (wZ V z (up9 (up9 pz 0 v0) 29 v1) (br9 14 (br9 7 (br9 3 fz (br9 5 (br9 4 fz (lf9 g2)) (br9 6 (lf9 g3) fz))) (br9 10 (br9 8 fz (br9 9 fz (lf9 g4))) (br9 12 (br9 11 (lf9 g5) fz) (br9 13 fz (lf9 g6))))) fz) (up9 (up9 (up9 gz 0 g7) 1 g8) 2 g9)) rfl rfl
  replace hP := swP hP
  replace hD := swD hD
  exact kk r H locs _ ⟨(up9 (up9 pz 0 v0) 29 v1), (br9 14 (br9 7 (br9 3 fz (br9 5 (br9 4 fz (lf9 g2)) (br9 6 (lf9 g3) fz))) (br9 10 (br9 8 fz (br9 9 fz (lf9 g4))) (br9 12 (br9 11 (lf9 g5) fz) (br9 13 fz (lf9 g6))))) fz), (up9 (up9 (up9 gz 0 g7) 1 g8) 2 g9), (ivUp 29 (ivUp 0 hp (iv_top v0)) bv1), ht0, ht1, ht2, ht3, hz_tz1, hz_tz3, hz_tz4, bg3, hz_tz17, hz_tz20, hz_tz21, bg4, bg5, hz_tz26, hz_tz27, hz_tz33, hz_tz34, hz_tz37, hz_tz38, g_0, rfl⟩ hP hD hS
theorem q_5_66 : Cond.code yX9_weathers prog_1_method_56_code 4 (some FieldType.int) ∈ gw := gw_5 (i := 66) (rfl) rfl
theorem q_5_64 : Cond.instanceMethod yX9_weathers ∈ gw := gw_5 (i := 64) (by decide +kernel) rfl
theorem q_5_65 : Cond.selects "BeaconDelay" yX9_weathers yX9_weathers ∈ gw := gw_5 (i := 65) (by decide +kernel) rfl
theorem mt_X9_weathers : MtV yX9_weathers cX9_weathers 4 (some .int) 2 := ⟨⟨q_5_66, q_1_1, by decide +kernel, by decide +kernel, by decide +kernel⟩, q_5_64, q_5_65⟩
theorem q_5_63 : Cond.methodLink "BeaconDelayLaw" 148 yX9_weathers ∈ gw := gw_5 (i := 63) (by decide +kernel) rfl
theorem dL_law_1121 : decode cL_law 1121 = .ok (.invokevirtual 148, 3) := by decide +kernel
set_option maxHeartbeats 4000000 in
set_option maxRecDepth 100000 in
theorem cx_32_s {p : Program} {e : Env} {s : State} {m : MethodId} {below : List Frame} {meth : Method} {c : Code} {l : Launch} {b Lk : Nat} {xs : Nat → Int32} {V : GV} {y : Nat → Nat} {τ : Nat → Int32} {H : Heap} {locs : List Loc} {cells slots : Nat} {wz : va_W} {ls : Array Slot} (G : LCx p s m meth c b Lk xs V) (a1 : Int32) (a2 : Int32) {pp : Nat → Int32} {ff : Nat → Nat → Int32} {gg : Nat → Nat → Int64} {o10 o11 : Value} {rest : va_W} (hp : ivT tX pp) (ht0 : pp 0 = τ 0) (ht1 : pp 15 = τ 1) (ht2 : pp 16 = τ 2) (ht3 : BTs (ff 0) (tauT τ)) (ht4 : (∀ j, iv (-128) 127 ((ff 0) j))) (hR : RRo V y cells slots o10 o11 rest)  (hP : va_P V.1 vwCl (wB V y pp ff gg o10 o11 ++ rest ++ wz) H) (hD : va_D (AAs s) (wB V y pp ff gg o10 o11 ++ rest ++ wz)) (hS : va_S (AAs s) s.heap H locs) (hlz : ls.size = 4) (kk : (∀ (r : Int32) (H : Heap) (locs : List Loc) (cells slots : Nat) (wx : va_W), KX V y cells slots τ wx → va_P V.1 vwCl (wx ++ wz) H → va_D (AAs s) (wx ++ wz) → va_S (AAs s) s.heap H locs → W p l e room_1 s m #[Value.ref b] below meth c H locs cells slots (lw_Z below #[Value.ref b] s) (F0 m 1124 ls [.int r]))) : W p l e room_1 s m #[Value.ref b] below meth c H locs cells slots (lw_Z below #[Value.ref b] s) (F0 m 1121 ls [.int a2, .int a1, .ref (y 0)]) := by
  rw [as3] at hP hD
  refine cSI (X := wB V y pp ff gg o10 o11) (pl := rest ++ wz) (rest := []) G (k_X9_weathers_0 l V y a1 a2 (pp 0) o10 o11 (pp 1) (pp 2) (pp 3) (pp 4) (pp 5) (pp 6) (pp 7) (pp 8) (pp 9) (pp 10) (pp 11) (pp 12) (pp 13) (pp 14) (ff 1) (ff 7) (ff 15) (ff 16) (ff 17) (ff 23) (pp 36) (pp 37) (gg 0) (pp 38) (pp 39) (gg 1) (pp 40) (pp 41) (gg 2) (pp 42) (pp 43) (gg 3) (hp 0) (hp 5) (hp 6) (hp 7) (hp 10) (hp 11) (hp 12) (hp 13) (hp 14) (hp 36) (hp 38) (hp 40) (hp 42)) mt_X9_weathers q_5_63 ⟨Nat.le_of_ble_eq_true rfl, Nat.le_of_ble_eq_true rfl⟩ hP hD hS [0, 2, 3, 9, 19, 20, 21, 22, 30, 32, 33, 34, 35, 36, 37, 38, 39, 40] [0, 1, 0, 5, 9, 0, 0, 0, 7, 1, 0, 0, 0, 0, 0, 0, 0, 0] (by decide) (by decide +kernel) rfl 0 rfl rfl rfl rfl hlz rfl (Nat.le_of_ble_eq_true rfl) dL_law_1121 hR.room (fun r w H locs hw hPD hS => ?_)
  refine Exists.elim hw (fun g0 hw => ?_)
  refine Exists.elim hw (fun g1 hw => ?_)
  refine Exists.elim hw (fun g2 hw => ?_)
  refine Exists.elim hw (fun g3 hw => ?_)
  subst hw
  obtain ⟨hP, hD⟩ := hPD (wB V y pp (up9 (up9 (up9 (up9 ff 15 g0) 16 g1) 17 g2) 23 g3) gg o10 o11) rfl rfl
  rw [← as3] at hP hD
  exact kk r H locs (cells + 0) (slots + 0) _ ⟨pp, (up9 (up9 (up9 (up9 ff 15 g0) 16 g1) 17 g2) 23 g3), gg, o10, o11, rest, hp, ht0, ht1, ht2, ht3, ht4, hR, rfl⟩ hP hD hS
set_option maxHeartbeats 4000000 in
set_option maxRecDepth 100000 in
theorem cx_32 {p : Program} {e : Env} {s : State} {m : MethodId} {below : List Frame} {meth : Method} {c : Code} {l : Launch} {b Lk : Nat} {xs : Nat → Int32} {V : GV} {y : Nat → Nat} {τ : Nat → Int32} {H : Heap} {locs : List Loc} {cells slots : Nat} {wz : va_W} {ls : Array Slot} (G : LCx p s m meth c b Lk xs V) (a1 : Int32) (a2 : Int32) {wx : va_W} (kx : KX V y cells slots τ wx) (hP : va_P V.1 vwCl (wx ++ wz) H) (hD : va_D (AAs s) (wx ++ wz)) (hS : va_S (AAs s) s.heap H locs) (hlz : ls.size = 4) (kk : (∀ (r : Int32) (H : Heap) (locs : List Loc) (cells slots : Nat) (wx : va_W), KX V y cells slots τ wx → va_P V.1 vwCl (wx ++ wz) H → va_D (AAs s) (wx ++ wz) → va_S (AAs s) s.heap H locs → W p l e room_1 s m #[Value.ref b] below meth c H locs cells slots (lw_Z below #[Value.ref b] s) (F0 m 1124 ls [.int r]))) : W p l e room_1 s m #[Value.ref b] below meth c H locs cells slots (lw_Z below #[Value.ref b] s) (F0 m 1121 ls [.int a2, .int a1, .ref (y 0)]) := by
  obtain ⟨pp, ff, gg, o10, o11, rest, hp, ht0, ht1, ht2, ht3, ht4, hR, rfl⟩ := kx
  exact cx_32_s G _ _ hp ht0 ht1 ht2 ht3 ht4 hR hP hD hS hlz kk
theorem q_8_76 : Cond.code yX10_weathers prog_12_method_114_code 4 (some FieldType.int) ∈ gw := gw_8 (i := 76) (rfl) rfl
theorem q_8_74 : Cond.instanceMethod yX10_weathers ∈ gw := gw_8 (i := 74) (by decide +kernel) rfl
theorem q_8_75 : Cond.selects "BeaconDelayModel" yX10_weathers yX10_weathers ∈ gw := gw_8 (i := 75) (by decide +kernel) rfl
theorem mt_X10_weathers : MtV yX10_weathers cX10_weathers 4 (some .int) 2 := ⟨⟨q_8_76, q_1_9, by decide +kernel, by decide +kernel, by decide +kernel⟩, q_8_74, q_8_75⟩
theorem q_8_73 : Cond.methodLink "BeaconDelayLaw" 151 yX10_weathers ∈ gw := gw_8 (i := 73) (by decide +kernel) rfl
theorem dL_law_1136 : decode cL_law 1136 = .ok (.invokevirtual 151, 3) := by decide +kernel
set_option maxHeartbeats 4000000 in
set_option maxRecDepth 100000 in
theorem cz_32 {p : Program} {e : Env} {s : State} {m : MethodId} {below : List Frame} {meth : Method} {c : Code} {l : Launch} {b Lk : Nat} {xs : Nat → Int32} {V : GV} {z : Nat → Nat} {τ : Nat → Int32} {H : Heap} {locs : List Loc} {cells slots : Nat} {wx : va_W} {ls : Array Slot} {rest : List Value} (G : LCx p s m meth c b Lk xs V) (a1 : Int32) (a2 : Int32) {wz : va_W} (kz : KZ V z τ wz) (hP : va_P V.1 vwCl (wx ++ wz) H) (hD : va_D (AAs s) (wx ++ wz)) (hS : va_S (AAs s) s.heap H locs) (hcs : cells + 0 ≤ 600000 ∧ slots + 0 ≤ 7302250) (hro : (rest.map fun v => v.category).sum ≤ 8) (hlz : ls.size = 4) (kk : (∀ (r : Int32) (H : Heap) (locs : List Loc) (wz : va_W), KZ V z τ wz → va_P V.1 vwCl (wx ++ wz) H → va_D (AAs s) (wx ++ wz) → va_S (AAs s) s.heap H locs → W p l e room_1 s m #[Value.ref b] below meth c H locs cells slots (lw_Z below #[Value.ref b] s) (F0 m 1139 ls (.int r :: rest)))) : W p l e room_1 s m #[Value.ref b] below meth c H locs cells slots (lw_Z below #[Value.ref b] s) (F0 m 1136 ls (.int a2 :: .int a1 :: .ref (z 0) :: rest)) := by
  obtain ⟨pz, fz, gz, hp, ht0, ht1, ht2, ht3, hz_tz1, hz_tz3, hz_tz4, hz_tz16, hz_tz17, hz_tz20, hz_tz21, hz_tz24, hz_tz25, hz_tz26, hz_tz27, hz_tz33, hz_tz34, hz_tz37, hz_tz38, hz_RW, rfl⟩ := kz
  replace hP := swP hP
  replace hD := swD hD
  refine cSI (X := wZ V z pz fz gz) (pl := wx) (rest := rest) G (k_X10_weathers_0 l V z a1 a2 (pz 0) (pz 5) (pz 6) (pz 7) (pz 8) (pz 9) (pz 10) (pz 11) (pz 12) (pz 13) (pz 14) (pz 18) (pz 19) (pz 22) (pz 23) (pz 29) (fz 0) (fz 4) (fz 5) (fz 18) (fz 19) (gz 3) (hp 5) (hp 6) (hp 7) (hp 8) (hp 10) (hp 11) (hp 12) (hp 13) (hp 14) (hp 18) (hp 22) (hp 29) hz_tz1 hz_tz16 hz_tz37 hz_tz38 hz_RW) mt_X10_weathers q_8_73 ⟨Nat.le_of_ble_eq_true rfl, Nat.le_of_ble_eq_true rfl⟩ hP hD hS [0, 1, 5, 6, 22, 23, 24] [0, 0, 3, 0, 15, 0, 0] (by decide) (by decide +kernel) rfl 0 rfl rfl rfl rfl hlz rfl hro dL_law_1136 hcs (fun r w H locs hw hPD hS => ?_)
  refine Exists.elim hw (fun v0 hw => ?_)
  refine Exists.elim hw (fun g1 hw => ?_)
  refine Exists.elim hw (fun g2 hw => ?_)
  refine And.elim (fun bg2 hw => ?_) hw
  refine And.elim (fun g_0 hw => ?_) hw
  subst hw
  obtain ⟨hP, hD⟩ := hPD (wZ V z (up9 pz 0 v0) (up9 (up9 fz 4 g1) 5 g2) gz) rfl rfl
  replace hP := swP hP
  replace hD := swD hD
  exact kk r H locs _ ⟨(up9 pz 0 v0), (up9 (up9 fz 4 g1) 5 g2), gz, (ivUp 0 hp (iv_top v0)), ht0, ht1, ht2, ht3, hz_tz1, hz_tz3, hz_tz4, bg2, hz_tz17, hz_tz20, hz_tz21, hz_tz24, hz_tz25, hz_tz26, hz_tz27, hz_tz33, hz_tz34, hz_tz37, hz_tz38, g_0, rfl⟩ hP hD hS
theorem q_5_74 : Cond.code yX9_attempt prog_1_method_58_code 9 (some FieldType.int) ∈ gw := gw_5 (i := 74) (rfl) rfl
theorem q_5_72 : Cond.instanceMethod yX9_attempt ∈ gw := gw_5 (i := 72) (by decide +kernel) rfl
theorem q_5_73 : Cond.selects "BeaconDelay" yX9_attempt yX9_attempt ∈ gw := gw_5 (i := 73) (by decide +kernel) rfl
theorem mt_X9_attempt : MtV yX9_attempt cX9_attempt 9 (some .int) 2 := ⟨⟨q_5_74, q_1_1, by decide +kernel, by decide +kernel, by decide +kernel⟩, q_5_72, q_5_73⟩
theorem q_5_71 : Cond.methodLink "BeaconDelayLaw" 152 yX9_attempt ∈ gw := gw_5 (i := 71) (by decide +kernel) rfl
theorem dL_law_1154 : decode cL_law 1154 = .ok (.invokevirtual 152, 3) := by decide +kernel
set_option maxHeartbeats 4000000 in
set_option maxRecDepth 100000 in
theorem cx_33_s {p : Program} {e : Env} {s : State} {m : MethodId} {below : List Frame} {meth : Method} {c : Code} {l : Launch} {b Lk : Nat} {xs : Nat → Int32} {V : GV} {y : Nat → Nat} {τ : Nat → Int32} {H : Heap} {locs : List Loc} {cells slots : Nat} {wz : va_W} {ls : Array Slot} (G : LCx p s m meth c b Lk xs V) (a1 : Int32) (a2 : Int32) {pp : Nat → Int32} {ff : Nat → Nat → Int32} {gg : Nat → Nat → Int64} {o10 o11 : Value} {rest : va_W} (hp : ivT tX pp) (ht0 : pp 0 = τ 0) (ht1 : pp 15 = τ 1) (ht2 : pp 16 = τ 2) (ht3 : BTs (ff 0) (tauT τ)) (ht4 : (∀ j, iv (-128) 127 ((ff 0) j))) (hR : RRo V y cells slots o10 o11 rest)  (hP : va_P V.1 vwCl (wB V y pp ff gg o10 o11 ++ rest ++ wz) H) (hD : va_D (AAs s) (wB V y pp ff gg o10 o11 ++ rest ++ wz)) (hS : va_S (AAs s) s.heap H locs) (hlz : ls.size = 4) (kk : (∀ (r : Int32) (H : Heap) (locs : List Loc) (cells slots : Nat) (wx : va_W), KX V y cells slots τ wx → va_P V.1 vwCl (wx ++ wz) H → va_D (AAs s) (wx ++ wz) → va_S (AAs s) s.heap H locs → W p l e room_1 s m #[Value.ref b] below meth c H locs cells slots (lw_Z below #[Value.ref b] s) (F0 m 1157 ls [.int r]))) : W p l e room_1 s m #[Value.ref b] below meth c H locs cells slots (lw_Z below #[Value.ref b] s) (F0 m 1154 ls [.int a2, .int a1, .ref (y 0)]) := by
  rw [as3] at hP hD
  refine cSI (X := wB V y pp ff gg o10 o11) (pl := rest ++ wz) (rest := []) G (k_X9_attempt_0 l V y a1 a2 (pp 0) o10 o11 (pp 1) (pp 2) (pp 3) (pp 4) (pp 5) (pp 6) (pp 7) (pp 8) (pp 9) (pp 10) (pp 11) (pp 12) (pp 13) (pp 14) (ff 1) (ff 7) (ff 15) (ff 16) (ff 17) (ff 23) (pp 36) (pp 37) (gg 0) (pp 38) (pp 39) (gg 1) (pp 40) (pp 41) (gg 2) (pp 42) (pp 43) (gg 3) (hp 0) (hp 5) (hp 6) (hp 7) (hp 10) (hp 11) (hp 12) (hp 13) (hp 14) (hp 36) (hp 38) (hp 40) (hp 42)) mt_X9_attempt q_5_71 ⟨Nat.le_of_ble_eq_true rfl, Nat.le_of_ble_eq_true rfl⟩ hP hD hS [0, 2, 3, 9, 19, 20, 21, 22, 30, 32, 33, 34, 35, 36, 37, 38, 39, 40] [0, 1, 0, 5, 9, 0, 0, 0, 7, 1, 0, 0, 0, 0, 0, 0, 0, 0] (by decide) (by decide +kernel) rfl 0 rfl rfl rfl rfl hlz rfl (Nat.le_of_ble_eq_true rfl) dL_law_1154 hR.room (fun r w H locs hw hPD hS => ?_)
  refine Exists.elim hw (fun g0 hw => ?_)
  refine Exists.elim hw (fun g1 hw => ?_)
  refine Exists.elim hw (fun g2 hw => ?_)
  refine Exists.elim hw (fun g3 hw => ?_)
  subst hw
  obtain ⟨hP, hD⟩ := hPD (wB V y pp (up9 (up9 (up9 (up9 ff 15 g0) 16 g1) 17 g2) 23 g3) gg o10 o11) rfl rfl
  rw [← as3] at hP hD
  exact kk r H locs (cells + 0) (slots + 0) _ ⟨pp, (up9 (up9 (up9 (up9 ff 15 g0) 16 g1) 17 g2) 23 g3), gg, o10, o11, rest, hp, ht0, ht1, ht2, ht3, ht4, hR, rfl⟩ hP hD hS
set_option maxHeartbeats 4000000 in
set_option maxRecDepth 100000 in
theorem cx_33 {p : Program} {e : Env} {s : State} {m : MethodId} {below : List Frame} {meth : Method} {c : Code} {l : Launch} {b Lk : Nat} {xs : Nat → Int32} {V : GV} {y : Nat → Nat} {τ : Nat → Int32} {H : Heap} {locs : List Loc} {cells slots : Nat} {wz : va_W} {ls : Array Slot} (G : LCx p s m meth c b Lk xs V) (a1 : Int32) (a2 : Int32) {wx : va_W} (kx : KX V y cells slots τ wx) (hP : va_P V.1 vwCl (wx ++ wz) H) (hD : va_D (AAs s) (wx ++ wz)) (hS : va_S (AAs s) s.heap H locs) (hlz : ls.size = 4) (kk : (∀ (r : Int32) (H : Heap) (locs : List Loc) (cells slots : Nat) (wx : va_W), KX V y cells slots τ wx → va_P V.1 vwCl (wx ++ wz) H → va_D (AAs s) (wx ++ wz) → va_S (AAs s) s.heap H locs → W p l e room_1 s m #[Value.ref b] below meth c H locs cells slots (lw_Z below #[Value.ref b] s) (F0 m 1157 ls [.int r]))) : W p l e room_1 s m #[Value.ref b] below meth c H locs cells slots (lw_Z below #[Value.ref b] s) (F0 m 1154 ls [.int a2, .int a1, .ref (y 0)]) := by
  obtain ⟨pp, ff, gg, o10, o11, rest, hp, ht0, ht1, ht2, ht3, ht4, hR, rfl⟩ := kx
  exact cx_33_s G _ _ hp ht0 ht1 ht2 ht3 ht4 hR hP hD hS hlz kk
theorem q_8_84 : Cond.code yX10_attempt prog_12_method_116_code 9 (some FieldType.int) ∈ gw := gw_8 (i := 84) (rfl) rfl
theorem q_8_82 : Cond.instanceMethod yX10_attempt ∈ gw := gw_8 (i := 82) (by decide +kernel) rfl
theorem q_8_83 : Cond.selects "BeaconDelayModel" yX10_attempt yX10_attempt ∈ gw := gw_8 (i := 83) (by decide +kernel) rfl
theorem mt_X10_attempt : MtV yX10_attempt cX10_attempt 9 (some .int) 2 := ⟨⟨q_8_84, q_1_9, by decide +kernel, by decide +kernel, by decide +kernel⟩, q_8_82, q_8_83⟩
theorem q_8_81 : Cond.methodLink "BeaconDelayLaw" 155 yX10_attempt ∈ gw := gw_8 (i := 81) (by decide +kernel) rfl
theorem dL_law_1169 : decode cL_law 1169 = .ok (.invokevirtual 155, 3) := by decide +kernel
set_option maxHeartbeats 4000000 in
set_option maxRecDepth 100000 in
theorem cz_33 {p : Program} {e : Env} {s : State} {m : MethodId} {below : List Frame} {meth : Method} {c : Code} {l : Launch} {b Lk : Nat} {xs : Nat → Int32} {V : GV} {z : Nat → Nat} {τ : Nat → Int32} {H : Heap} {locs : List Loc} {cells slots : Nat} {wx : va_W} {ls : Array Slot} {rest : List Value} (G : LCx p s m meth c b Lk xs V) (a1 : Int32) (a2 : Int32) {wz : va_W} (kz : KZ V z τ wz) (hP : va_P V.1 vwCl (wx ++ wz) H) (hD : va_D (AAs s) (wx ++ wz)) (hS : va_S (AAs s) s.heap H locs) (hcs : cells + 0 ≤ 600000 ∧ slots + 0 ≤ 7302250) (hro : (rest.map fun v => v.category).sum ≤ 8) (hlz : ls.size = 4) (kk : (∀ (r : Int32) (H : Heap) (locs : List Loc) (wz : va_W), KZ V z τ wz → va_P V.1 vwCl (wx ++ wz) H → va_D (AAs s) (wx ++ wz) → va_S (AAs s) s.heap H locs → W p l e room_1 s m #[Value.ref b] below meth c H locs cells slots (lw_Z below #[Value.ref b] s) (F0 m 1172 ls (.int r :: rest)))) : W p l e room_1 s m #[Value.ref b] below meth c H locs cells slots (lw_Z below #[Value.ref b] s) (F0 m 1169 ls (.int a2 :: .int a1 :: .ref (z 0) :: rest)) := by
  obtain ⟨pz, fz, gz, hp, ht0, ht1, ht2, ht3, hz_tz1, hz_tz3, hz_tz4, hz_tz16, hz_tz17, hz_tz20, hz_tz21, hz_tz24, hz_tz25, hz_tz26, hz_tz27, hz_tz33, hz_tz34, hz_tz37, hz_tz38, hz_RW, rfl⟩ := kz
  replace hP := swP hP
  replace hD := swD hD
  refine cSI (X := wZ V z pz fz gz) (pl := wx) (rest := rest) G (k_X10_attempt_0 l V z a1 a2 (pz 0) (pz 5) (pz 6) (pz 7) (pz 8) (pz 9) (pz 10) (pz 11) (pz 12) (pz 13) (pz 14) (pz 18) (pz 19) (pz 22) (pz 23) (pz 29) (fz 0) (fz 4) (fz 5) (fz 17) (fz 18) (fz 19) (gz 3) (hp 5) (hp 6) (hp 7) (hp 8) (hp 10) (hp 11) (hp 12) (hp 13) (hp 14) (hp 18) (hp 22) (hp 29) hz_tz1 hz_tz16 hz_tz37 hz_tz38 hz_RW) mt_X10_attempt q_8_81 ⟨Nat.le_of_ble_eq_true rfl, Nat.le_of_ble_eq_true rfl⟩ hP hD hS [0, 1, 5, 6, 21, 22, 23, 24] [0, 0, 3, 0, 14, 0, 0, 0] (by decide) (by decide +kernel) rfl 0 rfl rfl rfl rfl hlz rfl hro dL_law_1169 hcs (fun r w H locs hw hPD hS => ?_)
  refine Exists.elim hw (fun v0 hw => ?_)
  refine Exists.elim hw (fun g1 hw => ?_)
  refine Exists.elim hw (fun g2 hw => ?_)
  refine Exists.elim hw (fun g3 hw => ?_)
  refine And.elim (fun bg2 hw => ?_) hw
  refine And.elim (fun g_0 hw => ?_) hw
  subst hw
  obtain ⟨hP, hD⟩ := hPD (wZ V z (up9 pz 0 v0) (up9 (up9 (up9 fz 4 g1) 5 g2) 17 g3) gz) rfl rfl
  replace hP := swP hP
  replace hD := swD hD
  exact kk r H locs _ ⟨(up9 pz 0 v0), (up9 (up9 (up9 fz 4 g1) 5 g2) 17 g3), gz, (ivUp 0 hp (iv_top v0)), ht0, ht1, ht2, ht3, hz_tz1, hz_tz3, hz_tz4, bg2, hz_tz17, hz_tz20, hz_tz21, hz_tz24, hz_tz25, hz_tz26, hz_tz27, hz_tz33, hz_tz34, hz_tz37, hz_tz38, g_0, rfl⟩ hP hD hS
theorem q_5_89 : Cond.code yX9_forces prog_1_method_62_code 4 (some FieldType.int) ∈ gw := gw_5 (i := 89) (rfl) rfl
theorem q_5_87 : Cond.instanceMethod yX9_forces ∈ gw := gw_5 (i := 87) (by decide +kernel) rfl
theorem q_5_88 : Cond.selects "BeaconDelay" yX9_forces yX9_forces ∈ gw := gw_5 (i := 88) (by decide +kernel) rfl
theorem mt_X9_forces : MtV yX9_forces cX9_forces 4 (some .int) 2 := ⟨⟨q_5_89, q_1_1, by decide +kernel, by decide +kernel, by decide +kernel⟩, q_5_87, q_5_88⟩
theorem q_5_86 : Cond.methodLink "BeaconDelayLaw" 156 yX9_forces ∈ gw := gw_5 (i := 86) (by decide +kernel) rfl
theorem dL_law_1187 : decode cL_law 1187 = .ok (.invokevirtual 156, 3) := by decide +kernel
set_option maxHeartbeats 4000000 in
set_option maxRecDepth 100000 in
theorem cx_34_e {p : Program} {e : Env} {s : State} {m : MethodId} {below : List Frame} {meth : Method} {c : Code} {l : Launch} {b Lk : Nat} {xs : Nat → Int32} {V : GV} {y : Nat → Nat} {τ : Nat → Int32} {H : Heap} {locs : List Loc} {cells slots : Nat} {wz : va_W} {ls : Array Slot} (G : LCx p s m meth c b Lk xs V) (a1 : Int32) (a2 : Int32) {pp : Nat → Int32} {ff : Nat → Nat → Int32} {gg : Nat → Nat → Int64} {o10 o11 : Value} {rest : va_W} (hp : ivT tX pp) (ht0 : pp 0 = τ 0) (ht1 : pp 15 = τ 1) (ht2 : pp 16 = τ 2) (ht3 : BTs (ff 0) (tauT τ)) (ht4 : (∀ j, iv (-128) 127 ((ff 0) j))) (hR : RRo V y cells slots o10 o11 rest) (hg : ¬ (0 ≤ (a1 : Int32).toInt ∧ (a1 : Int32).toInt < ((pp 5) : Int32).toInt ∧ 0 ≤ (a2 : Int32).toInt ∧ (a2 : Int32).toInt ≤ 4)) (hP : va_P V.1 vwCl (wB V y pp ff gg o10 o11 ++ rest ++ wz) H) (hD : va_D (AAs s) (wB V y pp ff gg o10 o11 ++ rest ++ wz)) (hS : va_S (AAs s) s.heap H locs) (hlz : ls.size = 4) (kk : (∀ (r : Int32) (H : Heap) (locs : List Loc) (cells slots : Nat) (wx : va_W), KX V y cells slots τ wx → va_P V.1 vwCl (wx ++ wz) H → va_D (AAs s) (wx ++ wz) → va_S (AAs s) s.heap H locs → W p l e room_1 s m #[Value.ref b] below meth c H locs cells slots (lw_Z below #[Value.ref b] s) (F0 m 1190 ls [.int r]))) : W p l e room_1 s m #[Value.ref b] below meth c H locs cells slots (lw_Z below #[Value.ref b] s) (F0 m 1187 ls [.int a2, .int a1, .ref (y 0)]) := by
  rw [as3] at hP hD
  refine cSI (X := wB V y pp ff gg o10 o11) (pl := rest ++ wz) (rest := []) G (k_X9_forces_1 l V y a1 a2 (pp 0) o10 o11 (pp 1) (pp 2) (pp 3) (pp 4) (pp 5) (pp 6) (pp 7) (pp 8) (pp 9) (pp 10) (pp 11) (pp 12) (pp 13) (pp 14) (hp 0) (hp 5) (hp 6) (hp 7) (hp 10) (hp 11) (hp 12) (hp 13) (hp 14) hg) mt_X9_forces q_5_86 ⟨Nat.le_of_ble_eq_true rfl, Nat.le_of_ble_eq_true rfl⟩ hP hD hS [0, 2] [0, 1] (by decide) (by decide +kernel) rfl 0 rfl rfl rfl rfl hlz rfl (Nat.le_of_ble_eq_true rfl) dL_law_1187 hR.room (fun r w H locs hw hPD hS => ?_)
  refine And.elim (fun br hw => ?_) hw
  subst hw
  obtain ⟨hP, hD⟩ := hPD (wB V y pp ff gg o10 o11) rfl rfl
  rw [← as3] at hP hD
  exact kk r H locs (cells + 0) (slots + 0) _ ⟨pp, ff, gg, o10, o11, rest, hp, ht0, ht1, ht2, ht3, ht4, hR, rfl⟩ hP hD hS
set_option maxHeartbeats 4000000 in
set_option maxRecDepth 100000 in
theorem cx_34_0 {p : Program} {e : Env} {s : State} {m : MethodId} {below : List Frame} {meth : Method} {c : Code} {l : Launch} {b Lk : Nat} {xs : Nat → Int32} {V : GV} {y : Nat → Nat} {τ : Nat → Int32} {H : Heap} {locs : List Loc} {cells slots : Nat} {wz : va_W} {ls : Array Slot} (G : LCx p s m meth c b Lk xs V) (a1 : Int32) (a2 : Int32) {pp : Nat → Int32} {ff : Nat → Nat → Int32} {gg : Nat → Nat → Int64} (hp : ivT tX pp) (ht0 : pp 0 = τ 0) (ht1 : pp 15 = τ 1) (ht2 : pp 16 = τ 2) (ht3 : BTs (ff 0) (tauT τ)) (ht4 : (∀ j, iv (-128) 127 ((ff 0) j))) (hc : cells + 116 ≤ 600000 ∧ slots + 633553 ≤ 7302250) (hg : 0 ≤ (a1 : Int32).toInt ∧ (a1 : Int32).toInt < ((pp 5) : Int32).toInt ∧ 0 ≤ (a2 : Int32).toInt ∧ (a2 : Int32).toInt ≤ 4) (hP : va_P V.1 vwCl (wB V y pp ff gg .null .null ++ [] ++ wz) H) (hD : va_D (AAs s) (wB V y pp ff gg .null .null ++ [] ++ wz)) (hS : va_S (AAs s) s.heap H locs) (hlz : ls.size = 4) (kk : (∀ (r : Int32) (H : Heap) (locs : List Loc) (cells slots : Nat) (wx : va_W), KX V y cells slots τ wx → va_P V.1 vwCl (wx ++ wz) H → va_D (AAs s) (wx ++ wz) → va_S (AAs s) s.heap H locs → W p l e room_1 s m #[Value.ref b] below meth c H locs cells slots (lw_Z below #[Value.ref b] s) (F0 m 1190 ls [.int r]))) : W p l e room_1 s m #[Value.ref b] below meth c H locs cells slots (lw_Z below #[Value.ref b] s) (F0 m 1187 ls [.int a2, .int a1, .ref (y 0)]) := by
  refine cXI (X := wB V y pp ff gg .null .null ++ []) (pl := wz) (wr := [(y 1, aB V 900 (ff 0)), (y 4, aI V 4 (ff 2)), (y 5, aI V 4 (ff 3)), (y 6, aI V 8 (ff 4)), (y 7, aI V 8 (ff 5)), (y 8, aI V 8 (ff 6)), (y 10, .inr (6, [.ref (y 11), .int (pp 15), .int (pp 16), .ref (y 1), .int (pp 17), .int (pp 18), .int (pp 19), .int (pp 20), .int (pp 21)])), (y 11, .inr (1, [.int (pp 22), .int (pp 23), .int (pp 24), .int (pp 25), .int (pp 26), .int (pp 27), .ref (y 12), .ref (y 13), .ref (y 14), .ref (y 15), .ref (y 16), .ref (y 17), .ref (y 18), .int (pp 28), .int (pp 29), .int (pp 30), .int (pp 31), .int (pp 32)])), (y 12, aI V 4 (ff 8)), (y 13, aI V 4 (ff 9)), (y 14, aI V 4 (ff 10)), (y 15, aI V 8 (ff 11)), (y 16, aI V 8 (ff 12)), (y 17, aI V 8 (ff 13)), (y 18, aI V 900 (ff 14)), (y 23, aI V 10 (ff 18)), (y 24, aI V 10 (ff 19)), (y 25, .inr (0, [.int (pp 33), .int (pp 34)])), (y 26, .inr (5, [.ref (y 27), .ref (y 28), .ref (y 29), .int (pp 35)])), (y 27, aI V 10 (ff 20)), (y 28, aI V 10 (ff 21)), (y 29, aI V 10 (ff 22)), (y 30, aT V 4 (va_up (va_up (va_up (va_up (fun _ => none) 0 (some (y 33))) 1 (some (y 35))) 2 (some (y 37))) 3 (some (y 39)))), (y 31, aM V 2 (va_up (va_up (fun _ => none) 0 (some (y 41))) 1 (some (y 50)))), (y 32, aI V 10 (ff 23)), (y 33, .inr (7, [.ref (y 34), .int (pp 36), .int (pp 37)])), (y 34, aJ V 40 (gg 0)), (y 35, .inr (7, [.ref (y 36), .int (pp 38), .int (pp 39)])), (y 36, aJ V 40 (gg 1)), (y 37, .inr (7, [.ref (y 38), .int (pp 40), .int (pp 41)])), (y 38, aJ V 40 (gg 2)), (y 39, .inr (7, [.ref (y 40), .int (pp 42), .int (pp 43)])), (y 40, aJ V 40 (gg 3)), (y 41, .inr (3, [.ref (y 42), .int (pp 44), .int (pp 45), .int (pp 46), .int (pp 47)])), (y 42, .inr (1, [.int (pp 48), .int (pp 49), .int (pp 50), .int (pp 51), .int (pp 52), .int (pp 53), .ref (y 43), .ref (y 44), .ref (y 45), .ref (y 46), .ref (y 47), .ref (y 48), .ref (y 49), .int (pp 54), .int (pp 55), .int (pp 56), .int (pp 57), .int (pp 58)])), (y 43, aI V 4 (ff 24)), (y 44, aI V 4 (ff 25)), (y 45, aI V 4 (ff 26)), (y 46, aI V 8 (ff 27)), (y 47, aI V 8 (ff 28)), (y 48, aI V 8 (ff 29)), (y 49, aI V 900 (ff 30)), (y 50, .inr (3, [.ref (y 51), .int (pp 59), .int (pp 60), .int (pp 61), .int (pp 62)])), (y 51, .inr (1, [.int (pp 63), .int (pp 64), .int (pp 65), .int (pp 66), .int (pp 67), .int (pp 68), .ref (y 52), .ref (y 53), .ref (y 54), .ref (y 55), .ref (y 56), .ref (y 57), .ref (y 58), .int (pp 69), .int (pp 70), .int (pp 71), .int (pp 72), .int (pp 73)])), (y 52, aI V 4 (ff 31)), (y 53, aI V 4 (ff 32)), (y 54, aI V 4 (ff 33)), (y 55, aI V 8 (ff 34)), (y 56, aI V 8 (ff 35)), (y 57, aI V 8 (ff 36)), (y 58, aI V 900 (ff 37))]) (rest := []) G (k_X9_forces_2 l V y a1 a2 (pp 0) (pp 1) (pp 2) (pp 3) (pp 4) (pp 5) (pp 6) (pp 7) (pp 8) (pp 9) (pp 10) (pp 11) (pp 12) (pp 13) (pp 14) (ff 1) (ff 7) (ff 15) (ff 16) (ff 17) (hp 0) (hp 5) (hp 6) (hp 7) (hp 10) (hp 11) (hp 12) (hp 13) (hp 14) hg.1 hg.2.1 hg.2.2.1 hg.2.2.2) mt_X9_forces q_5_86 ⟨Nat.le_of_ble_eq_true rfl, Nat.le_of_ble_eq_true rfl⟩ hP hD hS [0, 2, 3, 9, 19, 20, 21, 22] [1, 4, 5, 6, 7, 8, 10, 11, 12, 13, 14, 15, 16, 17, 18, 23, 24, 25, 26, 27, 28, 29, 30, 31, 32, 33, 34, 35, 36, 37, 38, 39, 40, 41, 42, 43, 44, 45, 46, 47, 48, 49, 50, 51, 52, 53, 54, 55, 56, 57, 58] (by decide +kernel) rfl rfl (by decide +kernel) (by decide +kernel) 0 rfl rfl rfl rfl hlz rfl (Nat.le_of_ble_eq_true rfl) dL_law_1187 (by omega) (fun r w H locs hw hP hD hS => ?_)
  refine Exists.elim hw (fun n1 hw => ?_)
  refine Exists.elim hw (fun L1 hw => ?_)
  refine Exists.elim hw (fun Yw1 hw => ?_)
  refine Exists.elim hw (fun wa1 hw => ?_)
  refine Exists.elim hw (fun wb1 hw => ?_)
  refine Exists.elim hw (fun ft1 hw => ?_)
  refine Exists.elim hw (fun Yf1 hw => ?_)
  refine Exists.elim hw (fun g0 hw => ?_)
  refine Exists.elim hw (fun g1 hw => ?_)
  refine Exists.elim hw (fun g2 hw => ?_)
  refine Exists.elim hw (fun ww0 hw => ?_)
  refine Exists.elim hw (fun ww5 hw => ?_)
  refine Exists.elim hw (fun ww6 hw => ?_)
  refine Exists.elim hw (fun ww14 hw => ?_)
  refine Exists.elim hw (fun ww15 hw => ?_)
  refine Exists.elim hw (fun ww16 hw => ?_)
  refine Exists.elim hw (fun wew1 hw => ?_)
  refine Exists.elim hw (fun wew2 hw => ?_)
  refine Exists.elim hw (fun wew3 hw => ?_)
  refine Exists.elim hw (fun wew4 hw => ?_)
  refine Exists.elim hw (fun wew5 hw => ?_)
  refine Exists.elim hw (fun wew6 hw => ?_)
  refine Exists.elim hw (fun wew7 hw => ?_)
  refine Exists.elim hw (fun wew8 hw => ?_)
  refine Exists.elim hw (fun wew9 hw => ?_)
  refine Exists.elim hw (fun wf6 hw => ?_)
  refine Exists.elim hw (fun wef1 hw => ?_)
  refine Exists.elim hw (fun wef2 hw => ?_)
  refine Exists.elim hw (fun wef3 hw => ?_)
  refine Exists.elim hw (fun wef4 hw => ?_)
  refine Exists.elim hw (fun wef5 hw => ?_)
  refine And.elim (fun hn1 hw => ?_) hw
  refine And.elim (fun hL1 hw => ?_) hw
  refine And.elim (fun hft1 hw => ?_) hw
  refine And.elim (fun bww0 hw => ?_) hw
  refine And.elim (fun bww5 hw => ?_) hw
  refine And.elim (fun bww6 hw => ?_) hw
  refine And.elim (fun bww14 hw => ?_) hw
  refine And.elim (fun bww16 hw => ?_) hw
  refine And.elim (fun bwew1 hw => ?_) hw
  refine And.elim (fun bwew4 hw => ?_) hw
  refine And.elim (fun bwew5 hw => ?_) hw
  refine And.elim (fun bwew6 hw => ?_) hw
  refine And.elim (fun bwew7 hw => ?_) hw
  refine And.elim (fun bwf6 hw => ?_) hw
  refine And.elim (fun bwef1 hw => ?_) hw
  refine And.elim (fun bwef3 hw => ?_) hw
  refine And.elim (fun bwef4 hw => ?_) hw
  refine And.elim (fun bwef5 hw => ?_) hw
  refine And.elim (fun br hw => ?_) hw
  refine And.elim (fun g_0 hw => ?_) hw
  refine And.elim (fun g_1 hw => ?_) hw
  refine And.elim (fun g_2 hw => ?_) hw
  refine And.elim (fun g_3 hw => ?_) hw
  refine And.elim (fun g_4 hw => ?_) hw
  subst hw
  have hP := ptP (ws' := wB V y pp (up9 (up9 (up9 ff 15 g0) 16 g1) 17 g2) gg (.ref (Yw1 0)) (.ref (Yf1 0)) ++ (wY V y n1 L1 Yw1 wa1 wb1 (br9 17 (br9 8 (br9 4 (br9 2 (br9 1 (lf9 ww0) (fun _ => 0)) (fun _ => 0)) (br9 6 (br9 5 (fun _ => 0) (lf9 ww5)) (br9 7 (lf9 ww6) (fun _ => 0)))) (br9 12 (fun _ => 0) (br9 14 (fun _ => 0) (br9 15 (lf9 ww14) (br9 16 (lf9 ww15) (lf9 ww16)))))) (fun _ => 0)) (br9 9 (br9 4 (br9 2 (br9 1 (lf9 wew1) (lf9 wew2)) (br9 3 (lf9 wew3) (lf9 wew4))) (br9 6 (br9 5 (lf9 wew5) (lf9 wew6)) (br9 7 (lf9 wew7) (br9 8 (lf9 wew8) (lf9 wew9))))) (fun _ _ => 0)) ++ wO V (n1 + ft1) Yf1 (up9 (fun _ => 0) 6 wf6) (br9 5 (br9 2 (br9 1 (lf9 wef1) (lf9 wef2)) (br9 3 (lf9 wef3) (br9 4 (lf9 wef4) (lf9 wef5)))) (fun _ _ => 0)))) hP [51, 0, 52, 53, 1, 2, 3, 4, 5, 54, 6, 7, 8, 9, 10, 11, 12, 13, 14, 55, 56, 57, 58, 15, 16, 17, 18, 19, 20, 21, 22, 23, 24, 25, 26, 27, 28, 29, 30, 31, 32, 33, 34, 35, 36, 37, 38, 39, 40, 41, 42, 43, 44, 45, 46, 47, 48, 49, 50, 59, 60, 61, 62, 63, 64, 65, 66, 67, 68, 69, 70, 71, 72, 73, 74] rfl
  have hD := hD.part (cx := wB V y pp (up9 (up9 (up9 ff 15 g0) 16 g1) 17 g2) gg (.ref (Yw1 0)) (.ref (Yf1 0)) ++ (wY V y n1 L1 Yw1 wa1 wb1 (br9 17 (br9 8 (br9 4 (br9 2 (br9 1 (lf9 ww0) (fun _ => 0)) (fun _ => 0)) (br9 6 (br9 5 (fun _ => 0) (lf9 ww5)) (br9 7 (lf9 ww6) (fun _ => 0)))) (br9 12 (fun _ => 0) (br9 14 (fun _ => 0) (br9 15 (lf9 ww14) (br9 16 (lf9 ww15) (lf9 ww16)))))) (fun _ => 0)) (br9 9 (br9 4 (br9 2 (br9 1 (lf9 wew1) (lf9 wew2)) (br9 3 (lf9 wew3) (lf9 wew4))) (br9 6 (br9 5 (lf9 wew5) (lf9 wew6)) (br9 7 (lf9 wew7) (br9 8 (lf9 wew8) (lf9 wew9))))) (fun _ _ => 0)) ++ wO V (n1 + ft1) Yf1 (up9 (fun _ => 0) 6 wf6) (br9 5 (br9 2 (br9 1 (lf9 wef1) (lf9 wef2)) (br9 3 (lf9 wef3) (br9 4 (lf9 wef4) (lf9 wef5)))) (fun _ _ => 0)))) [51, 0, 52, 53, 1, 2, 3, 4, 5, 54, 6, 7, 8, 9, 10, 11, 12, 13, 14, 55, 56, 57, 58, 15, 16, 17, 18, 19, 20, 21, 22, 23, 24, 25, 26, 27, 28, 29, 30, 31, 32, 33, 34, 35, 36, 37, 38, 39, 40, 41, 42, 43, 44, 45, 46, 47, 48, 49, 50, 59, 60, 61, 62, 63, 64, 65, 66, 67, 68, 69, 70, 71, 72, 73, 74] (by decide +kernel) rfl
  exact kk r H locs (cells + 16) (slots + 82949) _ ⟨pp, (up9 (up9 (up9 ff 15 g0) 16 g1) 17 g2), gg, .ref (Yw1 0), (.ref (Yf1 0)), _, hp, ht0, ht1, ht2, ht3, ht4, Or.inr ⟨n1, L1, Yw1, wa1, wb1, (br9 17 (br9 8 (br9 4 (br9 2 (br9 1 (lf9 ww0) (fun _ => 0)) (fun _ => 0)) (br9 6 (br9 5 (fun _ => 0) (lf9 ww5)) (br9 7 (lf9 ww6) (fun _ => 0)))) (br9 12 (fun _ => 0) (br9 14 (fun _ => 0) (br9 15 (lf9 ww14) (br9 16 (lf9 ww15) (lf9 ww16)))))) (fun _ => 0)), (br9 9 (br9 4 (br9 2 (br9 1 (lf9 wew1) (lf9 wew2)) (br9 3 (lf9 wew3) (lf9 wew4))) (br9 6 (br9 5 (lf9 wew5) (lf9 wew6)) (br9 7 (lf9 wew7) (br9 8 (lf9 wew8) (lf9 wew9))))) (fun _ _ => 0)), wO V (n1 + ft1) Yf1 (up9 (fun _ => 0) 6 wf6) (br9 5 (br9 2 (br9 1 (lf9 wef1) (lf9 wef2)) (br9 3 (lf9 wef3) (br9 4 (lf9 wef4) (lf9 wef5)))) (fun _ _ => 0)), (n1 + ft1), ⟨hn1, hL1, bww0, bww5, bww6, bww14, bww16, bwew1, bwew4, bwew5, bwew6, bwew7, g_0, g_1, g_2⟩, (Or.inr ⟨Yf1, (up9 (fun _ => 0) 6 wf6), (br9 5 (br9 2 (br9 1 (lf9 wef1) (lf9 wef2)) (br9 3 (lf9 wef3) (br9 4 (lf9 wef4) (lf9 wef5)))) (fun _ _ => 0)), ⟨by omega, by omega⟩, (iv_w bwf6 (by omega)), (fun j => iv_w (bwef1 j) (by omega)), (fun j => iv_w (bwef3 j) (by omega)), (fun j => iv_w (bwef4 j) (by omega)), (fun j => iv_w (bwef5 j) (by omega)), rfl, rfl⟩), (show PTn _ _ _ _ ww0 from by rw [g_3]; exact PTn_0 16 82949 hc (hp 5) (by decide) (by decide) n1 (n1 + ft1)), rfl, rfl⟩, rfl⟩ hP hD hS
set_option maxHeartbeats 4000000 in
set_option maxRecDepth 100000 in
theorem cx_34_nb {p : Program} {e : Env} {s : State} {m : MethodId} {below : List Frame} {meth : Method} {c : Code} {l : Launch} {b Lk : Nat} {xs : Nat → Int32} {V : GV} {y : Nat → Nat} {τ : Nat → Int32} {H : Heap} {locs : List Loc} {cells slots : Nat} {wz : va_W} {ls : Array Slot} (G : LCx p s m meth c b Lk xs V) (a1 : Int32) (a2 : Int32) {pp : Nat → Int32} {ff : Nat → Nat → Int32} {gg : Nat → Nat → Int64} {n L : Nat} {Yw : Nat → Nat} {wa wb : Nat} {qq : Nat → Int32} {ee : Nat → Nat → Int32}  (hp : ivT tX pp) (ht0 : pp 0 = τ 0) (ht1 : pp 15 = τ 1) (ht2 : pp 16 = τ 2) (ht3 : BTs (ff 0) (tauT τ)) (ht4 : (∀ j, iv (-128) 127 ((ff 0) j))) (hW : WFa n L qq ee) (hT : PTn cells slots n 0 (qq 0)) (hq : qq 0 < pp 5) (hg : 0 ≤ (a1 : Int32).toInt ∧ (a1 : Int32).toInt < ((pp 5) : Int32).toInt ∧ 0 ≤ (a2 : Int32).toInt ∧ (a2 : Int32).toInt ≤ 4) (hP : va_P V.1 vwCl (wB V y pp ff gg (.ref (Yw 0)) .null ++ (wY V y n L Yw wa wb qq ee ++ []) ++ wz) H) (hD : va_D (AAs s) (wB V y pp ff gg (.ref (Yw 0)) .null ++ (wY V y n L Yw wa wb qq ee ++ []) ++ wz)) (hS : va_S (AAs s) s.heap H locs) (hlz : ls.size = 4) (kk : (∀ (r : Int32) (H : Heap) (locs : List Loc) (cells slots : Nat) (wx : va_W), KX V y cells slots τ wx → va_P V.1 vwCl (wx ++ wz) H → va_D (AAs s) (wx ++ wz) → va_S (AAs s) s.heap H locs → W p l e room_1 s m #[Value.ref b] below meth c H locs cells slots (lw_Z below #[Value.ref b] s) (F0 m 1190 ls [.int r]))) : W p l e room_1 s m #[Value.ref b] below meth c H locs cells slots (lw_Z below #[Value.ref b] s) (F0 m 1187 ls [.int a2, .int a1, .ref (y 0)]) := by
  obtain ⟨hn, hL, hw_q0, hw_q5, hw_q6, hw_q14, hw_q16, hw_tYw1, hw_tYw4, hw_tYw5, hw_tYw6, hw_tYw7, hw_WA, hw_WB, hw_WC⟩ := id hW
  have hTB := PTn_B 16 82949 hT hw_q0 (hp 5) hq (by decide) (by decide)
  refine cXI (X := wB V y pp ff gg (.ref (Yw 0)) .null ++ (wY V y n L Yw wa wb qq ee ++ [])) (pl := wz) (wr := [(y 1, aB V 900 (ff 0)), (y 4, aI V 4 (ff 2)), (y 5, aI V 4 (ff 3)), (y 6, aI V 8 (ff 4)), (y 7, aI V 8 (ff 5)), (y 8, aI V 8 (ff 6)), (y 10, .inr (6, [.ref (y 11), .int (pp 15), .int (pp 16), .ref (y 1), .int (pp 17), .int (pp 18), .int (pp 19), .int (pp 20), .int (pp 21)])), (y 11, .inr (1, [.int (pp 22), .int (pp 23), .int (pp 24), .int (pp 25), .int (pp 26), .int (pp 27), .ref (y 12), .ref (y 13), .ref (y 14), .ref (y 15), .ref (y 16), .ref (y 17), .ref (y 18), .int (pp 28), .int (pp 29), .int (pp 30), .int (pp 31), .int (pp 32)])), (y 12, aI V 4 (ff 8)), (y 13, aI V 4 (ff 9)), (y 14, aI V 4 (ff 10)), (y 15, aI V 8 (ff 11)), (y 16, aI V 8 (ff 12)), (y 17, aI V 8 (ff 13)), (y 18, aI V 900 (ff 14)), (y 23, aI V 10 (ff 18)), (y 24, aI V 10 (ff 19)), (y 25, .inr (0, [.int (pp 33), .int (pp 34)])), (y 26, .inr (5, [.ref (y 27), .ref (y 28), .ref (y 29), .int (pp 35)])), (y 27, aI V 10 (ff 20)), (y 28, aI V 10 (ff 21)), (y 29, aI V 10 (ff 22)), (y 30, aT V 4 (va_up (va_up (va_up (va_up (fun _ => none) 0 (some (y 33))) 1 (some (y 35))) 2 (some (y 37))) 3 (some (y 39)))), (y 31, aM V 2 (va_up (va_up (fun _ => none) 0 (some (y 41))) 1 (some (y 50)))), (y 32, aI V 10 (ff 23)), (y 33, .inr (7, [.ref (y 34), .int (pp 36), .int (pp 37)])), (y 34, aJ V 40 (gg 0)), (y 35, .inr (7, [.ref (y 36), .int (pp 38), .int (pp 39)])), (y 36, aJ V 40 (gg 1)), (y 37, .inr (7, [.ref (y 38), .int (pp 40), .int (pp 41)])), (y 38, aJ V 40 (gg 2)), (y 39, .inr (7, [.ref (y 40), .int (pp 42), .int (pp 43)])), (y 40, aJ V 40 (gg 3)), (y 41, .inr (3, [.ref (y 42), .int (pp 44), .int (pp 45), .int (pp 46), .int (pp 47)])), (y 42, .inr (1, [.int (pp 48), .int (pp 49), .int (pp 50), .int (pp 51), .int (pp 52), .int (pp 53), .ref (y 43), .ref (y 44), .ref (y 45), .ref (y 46), .ref (y 47), .ref (y 48), .ref (y 49), .int (pp 54), .int (pp 55), .int (pp 56), .int (pp 57), .int (pp 58)])), (y 43, aI V 4 (ff 24)), (y 44, aI V 4 (ff 25)), (y 45, aI V 4 (ff 26)), (y 46, aI V 8 (ff 27)), (y 47, aI V 8 (ff 28)), (y 48, aI V 8 (ff 29)), (y 49, aI V 900 (ff 30)), (y 50, .inr (3, [.ref (y 51), .int (pp 59), .int (pp 60), .int (pp 61), .int (pp 62)])), (y 51, .inr (1, [.int (pp 63), .int (pp 64), .int (pp 65), .int (pp 66), .int (pp 67), .int (pp 68), .ref (y 52), .ref (y 53), .ref (y 54), .ref (y 55), .ref (y 56), .ref (y 57), .ref (y 58), .int (pp 69), .int (pp 70), .int (pp 71), .int (pp 72), .int (pp 73)])), (y 52, aI V 4 (ff 31)), (y 53, aI V 4 (ff 32)), (y 54, aI V 4 (ff 33)), (y 55, aI V 8 (ff 34)), (y 56, aI V 8 (ff 35)), (y 57, aI V 8 (ff 36)), (y 58, aI V 900 (ff 37))]) (rest := []) G (k_X9_forces_3 l V n L Yw y a1 a2 (pp 0) (pp 1) (pp 2) (pp 3) (pp 4) (pp 5) (pp 6) (pp 7) (pp 8) (pp 9) (pp 10) (pp 11) (pp 12) (pp 13) (pp 14) (ff 1) (ff 7) (ff 15) (ff 16) (ff 17) (qq 0) wa (qq 5) (qq 6) wb (qq 14) (qq 15) (qq 16) (ee 0) (ee 1) (ee 2) (ee 3) (ee 4) (ee 5) (ee 6) (ee 7) (ee 8) hn hL hq (hp 0) (hp 5) (hp 6) (hp 7) (hp 10) (hp 11) (hp 12) (hp 13) (hp 14) hw_q0 hw_q5 hw_q6 hw_q14 hw_q16 hw_tYw1 hw_tYw4 hw_tYw5 hw_tYw6 hw_tYw7 hw_WA hw_WB hw_WC hg.1 hg.2.1 hg.2.2.1 hg.2.2.2) mt_X9_forces q_5_86 ⟨Nat.le_of_ble_eq_true rfl, Nat.le_of_ble_eq_true rfl⟩ hP hD hS [0, 2, 3, 9, 19, 20, 21, 22, 59, 60, 61, 62, 63, 64, 65, 66, 67, 68] [1, 4, 5, 6, 7, 8, 10, 11, 12, 13, 14, 15, 16, 17, 18, 23, 24, 25, 26, 27, 28, 29, 30, 31, 32, 33, 34, 35, 36, 37, 38, 39, 40, 41, 42, 43, 44, 45, 46, 47, 48, 49, 50, 51, 52, 53, 54, 55, 56, 57, 58] (by decide +kernel) rfl rfl (by decide +kernel) (by decide +kernel) 0 rfl rfl rfl rfl hlz rfl (Nat.le_of_ble_eq_true rfl) dL_law_1187 hTB.1 (fun r w H locs hw hP hD hS => ?_)
  refine Exists.elim hw (fun n1 hw => ?_)
  refine Exists.elim hw (fun L1 hw => ?_)
  refine Exists.elim hw (fun Yw1 hw => ?_)
  refine Exists.elim hw (fun wa1 hw => ?_)
  refine Exists.elim hw (fun wb1 hw => ?_)
  refine Exists.elim hw (fun ft1 hw => ?_)
  refine Exists.elim hw (fun Yf1 hw => ?_)
  refine Exists.elim hw (fun g0 hw => ?_)
  refine Exists.elim hw (fun g1 hw => ?_)
  refine Exists.elim hw (fun g2 hw => ?_)
  refine Exists.elim hw (fun ww0 hw => ?_)
  refine Exists.elim hw (fun ww5 hw => ?_)
  refine Exists.elim hw (fun ww6 hw => ?_)
  refine Exists.elim hw (fun ww14 hw => ?_)
  refine Exists.elim hw (fun ww15 hw => ?_)
  refine Exists.elim hw (fun ww16 hw => ?_)
  refine Exists.elim hw (fun wew1 hw => ?_)
  refine Exists.elim hw (fun wew2 hw => ?_)
  refine Exists.elim hw (fun wew3 hw => ?_)
  refine Exists.elim hw (fun wew4 hw => ?_)
  refine Exists.elim hw (fun wew5 hw => ?_)
  refine Exists.elim hw (fun wew6 hw => ?_)
  refine Exists.elim hw (fun wew7 hw => ?_)
  refine Exists.elim hw (fun wew8 hw => ?_)
  refine Exists.elim hw (fun wew9 hw => ?_)
  refine Exists.elim hw (fun wf6 hw => ?_)
  refine Exists.elim hw (fun wef1 hw => ?_)
  refine Exists.elim hw (fun wef2 hw => ?_)
  refine Exists.elim hw (fun wef3 hw => ?_)
  refine Exists.elim hw (fun wef4 hw => ?_)
  refine Exists.elim hw (fun wef5 hw => ?_)
  refine And.elim (fun hn1 hw => ?_) hw
  refine And.elim (fun hL1 hw => ?_) hw
  refine And.elim (fun hft1 hw => ?_) hw
  refine And.elim (fun bww0 hw => ?_) hw
  refine And.elim (fun bww5 hw => ?_) hw
  refine And.elim (fun bww6 hw => ?_) hw
  refine And.elim (fun bww14 hw => ?_) hw
  refine And.elim (fun bww16 hw => ?_) hw
  refine And.elim (fun bwew1 hw => ?_) hw
  refine And.elim (fun bwew4 hw => ?_) hw
  refine And.elim (fun bwew5 hw => ?_) hw
  refine And.elim (fun bwew6 hw => ?_) hw
  refine And.elim (fun bwew7 hw => ?_) hw
  refine And.elim (fun bwf6 hw => ?_) hw
  refine And.elim (fun bwef1 hw => ?_) hw
  refine And.elim (fun bwef3 hw => ?_) hw
  refine And.elim (fun bwef4 hw => ?_) hw
  refine And.elim (fun bwef5 hw => ?_) hw
  refine And.elim (fun br hw => ?_) hw
  refine And.elim (fun g_0 hw => ?_) hw
  refine And.elim (fun g_1 hw => ?_) hw
  refine And.elim (fun g_2 hw => ?_) hw
  refine And.elim (fun g_3 hw => ?_) hw
  refine And.elim (fun g_4 hw => ?_) hw
  subst hw
  have hP := ptP (ws' := wB V y pp (up9 (up9 (up9 ff 15 g0) 16 g1) 17 g2) gg (.ref (Yw1 0)) (.ref (Yf1 0)) ++ (wY V y n1 L1 Yw1 wa1 wb1 (br9 17 (br9 8 (br9 4 (br9 2 (br9 1 (lf9 ww0) (fun _ => 0)) (fun _ => 0)) (br9 6 (br9 5 (fun _ => 0) (lf9 ww5)) (br9 7 (lf9 ww6) (fun _ => 0)))) (br9 12 (fun _ => 0) (br9 14 (fun _ => 0) (br9 15 (lf9 ww14) (br9 16 (lf9 ww15) (lf9 ww16)))))) (fun _ => 0)) (br9 9 (br9 4 (br9 2 (br9 1 (lf9 wew1) (lf9 wew2)) (br9 3 (lf9 wew3) (lf9 wew4))) (br9 6 (br9 5 (lf9 wew5) (lf9 wew6)) (br9 7 (lf9 wew7) (br9 8 (lf9 wew8) (lf9 wew9))))) (fun _ _ => 0)) ++ wO V (n1 + ft1) Yf1 (up9 (fun _ => 0) 6 wf6) (br9 5 (br9 2 (br9 1 (lf9 wef1) (lf9 wef2)) (br9 3 (lf9 wef3) (br9 4 (lf9 wef4) (lf9 wef5)))) (fun _ _ => 0)))) hP [51, 0, 52, 53, 1, 2, 3, 4, 5, 54, 6, 7, 8, 9, 10, 11, 12, 13, 14, 55, 56, 57, 58, 15, 16, 17, 18, 19, 20, 21, 22, 23, 24, 25, 26, 27, 28, 29, 30, 31, 32, 33, 34, 35, 36, 37, 38, 39, 40, 41, 42, 43, 44, 45, 46, 47, 48, 49, 50, 59, 60, 61, 62, 63, 64, 65, 66, 67, 68, 69, 70, 71, 72, 73, 74] rfl
  have hD := hD.part (cx := wB V y pp (up9 (up9 (up9 ff 15 g0) 16 g1) 17 g2) gg (.ref (Yw1 0)) (.ref (Yf1 0)) ++ (wY V y n1 L1 Yw1 wa1 wb1 (br9 17 (br9 8 (br9 4 (br9 2 (br9 1 (lf9 ww0) (fun _ => 0)) (fun _ => 0)) (br9 6 (br9 5 (fun _ => 0) (lf9 ww5)) (br9 7 (lf9 ww6) (fun _ => 0)))) (br9 12 (fun _ => 0) (br9 14 (fun _ => 0) (br9 15 (lf9 ww14) (br9 16 (lf9 ww15) (lf9 ww16)))))) (fun _ => 0)) (br9 9 (br9 4 (br9 2 (br9 1 (lf9 wew1) (lf9 wew2)) (br9 3 (lf9 wew3) (lf9 wew4))) (br9 6 (br9 5 (lf9 wew5) (lf9 wew6)) (br9 7 (lf9 wew7) (br9 8 (lf9 wew8) (lf9 wew9))))) (fun _ _ => 0)) ++ wO V (n1 + ft1) Yf1 (up9 (fun _ => 0) 6 wf6) (br9 5 (br9 2 (br9 1 (lf9 wef1) (lf9 wef2)) (br9 3 (lf9 wef3) (br9 4 (lf9 wef4) (lf9 wef5)))) (fun _ _ => 0)))) [51, 0, 52, 53, 1, 2, 3, 4, 5, 54, 6, 7, 8, 9, 10, 11, 12, 13, 14, 55, 56, 57, 58, 15, 16, 17, 18, 19, 20, 21, 22, 23, 24, 25, 26, 27, 28, 29, 30, 31, 32, 33, 34, 35, 36, 37, 38, 39, 40, 41, 42, 43, 44, 45, 46, 47, 48, 49, 50, 59, 60, 61, 62, 63, 64, 65, 66, 67, 68, 69, 70, 71, 72, 73, 74] (by decide +kernel) rfl
  exact kk r H locs (cells + 16) (slots + 82949) _ ⟨pp, (up9 (up9 (up9 ff 15 g0) 16 g1) 17 g2), gg, .ref (Yw1 0), .ref (Yf1 0), _, hp, ht0, ht1, ht2, ht3, ht4, Or.inr ⟨n1, L1, Yw1, wa1, wb1, (br9 17 (br9 8 (br9 4 (br9 2 (br9 1 (lf9 ww0) (fun _ => 0)) (fun _ => 0)) (br9 6 (br9 5 (fun _ => 0) (lf9 ww5)) (br9 7 (lf9 ww6) (fun _ => 0)))) (br9 12 (fun _ => 0) (br9 14 (fun _ => 0) (br9 15 (lf9 ww14) (br9 16 (lf9 ww15) (lf9 ww16)))))) (fun _ => 0)), (br9 9 (br9 4 (br9 2 (br9 1 (lf9 wew1) (lf9 wew2)) (br9 3 (lf9 wew3) (lf9 wew4))) (br9 6 (br9 5 (lf9 wew5) (lf9 wew6)) (br9 7 (lf9 wew7) (br9 8 (lf9 wew8) (lf9 wew9))))) (fun _ _ => 0)), _, n1 + ft1, ⟨hn1, hL1, bww0, bww5, bww6, bww14, bww16, bwew1, bwew4, bwew5, bwew6, bwew7, g_0, g_1, g_2⟩, (Or.inr ⟨Yf1, (up9 (fun _ => 0) 6 wf6), (br9 5 (br9 2 (br9 1 (lf9 wef1) (lf9 wef2)) (br9 3 (lf9 wef3) (br9 4 (lf9 wef4) (lf9 wef5)))) (fun _ _ => 0)), ⟨by omega, by omega⟩, (iv_w bwf6 (by omega)), (fun j => iv_w (bwef1 j) (by omega)), (fun j => iv_w (bwef3 j) (by omega)), (fun j => iv_w (bwef4 j) (by omega)), (fun j => iv_w (bwef5 j) (by omega)), rfl, rfl⟩), (show PTn _ _ _ _ ww0 from by rw [g_3]; exact hTB.2 n1 (n1 + ft1)), rfl, rfl⟩, rfl⟩ hP hD hS
set_option maxHeartbeats 4000000 in
set_option maxRecDepth 100000 in
theorem cx_34_na {p : Program} {e : Env} {s : State} {m : MethodId} {below : List Frame} {meth : Method} {c : Code} {l : Launch} {b Lk : Nat} {xs : Nat → Int32} {V : GV} {y : Nat → Nat} {τ : Nat → Int32} {H : Heap} {locs : List Loc} {cells slots : Nat} {wz : va_W} {ls : Array Slot} (G : LCx p s m meth c b Lk xs V) (a1 : Int32) (a2 : Int32) {pp : Nat → Int32} {ff : Nat → Nat → Int32} {gg : Nat → Nat → Int64} {n L : Nat} {Yw : Nat → Nat} {wa wb : Nat} {qq : Nat → Int32} {ee : Nat → Nat → Int32}  (hp : ivT tX pp) (ht0 : pp 0 = τ 0) (ht1 : pp 15 = τ 1) (ht2 : pp 16 = τ 2) (ht3 : BTs (ff 0) (tauT τ)) (ht4 : (∀ j, iv (-128) 127 ((ff 0) j))) (hW : WFa n L qq ee) (hT : PTn cells slots n 0 (qq 0)) (hq : pp 5 ≤ qq 0) (hg : 0 ≤ (a1 : Int32).toInt ∧ (a1 : Int32).toInt < ((pp 5) : Int32).toInt ∧ 0 ≤ (a2 : Int32).toInt ∧ (a2 : Int32).toInt ≤ 4) (hP : va_P V.1 vwCl (wB V y pp ff gg (.ref (Yw 0)) .null ++ (wY V y n L Yw wa wb qq ee ++ []) ++ wz) H) (hD : va_D (AAs s) (wB V y pp ff gg (.ref (Yw 0)) .null ++ (wY V y n L Yw wa wb qq ee ++ []) ++ wz)) (hS : va_S (AAs s) s.heap H locs) (hlz : ls.size = 4) (kk : (∀ (r : Int32) (H : Heap) (locs : List Loc) (cells slots : Nat) (wx : va_W), KX V y cells slots τ wx → va_P V.1 vwCl (wx ++ wz) H → va_D (AAs s) (wx ++ wz) → va_S (AAs s) s.heap H locs → W p l e room_1 s m #[Value.ref b] below meth c H locs cells slots (lw_Z below #[Value.ref b] s) (F0 m 1190 ls [.int r]))) : W p l e room_1 s m #[Value.ref b] below meth c H locs cells slots (lw_Z below #[Value.ref b] s) (F0 m 1187 ls [.int a2, .int a1, .ref (y 0)]) := by
  obtain ⟨hn, hL, hw_q0, hw_q5, hw_q6, hw_q14, hw_q16, hw_tYw1, hw_tYw4, hw_tYw5, hw_tYw6, hw_tYw7, hw_WA, hw_WB, hw_WC⟩ := id hW
  have hTB := PTn_f hT hw_q0 (by omega)
  refine cXI (X := wB V y pp ff gg (.ref (Yw 0)) .null ++ (wY V y n L Yw wa wb qq ee ++ [])) (pl := wz) (wr := [(y 1, aB V 900 (ff 0)), (y 4, aI V 4 (ff 2)), (y 5, aI V 4 (ff 3)), (y 6, aI V 8 (ff 4)), (y 7, aI V 8 (ff 5)), (y 8, aI V 8 (ff 6)), (y 10, .inr (6, [.ref (y 11), .int (pp 15), .int (pp 16), .ref (y 1), .int (pp 17), .int (pp 18), .int (pp 19), .int (pp 20), .int (pp 21)])), (y 11, .inr (1, [.int (pp 22), .int (pp 23), .int (pp 24), .int (pp 25), .int (pp 26), .int (pp 27), .ref (y 12), .ref (y 13), .ref (y 14), .ref (y 15), .ref (y 16), .ref (y 17), .ref (y 18), .int (pp 28), .int (pp 29), .int (pp 30), .int (pp 31), .int (pp 32)])), (y 12, aI V 4 (ff 8)), (y 13, aI V 4 (ff 9)), (y 14, aI V 4 (ff 10)), (y 15, aI V 8 (ff 11)), (y 16, aI V 8 (ff 12)), (y 17, aI V 8 (ff 13)), (y 18, aI V 900 (ff 14)), (y 23, aI V 10 (ff 18)), (y 24, aI V 10 (ff 19)), (y 25, .inr (0, [.int (pp 33), .int (pp 34)])), (y 26, .inr (5, [.ref (y 27), .ref (y 28), .ref (y 29), .int (pp 35)])), (y 27, aI V 10 (ff 20)), (y 28, aI V 10 (ff 21)), (y 29, aI V 10 (ff 22)), (y 30, aT V 4 (va_up (va_up (va_up (va_up (fun _ => none) 0 (some (y 33))) 1 (some (y 35))) 2 (some (y 37))) 3 (some (y 39)))), (y 31, aM V 2 (va_up (va_up (fun _ => none) 0 (some (y 41))) 1 (some (y 50)))), (y 32, aI V 10 (ff 23)), (y 33, .inr (7, [.ref (y 34), .int (pp 36), .int (pp 37)])), (y 34, aJ V 40 (gg 0)), (y 35, .inr (7, [.ref (y 36), .int (pp 38), .int (pp 39)])), (y 36, aJ V 40 (gg 1)), (y 37, .inr (7, [.ref (y 38), .int (pp 40), .int (pp 41)])), (y 38, aJ V 40 (gg 2)), (y 39, .inr (7, [.ref (y 40), .int (pp 42), .int (pp 43)])), (y 40, aJ V 40 (gg 3)), (y 41, .inr (3, [.ref (y 42), .int (pp 44), .int (pp 45), .int (pp 46), .int (pp 47)])), (y 42, .inr (1, [.int (pp 48), .int (pp 49), .int (pp 50), .int (pp 51), .int (pp 52), .int (pp 53), .ref (y 43), .ref (y 44), .ref (y 45), .ref (y 46), .ref (y 47), .ref (y 48), .ref (y 49), .int (pp 54), .int (pp 55), .int (pp 56), .int (pp 57), .int (pp 58)])), (y 43, aI V 4 (ff 24)), (y 44, aI V 4 (ff 25)), (y 45, aI V 4 (ff 26)), (y 46, aI V 8 (ff 27)), (y 47, aI V 8 (ff 28)), (y 48, aI V 8 (ff 29)), (y 49, aI V 900 (ff 30)), (y 50, .inr (3, [.ref (y 51), .int (pp 59), .int (pp 60), .int (pp 61), .int (pp 62)])), (y 51, .inr (1, [.int (pp 63), .int (pp 64), .int (pp 65), .int (pp 66), .int (pp 67), .int (pp 68), .ref (y 52), .ref (y 53), .ref (y 54), .ref (y 55), .ref (y 56), .ref (y 57), .ref (y 58), .int (pp 69), .int (pp 70), .int (pp 71), .int (pp 72), .int (pp 73)])), (y 52, aI V 4 (ff 31)), (y 53, aI V 4 (ff 32)), (y 54, aI V 4 (ff 33)), (y 55, aI V 8 (ff 34)), (y 56, aI V 8 (ff 35)), (y 57, aI V 8 (ff 36)), (y 58, aI V 900 (ff 37))]) (rest := []) G (k_X9_forces_4 l V n L Yw y a1 a2 (pp 0) (pp 1) (pp 2) (pp 3) (pp 4) (pp 5) (pp 6) (pp 7) (pp 8) (pp 9) (pp 10) (pp 11) (pp 12) (pp 13) (pp 14) (ff 1) (ff 7) (ff 15) (ff 16) (ff 17) (qq 0) wa (qq 5) (qq 6) wb (qq 14) (qq 15) (qq 16) (ee 0) (ee 1) (ee 2) (ee 3) (ee 4) (ee 5) (ee 6) (ee 7) (ee 8) hn hL hq (hp 0) (hp 5) (hp 6) (hp 7) (hp 10) (hp 11) (hp 12) (hp 13) (hp 14) hw_q0 hw_q5 hw_q6 hw_q14 hw_q16 hw_tYw1 hw_tYw4 hw_tYw5 hw_tYw6 hw_tYw7 hw_WA hw_WB hw_WC hg.1 hg.2.1 hg.2.2.1 hg.2.2.2) mt_X9_forces q_5_86 ⟨Nat.le_of_ble_eq_true rfl, Nat.le_of_ble_eq_true rfl⟩ hP hD hS [0, 2, 3, 9, 19, 20, 21, 22, 59, 60, 61, 62, 63, 64, 65, 66, 67, 68] [1, 4, 5, 6, 7, 8, 10, 11, 12, 13, 14, 15, 16, 17, 18, 23, 24, 25, 26, 27, 28, 29, 30, 31, 32, 33, 34, 35, 36, 37, 38, 39, 40, 41, 42, 43, 44, 45, 46, 47, 48, 49, 50, 51, 52, 53, 54, 55, 56, 57, 58] (by decide +kernel) rfl rfl (by decide +kernel) (by decide +kernel) 0 rfl rfl rfl rfl hlz rfl (Nat.le_of_ble_eq_true rfl) dL_law_1187 hTB.1 (fun r w H locs hw hP hD hS => ?_)
  refine Exists.elim hw (fun ft1 hw => ?_)
  refine Exists.elim hw (fun Yf1 hw => ?_)
  refine Exists.elim hw (fun g0 hw => ?_)
  refine Exists.elim hw (fun g1 hw => ?_)
  refine Exists.elim hw (fun g2 hw => ?_)
  refine Exists.elim hw (fun v3 hw => ?_)
  refine Exists.elim hw (fun v4 hw => ?_)
  refine Exists.elim hw (fun v5 hw => ?_)
  refine Exists.elim hw (fun v6 hw => ?_)
  refine Exists.elim hw (fun v7 hw => ?_)
  refine Exists.elim hw (fun g8 hw => ?_)
  refine Exists.elim hw (fun g9 hw => ?_)
  refine Exists.elim hw (fun g10 hw => ?_)
  refine Exists.elim hw (fun g11 hw => ?_)
  refine Exists.elim hw (fun g12 hw => ?_)
  refine Exists.elim hw (fun g13 hw => ?_)
  refine Exists.elim hw (fun wf6 hw => ?_)
  refine Exists.elim hw (fun wef1 hw => ?_)
  refine Exists.elim hw (fun wef2 hw => ?_)
  refine Exists.elim hw (fun wef3 hw => ?_)
  refine Exists.elim hw (fun wef4 hw => ?_)
  refine Exists.elim hw (fun wef5 hw => ?_)
  refine And.elim (fun hft1 hw => ?_) hw
  refine And.elim (fun bv3 hw => ?_) hw
  refine And.elim (fun bv4 hw => ?_) hw
  refine And.elim (fun bv5 hw => ?_) hw
  refine And.elim (fun bv7 hw => ?_) hw
  refine And.elim (fun bg8 hw => ?_) hw
  refine And.elim (fun bg10 hw => ?_) hw
  refine And.elim (fun bg11 hw => ?_) hw
  refine And.elim (fun bg12 hw => ?_) hw
  refine And.elim (fun bwf6 hw => ?_) hw
  refine And.elim (fun bwef1 hw => ?_) hw
  refine And.elim (fun bwef3 hw => ?_) hw
  refine And.elim (fun bwef4 hw => ?_) hw
  refine And.elim (fun bwef5 hw => ?_) hw
  refine And.elim (fun br hw => ?_) hw
  refine And.elim (fun g_0 hw => ?_) hw
  refine And.elim (fun g_1 hw => ?_) hw
  refine And.elim (fun g_2 hw => ?_) hw
  refine And.elim (fun g_3 hw => ?_) hw
  subst hw
  have hP := ptP (ws' := wB V y pp (up9 (up9 (up9 ff 15 g0) 16 g1) 17 g2) gg (.ref (Yw 0)) (.ref (Yf1 0)) ++ (wY V y n L Yw wa wb (br9 17 (br9 8 (br9 4 qq (br9 6 (br9 5 qq (lf9 v3)) (br9 7 (lf9 v4) qq))) (br9 12 qq (br9 14 qq (br9 15 (lf9 v5) (br9 16 (lf9 v6) (lf9 v7)))))) qq) (br9 8 (br9 4 (br9 2 (br9 1 (lf9 g8) (lf9 g9)) (br9 3 ee (lf9 g10))) (br9 6 (br9 5 (lf9 g11) (lf9 g12)) (br9 7 ee (lf9 g13)))) ee) ++ wO V (n + ft1) Yf1 (up9 (fun _ => 0) 6 wf6) (br9 5 (br9 2 (br9 1 (lf9 wef1) (lf9 wef2)) (br9 3 (lf9 wef3) (br9 4 (lf9 wef4) (lf9 wef5)))) (fun _ _ => 0)))) hP [51, 0, 52, 53, 1, 2, 3, 4, 5, 54, 6, 7, 8, 9, 10, 11, 12, 13, 14, 55, 56, 57, 58, 15, 16, 17, 18, 19, 20, 21, 22, 23, 24, 25, 26, 27, 28, 29, 30, 31, 32, 33, 34, 35, 36, 37, 38, 39, 40, 41, 42, 43, 44, 45, 46, 47, 48, 49, 50, 59, 60, 61, 62, 63, 64, 65, 66, 67, 68, 69, 70, 71, 72, 73, 74] rfl
  have hD := hD.part (cx := wB V y pp (up9 (up9 (up9 ff 15 g0) 16 g1) 17 g2) gg (.ref (Yw 0)) (.ref (Yf1 0)) ++ (wY V y n L Yw wa wb (br9 17 (br9 8 (br9 4 qq (br9 6 (br9 5 qq (lf9 v3)) (br9 7 (lf9 v4) qq))) (br9 12 qq (br9 14 qq (br9 15 (lf9 v5) (br9 16 (lf9 v6) (lf9 v7)))))) qq) (br9 8 (br9 4 (br9 2 (br9 1 (lf9 g8) (lf9 g9)) (br9 3 ee (lf9 g10))) (br9 6 (br9 5 (lf9 g11) (lf9 g12)) (br9 7 ee (lf9 g13)))) ee) ++ wO V (n + ft1) Yf1 (up9 (fun _ => 0) 6 wf6) (br9 5 (br9 2 (br9 1 (lf9 wef1) (lf9 wef2)) (br9 3 (lf9 wef3) (br9 4 (lf9 wef4) (lf9 wef5)))) (fun _ _ => 0)))) [51, 0, 52, 53, 1, 2, 3, 4, 5, 54, 6, 7, 8, 9, 10, 11, 12, 13, 14, 55, 56, 57, 58, 15, 16, 17, 18, 19, 20, 21, 22, 23, 24, 25, 26, 27, 28, 29, 30, 31, 32, 33, 34, 35, 36, 37, 38, 39, 40, 41, 42, 43, 44, 45, 46, 47, 48, 49, 50, 59, 60, 61, 62, 63, 64, 65, 66, 67, 68, 69, 70, 71, 72, 73, 74] (by decide +kernel) rfl
  exact kk r H locs (cells + 6) (slots + 36468) _ ⟨pp, (up9 (up9 (up9 ff 15 g0) 16 g1) 17 g2), gg, .ref (Yw 0), .ref (Yf1 0), _, hp, ht0, ht1, ht2, ht3, ht4, Or.inr ⟨n, L, Yw, wa, wb, (br9 17 (br9 8 (br9 4 qq (br9 6 (br9 5 qq (lf9 v3)) (br9 7 (lf9 v4) qq))) (br9 12 qq (br9 14 qq (br9 15 (lf9 v5) (br9 16 (lf9 v6) (lf9 v7)))))) qq), (br9 8 (br9 4 (br9 2 (br9 1 (lf9 g8) (lf9 g9)) (br9 3 ee (lf9 g10))) (br9 6 (br9 5 (lf9 g11) (lf9 g12)) (br9 7 ee (lf9 g13)))) ee), _, n + ft1, ⟨hn, hL, hw_q0, bv3, bv4, bv5, bv7, bg8, bg10, bg11, bg12, hw_tYw7, g_0, g_1, g_2⟩, (Or.inr ⟨Yf1, (up9 (fun _ => 0) 6 wf6), (br9 5 (br9 2 (br9 1 (lf9 wef1) (lf9 wef2)) (br9 3 (lf9 wef3) (br9 4 (lf9 wef4) (lf9 wef5)))) (fun _ _ => 0)), ⟨by omega, by omega⟩, (iv_w bwf6 (by omega)), (fun j => iv_w (bwef1 j) (by omega)), (fun j => iv_w (bwef3 j) (by omega)), (fun j => iv_w (bwef4 j) (by omega)), (fun j => iv_w (bwef5 j) (by omega)), rfl, rfl⟩), hTB.2 ft1, rfl, rfl⟩, rfl⟩ hP hD hS
set_option maxHeartbeats 4000000 in
set_option maxRecDepth 100000 in
theorem cx_34_ga {p : Program} {e : Env} {s : State} {m : MethodId} {below : List Frame} {meth : Method} {c : Code} {l : Launch} {b Lk : Nat} {xs : Nat → Int32} {V : GV} {y : Nat → Nat} {τ : Nat → Int32} {H : Heap} {locs : List Loc} {cells slots : Nat} {wz : va_W} {ls : Array Slot} (G : LCx p s m meth c b Lk xs V) (a1 : Int32) (a2 : Int32) {pp : Nat → Int32} {ff : Nat → Nat → Int32} {gg : Nat → Nat → Int64} {n L : Nat} {Yw : Nat → Nat} {wa wb : Nat} {qq : Nat → Int32} {ee : Nat → Nat → Int32} {fm : Nat} {Yg : Nat → Nat} {rr : Nat → Int32} {uu : Nat → Nat → Int32} (hfm : 1 ≤ fm ∧ fm ≤ 7291) (hv_r6 : iv 0 (2 * (fm : Int)) (rr 6)) (hv_tYg1 : (∀ j, iv (-1) (2 * (fm : Int)) ((uu 0) j))) (hv_tYg3 : (∀ j, iv 0 (2 * (fm : Int) - 1) ((uu 2) j))) (hv_tYg4 : (∀ j, iv 0 (4 * (fm : Int)) ((uu 3) j))) (hv_tYg5 : (∀ j, iv 0 ((fm : Int) - 1) ((uu 4) j))) (hp : ivT tX pp) (ht0 : pp 0 = τ 0) (ht1 : pp 15 = τ 1) (ht2 : pp 16 = τ 2) (ht3 : BTs (ff 0) (tauT τ)) (ht4 : (∀ j, iv (-128) 127 ((ff 0) j))) (hW : WFa n L qq ee) (hT : PTn cells slots n fm (qq 0)) (hq : pp 5 ≤ qq 0) (hg : 0 ≤ (a1 : Int32).toInt ∧ (a1 : Int32).toInt < ((pp 5) : Int32).toInt ∧ 0 ≤ (a2 : Int32).toInt ∧ (a2 : Int32).toInt ≤ 4) (hP : va_P V.1 vwCl (wB V y pp ff gg (.ref (Yw 0)) (.ref (Yg 0)) ++ (wY V y n L Yw wa wb qq ee ++ wO V fm Yg rr uu) ++ wz) H) (hD : va_D (AAs s) (wB V y pp ff gg (.ref (Yw 0)) (.ref (Yg 0)) ++ (wY V y n L Yw wa wb qq ee ++ wO V fm Yg rr uu) ++ wz)) (hS : va_S (AAs s) s.heap H locs) (hlt : fm < n) (hlz : ls.size = 4) (kk : (∀ (r : Int32) (H : Heap) (locs : List Loc) (cells slots : Nat) (wx : va_W), KX V y cells slots τ wx → va_P V.1 vwCl (wx ++ wz) H → va_D (AAs s) (wx ++ wz) → va_S (AAs s) s.heap H locs → W p l e room_1 s m #[Value.ref b] below meth c H locs cells slots (lw_Z below #[Value.ref b] s) (F0 m 1190 ls [.int r]))) : W p l e room_1 s m #[Value.ref b] below meth c H locs cells slots (lw_Z below #[Value.ref b] s) (F0 m 1187 ls [.int a2, .int a1, .ref (y 0)]) := by
  obtain ⟨hn, hL, hw_q0, hw_q5, hw_q6, hw_q14, hw_q16, hw_tYw1, hw_tYw4, hw_tYw5, hw_tYw6, hw_tYw7, hw_WA, hw_WB, hw_WC⟩ := id hW
  have hTB := PTn_f hT hw_q0 hlt
  refine cXI (X := wB V y pp ff gg (.ref (Yw 0)) (.ref (Yg 0)) ++ (wY V y n L Yw wa wb qq ee ++ wO V fm Yg rr uu)) (pl := wz) (wr := [(y 1, aB V 900 (ff 0)), (y 4, aI V 4 (ff 2)), (y 5, aI V 4 (ff 3)), (y 6, aI V 8 (ff 4)), (y 7, aI V 8 (ff 5)), (y 8, aI V 8 (ff 6)), (y 10, .inr (6, [.ref (y 11), .int (pp 15), .int (pp 16), .ref (y 1), .int (pp 17), .int (pp 18), .int (pp 19), .int (pp 20), .int (pp 21)])), (y 11, .inr (1, [.int (pp 22), .int (pp 23), .int (pp 24), .int (pp 25), .int (pp 26), .int (pp 27), .ref (y 12), .ref (y 13), .ref (y 14), .ref (y 15), .ref (y 16), .ref (y 17), .ref (y 18), .int (pp 28), .int (pp 29), .int (pp 30), .int (pp 31), .int (pp 32)])), (y 12, aI V 4 (ff 8)), (y 13, aI V 4 (ff 9)), (y 14, aI V 4 (ff 10)), (y 15, aI V 8 (ff 11)), (y 16, aI V 8 (ff 12)), (y 17, aI V 8 (ff 13)), (y 18, aI V 900 (ff 14)), (y 23, aI V 10 (ff 18)), (y 24, aI V 10 (ff 19)), (y 25, .inr (0, [.int (pp 33), .int (pp 34)])), (y 26, .inr (5, [.ref (y 27), .ref (y 28), .ref (y 29), .int (pp 35)])), (y 27, aI V 10 (ff 20)), (y 28, aI V 10 (ff 21)), (y 29, aI V 10 (ff 22)), (y 30, aT V 4 (va_up (va_up (va_up (va_up (fun _ => none) 0 (some (y 33))) 1 (some (y 35))) 2 (some (y 37))) 3 (some (y 39)))), (y 31, aM V 2 (va_up (va_up (fun _ => none) 0 (some (y 41))) 1 (some (y 50)))), (y 32, aI V 10 (ff 23)), (y 33, .inr (7, [.ref (y 34), .int (pp 36), .int (pp 37)])), (y 34, aJ V 40 (gg 0)), (y 35, .inr (7, [.ref (y 36), .int (pp 38), .int (pp 39)])), (y 36, aJ V 40 (gg 1)), (y 37, .inr (7, [.ref (y 38), .int (pp 40), .int (pp 41)])), (y 38, aJ V 40 (gg 2)), (y 39, .inr (7, [.ref (y 40), .int (pp 42), .int (pp 43)])), (y 40, aJ V 40 (gg 3)), (y 41, .inr (3, [.ref (y 42), .int (pp 44), .int (pp 45), .int (pp 46), .int (pp 47)])), (y 42, .inr (1, [.int (pp 48), .int (pp 49), .int (pp 50), .int (pp 51), .int (pp 52), .int (pp 53), .ref (y 43), .ref (y 44), .ref (y 45), .ref (y 46), .ref (y 47), .ref (y 48), .ref (y 49), .int (pp 54), .int (pp 55), .int (pp 56), .int (pp 57), .int (pp 58)])), (y 43, aI V 4 (ff 24)), (y 44, aI V 4 (ff 25)), (y 45, aI V 4 (ff 26)), (y 46, aI V 8 (ff 27)), (y 47, aI V 8 (ff 28)), (y 48, aI V 8 (ff 29)), (y 49, aI V 900 (ff 30)), (y 50, .inr (3, [.ref (y 51), .int (pp 59), .int (pp 60), .int (pp 61), .int (pp 62)])), (y 51, .inr (1, [.int (pp 63), .int (pp 64), .int (pp 65), .int (pp 66), .int (pp 67), .int (pp 68), .ref (y 52), .ref (y 53), .ref (y 54), .ref (y 55), .ref (y 56), .ref (y 57), .ref (y 58), .int (pp 69), .int (pp 70), .int (pp 71), .int (pp 72), .int (pp 73)])), (y 52, aI V 4 (ff 31)), (y 53, aI V 4 (ff 32)), (y 54, aI V 4 (ff 33)), (y 55, aI V 8 (ff 34)), (y 56, aI V 8 (ff 35)), (y 57, aI V 8 (ff 36)), (y 58, aI V 900 (ff 37))]) (rest := []) G (k_X9_forces_5 l V n L fm Yw Yg y a1 a2 (pp 0) (pp 1) (pp 2) (pp 3) (pp 4) (pp 5) (pp 6) (pp 7) (pp 8) (pp 9) (pp 10) (pp 11) (pp 12) (pp 13) (pp 14) (ff 1) (ff 7) (ff 15) (ff 16) (ff 17) (qq 0) wa (qq 5) (qq 6) wb (qq 14) (qq 15) (qq 16) (ee 0) (ee 1) (ee 2) (ee 3) (ee 4) (ee 5) (ee 6) (ee 7) (ee 8) (rr 6) (uu 0) (uu 1) (uu 2) (uu 3) (uu 4) hn hL hfm hq (hp 0) (hp 5) (hp 6) (hp 7) (hp 10) (hp 11) (hp 12) (hp 13) (hp 14) hw_q0 hw_q5 hw_q6 hw_q14 hw_q16 hw_tYw1 hw_tYw4 hw_tYw5 hw_tYw6 hw_tYw7 hv_r6 hv_tYg1 hv_tYg3 hv_tYg4 hv_tYg5 hw_WA hw_WB hw_WC hg.1 hg.2.1 hg.2.2.1 hg.2.2.2) mt_X9_forces q_5_86 ⟨Nat.le_of_ble_eq_true rfl, Nat.le_of_ble_eq_true rfl⟩ hP hD hS [0, 2, 3, 9, 19, 20, 21, 22, 59, 60, 61, 62, 63, 64, 65, 66, 67, 68, 69, 70, 71, 72, 73, 74] [1, 4, 5, 6, 7, 8, 10, 11, 12, 13, 14, 15, 16, 17, 18, 23, 24, 25, 26, 27, 28, 29, 30, 31, 32, 33, 34, 35, 36, 37, 38, 39, 40, 41, 42, 43, 44, 45, 46, 47, 48, 49, 50, 51, 52, 53, 54, 55, 56, 57, 58] (by decide +kernel) rfl rfl (by decide +kernel) (by decide +kernel) 0 rfl rfl rfl rfl hlz rfl (Nat.le_of_ble_eq_true rfl) dL_law_1187 hTB.1 (fun r w H locs hw hP hD hS => ?_)
  refine Exists.elim hw (fun ft1 hw => ?_)
  refine Exists.elim hw (fun Yf1 hw => ?_)
  refine Exists.elim hw (fun g0 hw => ?_)
  refine Exists.elim hw (fun g1 hw => ?_)
  refine Exists.elim hw (fun g2 hw => ?_)
  refine Exists.elim hw (fun v3 hw => ?_)
  refine Exists.elim hw (fun v4 hw => ?_)
  refine Exists.elim hw (fun v5 hw => ?_)
  refine Exists.elim hw (fun v6 hw => ?_)
  refine Exists.elim hw (fun v7 hw => ?_)
  refine Exists.elim hw (fun g8 hw => ?_)
  refine Exists.elim hw (fun g9 hw => ?_)
  refine Exists.elim hw (fun g10 hw => ?_)
  refine Exists.elim hw (fun g11 hw => ?_)
  refine Exists.elim hw (fun g12 hw => ?_)
  refine Exists.elim hw (fun g13 hw => ?_)
  refine Exists.elim hw (fun wf6 hw => ?_)
  refine Exists.elim hw (fun wef1 hw => ?_)
  refine Exists.elim hw (fun wef2 hw => ?_)
  refine Exists.elim hw (fun wef3 hw => ?_)
  refine Exists.elim hw (fun wef4 hw => ?_)
  refine Exists.elim hw (fun wef5 hw => ?_)
  refine And.elim (fun hft1 hw => ?_) hw
  refine And.elim (fun bv3 hw => ?_) hw
  refine And.elim (fun bv4 hw => ?_) hw
  refine And.elim (fun bv5 hw => ?_) hw
  refine And.elim (fun bv7 hw => ?_) hw
  refine And.elim (fun bg8 hw => ?_) hw
  refine And.elim (fun bg10 hw => ?_) hw
  refine And.elim (fun bg11 hw => ?_) hw
  refine And.elim (fun bg12 hw => ?_) hw
  refine And.elim (fun bwf6 hw => ?_) hw
  refine And.elim (fun bwef1 hw => ?_) hw
  refine And.elim (fun bwef3 hw => ?_) hw
  refine And.elim (fun bwef4 hw => ?_) hw
  refine And.elim (fun bwef5 hw => ?_) hw
  refine And.elim (fun br hw => ?_) hw
  refine And.elim (fun g_0 hw => ?_) hw
  refine And.elim (fun g_1 hw => ?_) hw
  refine And.elim (fun g_2 hw => ?_) hw
  refine And.elim (fun g_3 hw => ?_) hw
  subst hw
  have hP := ptP (ws' := wB V y pp (up9 (up9 (up9 ff 15 g0) 16 g1) 17 g2) gg (.ref (Yw 0)) (.ref (Yf1 0)) ++ (wY V y n L Yw wa wb (br9 17 (br9 8 (br9 4 qq (br9 6 (br9 5 qq (lf9 v3)) (br9 7 (lf9 v4) qq))) (br9 12 qq (br9 14 qq (br9 15 (lf9 v5) (br9 16 (lf9 v6) (lf9 v7)))))) qq) (br9 8 (br9 4 (br9 2 (br9 1 (lf9 g8) (lf9 g9)) (br9 3 ee (lf9 g10))) (br9 6 (br9 5 (lf9 g11) (lf9 g12)) (br9 7 ee (lf9 g13)))) ee) ++ wO V (n + ft1) Yf1 (up9 (fun _ => 0) 6 wf6) (br9 5 (br9 2 (br9 1 (lf9 wef1) (lf9 wef2)) (br9 3 (lf9 wef3) (br9 4 (lf9 wef4) (lf9 wef5)))) (fun _ _ => 0)))) hP [51, 0, 52, 53, 1, 2, 3, 4, 5, 54, 6, 7, 8, 9, 10, 11, 12, 13, 14, 55, 56, 57, 58, 15, 16, 17, 18, 19, 20, 21, 22, 23, 24, 25, 26, 27, 28, 29, 30, 31, 32, 33, 34, 35, 36, 37, 38, 39, 40, 41, 42, 43, 44, 45, 46, 47, 48, 49, 50, 59, 60, 61, 62, 63, 64, 65, 66, 67, 68, 69, 70, 71, 72, 73, 74] rfl
  have hD := hD.part (cx := wB V y pp (up9 (up9 (up9 ff 15 g0) 16 g1) 17 g2) gg (.ref (Yw 0)) (.ref (Yf1 0)) ++ (wY V y n L Yw wa wb (br9 17 (br9 8 (br9 4 qq (br9 6 (br9 5 qq (lf9 v3)) (br9 7 (lf9 v4) qq))) (br9 12 qq (br9 14 qq (br9 15 (lf9 v5) (br9 16 (lf9 v6) (lf9 v7)))))) qq) (br9 8 (br9 4 (br9 2 (br9 1 (lf9 g8) (lf9 g9)) (br9 3 ee (lf9 g10))) (br9 6 (br9 5 (lf9 g11) (lf9 g12)) (br9 7 ee (lf9 g13)))) ee) ++ wO V (n + ft1) Yf1 (up9 (fun _ => 0) 6 wf6) (br9 5 (br9 2 (br9 1 (lf9 wef1) (lf9 wef2)) (br9 3 (lf9 wef3) (br9 4 (lf9 wef4) (lf9 wef5)))) (fun _ _ => 0)))) [51, 0, 52, 53, 1, 2, 3, 4, 5, 54, 6, 7, 8, 9, 10, 11, 12, 13, 14, 55, 56, 57, 58, 15, 16, 17, 18, 19, 20, 21, 22, 23, 24, 25, 26, 27, 28, 29, 30, 31, 32, 33, 34, 35, 36, 37, 38, 39, 40, 41, 42, 43, 44, 45, 46, 47, 48, 49, 50, 59, 60, 61, 62, 63, 64, 65, 66, 67, 68, 69, 70, 71, 72, 73, 74] (by decide +kernel) rfl
  exact kk r H locs (cells + 6) (slots + 36468) _ ⟨pp, (up9 (up9 (up9 ff 15 g0) 16 g1) 17 g2), gg, .ref (Yw 0), .ref (Yf1 0), _, hp, ht0, ht1, ht2, ht3, ht4, Or.inr ⟨n, L, Yw, wa, wb, (br9 17 (br9 8 (br9 4 qq (br9 6 (br9 5 qq (lf9 v3)) (br9 7 (lf9 v4) qq))) (br9 12 qq (br9 14 qq (br9 15 (lf9 v5) (br9 16 (lf9 v6) (lf9 v7)))))) qq), (br9 8 (br9 4 (br9 2 (br9 1 (lf9 g8) (lf9 g9)) (br9 3 ee (lf9 g10))) (br9 6 (br9 5 (lf9 g11) (lf9 g12)) (br9 7 ee (lf9 g13)))) ee), _, n + ft1, ⟨hn, hL, hw_q0, bv3, bv4, bv5, bv7, bg8, bg10, bg11, bg12, hw_tYw7, g_0, g_1, g_2⟩, (Or.inr ⟨Yf1, (up9 (fun _ => 0) 6 wf6), (br9 5 (br9 2 (br9 1 (lf9 wef1) (lf9 wef2)) (br9 3 (lf9 wef3) (br9 4 (lf9 wef4) (lf9 wef5)))) (fun _ _ => 0)), ⟨by omega, by omega⟩, (iv_w bwf6 (by omega)), (fun j => iv_w (bwef1 j) (by omega)), (fun j => iv_w (bwef3 j) (by omega)), (fun j => iv_w (bwef4 j) (by omega)), (fun j => iv_w (bwef5 j) (by omega)), rfl, rfl⟩), hTB.2 ft1, rfl, rfl⟩, rfl⟩ hP hD hS
set_option maxHeartbeats 4000000 in
set_option maxRecDepth 100000 in
theorem cx_34_gb {p : Program} {e : Env} {s : State} {m : MethodId} {below : List Frame} {meth : Method} {c : Code} {l : Launch} {b Lk : Nat} {xs : Nat → Int32} {V : GV} {y : Nat → Nat} {τ : Nat → Int32} {H : Heap} {locs : List Loc} {cells slots : Nat} {wz : va_W} {ls : Array Slot} (G : LCx p s m meth c b Lk xs V) (a1 : Int32) (a2 : Int32) {pp : Nat → Int32} {ff : Nat → Nat → Int32} {gg : Nat → Nat → Int64} {n L : Nat} {Yw : Nat → Nat} {wa wb : Nat} {qq : Nat → Int32} {ee : Nat → Nat → Int32} {fm : Nat} {Yg : Nat → Nat} {rr : Nat → Int32} {uu : Nat → Nat → Int32} (hfm : 1 ≤ fm ∧ fm ≤ 7291) (hv_r6 : iv 0 (2 * (fm : Int)) (rr 6)) (hv_tYg1 : (∀ j, iv (-1) (2 * (fm : Int)) ((uu 0) j))) (hv_tYg3 : (∀ j, iv 0 (2 * (fm : Int) - 1) ((uu 2) j))) (hv_tYg4 : (∀ j, iv 0 (4 * (fm : Int)) ((uu 3) j))) (hv_tYg5 : (∀ j, iv 0 ((fm : Int) - 1) ((uu 4) j))) (hp : ivT tX pp) (ht0 : pp 0 = τ 0) (ht1 : pp 15 = τ 1) (ht2 : pp 16 = τ 2) (ht3 : BTs (ff 0) (tauT τ)) (ht4 : (∀ j, iv (-128) 127 ((ff 0) j))) (hW : WFa n L qq ee) (hT : PTn cells slots n fm (qq 0)) (hq : qq 0 < pp 5) (hg : 0 ≤ (a1 : Int32).toInt ∧ (a1 : Int32).toInt < ((pp 5) : Int32).toInt ∧ 0 ≤ (a2 : Int32).toInt ∧ (a2 : Int32).toInt ≤ 4) (hP : va_P V.1 vwCl (wB V y pp ff gg (.ref (Yw 0)) (.ref (Yg 0)) ++ (wY V y n L Yw wa wb qq ee ++ wO V fm Yg rr uu) ++ wz) H) (hD : va_D (AAs s) (wB V y pp ff gg (.ref (Yw 0)) (.ref (Yg 0)) ++ (wY V y n L Yw wa wb qq ee ++ wO V fm Yg rr uu) ++ wz)) (hS : va_S (AAs s) s.heap H locs) (hlz : ls.size = 4) (kk : (∀ (r : Int32) (H : Heap) (locs : List Loc) (cells slots : Nat) (wx : va_W), KX V y cells slots τ wx → va_P V.1 vwCl (wx ++ wz) H → va_D (AAs s) (wx ++ wz) → va_S (AAs s) s.heap H locs → W p l e room_1 s m #[Value.ref b] below meth c H locs cells slots (lw_Z below #[Value.ref b] s) (F0 m 1190 ls [.int r]))) : W p l e room_1 s m #[Value.ref b] below meth c H locs cells slots (lw_Z below #[Value.ref b] s) (F0 m 1187 ls [.int a2, .int a1, .ref (y 0)]) := by
  obtain ⟨hn, hL, hw_q0, hw_q5, hw_q6, hw_q14, hw_q16, hw_tYw1, hw_tYw4, hw_tYw5, hw_tYw6, hw_tYw7, hw_WA, hw_WB, hw_WC⟩ := id hW
  have hTB := PTn_B 16 82949 hT hw_q0 (hp 5) hq (by decide) (by decide)
  refine cXI (X := wB V y pp ff gg (.ref (Yw 0)) (.ref (Yg 0)) ++ (wY V y n L Yw wa wb qq ee ++ wO V fm Yg rr uu)) (pl := wz) (wr := [(y 1, aB V 900 (ff 0)), (y 4, aI V 4 (ff 2)), (y 5, aI V 4 (ff 3)), (y 6, aI V 8 (ff 4)), (y 7, aI V 8 (ff 5)), (y 8, aI V 8 (ff 6)), (y 10, .inr (6, [.ref (y 11), .int (pp 15), .int (pp 16), .ref (y 1), .int (pp 17), .int (pp 18), .int (pp 19), .int (pp 20), .int (pp 21)])), (y 11, .inr (1, [.int (pp 22), .int (pp 23), .int (pp 24), .int (pp 25), .int (pp 26), .int (pp 27), .ref (y 12), .ref (y 13), .ref (y 14), .ref (y 15), .ref (y 16), .ref (y 17), .ref (y 18), .int (pp 28), .int (pp 29), .int (pp 30), .int (pp 31), .int (pp 32)])), (y 12, aI V 4 (ff 8)), (y 13, aI V 4 (ff 9)), (y 14, aI V 4 (ff 10)), (y 15, aI V 8 (ff 11)), (y 16, aI V 8 (ff 12)), (y 17, aI V 8 (ff 13)), (y 18, aI V 900 (ff 14)), (y 23, aI V 10 (ff 18)), (y 24, aI V 10 (ff 19)), (y 25, .inr (0, [.int (pp 33), .int (pp 34)])), (y 26, .inr (5, [.ref (y 27), .ref (y 28), .ref (y 29), .int (pp 35)])), (y 27, aI V 10 (ff 20)), (y 28, aI V 10 (ff 21)), (y 29, aI V 10 (ff 22)), (y 30, aT V 4 (va_up (va_up (va_up (va_up (fun _ => none) 0 (some (y 33))) 1 (some (y 35))) 2 (some (y 37))) 3 (some (y 39)))), (y 31, aM V 2 (va_up (va_up (fun _ => none) 0 (some (y 41))) 1 (some (y 50)))), (y 32, aI V 10 (ff 23)), (y 33, .inr (7, [.ref (y 34), .int (pp 36), .int (pp 37)])), (y 34, aJ V 40 (gg 0)), (y 35, .inr (7, [.ref (y 36), .int (pp 38), .int (pp 39)])), (y 36, aJ V 40 (gg 1)), (y 37, .inr (7, [.ref (y 38), .int (pp 40), .int (pp 41)])), (y 38, aJ V 40 (gg 2)), (y 39, .inr (7, [.ref (y 40), .int (pp 42), .int (pp 43)])), (y 40, aJ V 40 (gg 3)), (y 41, .inr (3, [.ref (y 42), .int (pp 44), .int (pp 45), .int (pp 46), .int (pp 47)])), (y 42, .inr (1, [.int (pp 48), .int (pp 49), .int (pp 50), .int (pp 51), .int (pp 52), .int (pp 53), .ref (y 43), .ref (y 44), .ref (y 45), .ref (y 46), .ref (y 47), .ref (y 48), .ref (y 49), .int (pp 54), .int (pp 55), .int (pp 56), .int (pp 57), .int (pp 58)])), (y 43, aI V 4 (ff 24)), (y 44, aI V 4 (ff 25)), (y 45, aI V 4 (ff 26)), (y 46, aI V 8 (ff 27)), (y 47, aI V 8 (ff 28)), (y 48, aI V 8 (ff 29)), (y 49, aI V 900 (ff 30)), (y 50, .inr (3, [.ref (y 51), .int (pp 59), .int (pp 60), .int (pp 61), .int (pp 62)])), (y 51, .inr (1, [.int (pp 63), .int (pp 64), .int (pp 65), .int (pp 66), .int (pp 67), .int (pp 68), .ref (y 52), .ref (y 53), .ref (y 54), .ref (y 55), .ref (y 56), .ref (y 57), .ref (y 58), .int (pp 69), .int (pp 70), .int (pp 71), .int (pp 72), .int (pp 73)])), (y 52, aI V 4 (ff 31)), (y 53, aI V 4 (ff 32)), (y 54, aI V 4 (ff 33)), (y 55, aI V 8 (ff 34)), (y 56, aI V 8 (ff 35)), (y 57, aI V 8 (ff 36)), (y 58, aI V 900 (ff 37))]) (rest := []) G (k_X9_forces_6 l V n L fm Yw Yg y a1 a2 (pp 0) (pp 1) (pp 2) (pp 3) (pp 4) (pp 5) (pp 6) (pp 7) (pp 8) (pp 9) (pp 10) (pp 11) (pp 12) (pp 13) (pp 14) (ff 1) (ff 7) (ff 15) (ff 16) (ff 17) (qq 0) wa (qq 5) (qq 6) wb (qq 14) (qq 15) (qq 16) (ee 0) (ee 1) (ee 2) (ee 3) (ee 4) (ee 5) (ee 6) (ee 7) (ee 8) (rr 6) (uu 0) (uu 1) (uu 2) (uu 3) (uu 4) hn hL hfm hq (hp 0) (hp 5) (hp 6) (hp 7) (hp 10) (hp 11) (hp 12) (hp 13) (hp 14) hw_q0 hw_q5 hw_q6 hw_q14 hw_q16 hw_tYw1 hw_tYw4 hw_tYw5 hw_tYw6 hw_tYw7 hv_r6 hv_tYg1 hv_tYg3 hv_tYg4 hv_tYg5 hw_WA hw_WB hw_WC hg.1 hg.2.1 hg.2.2.1 hg.2.2.2) mt_X9_forces q_5_86 ⟨Nat.le_of_ble_eq_true rfl, Nat.le_of_ble_eq_true rfl⟩ hP hD hS [0, 2, 3, 9, 19, 20, 21, 22, 59, 60, 61, 62, 63, 64, 65, 66, 67, 68, 69, 70, 71, 72, 73, 74] [1, 4, 5, 6, 7, 8, 10, 11, 12, 13, 14, 15, 16, 17, 18, 23, 24, 25, 26, 27, 28, 29, 30, 31, 32, 33, 34, 35, 36, 37, 38, 39, 40, 41, 42, 43, 44, 45, 46, 47, 48, 49, 50, 51, 52, 53, 54, 55, 56, 57, 58] (by decide +kernel) rfl rfl (by decide +kernel) (by decide +kernel) 0 rfl rfl rfl rfl hlz rfl (Nat.le_of_ble_eq_true rfl) dL_law_1187 hTB.1 (fun r w H locs hw hP hD hS => ?_)
  refine Exists.elim hw (fun n1 hw => ?_)
  refine Exists.elim hw (fun L1 hw => ?_)
  refine Exists.elim hw (fun Yw1 hw => ?_)
  refine Exists.elim hw (fun wa1 hw => ?_)
  refine Exists.elim hw (fun wb1 hw => ?_)
  refine Exists.elim hw (fun ft1 hw => ?_)
  refine Exists.elim hw (fun Yf1 hw => ?_)
  refine Exists.elim hw (fun g0 hw => ?_)
  refine Exists.elim hw (fun g1 hw => ?_)
  refine Exists.elim hw (fun g2 hw => ?_)
  refine Exists.elim hw (fun ww0 hw => ?_)
  refine Exists.elim hw (fun ww5 hw => ?_)
  refine Exists.elim hw (fun ww6 hw => ?_)
  refine Exists.elim hw (fun ww14 hw => ?_)
  refine Exists.elim hw (fun ww15 hw => ?_)
  refine Exists.elim hw (fun ww16 hw => ?_)
  refine Exists.elim hw (fun wew1 hw => ?_)
  refine Exists.elim hw (fun wew2 hw => ?_)
  refine Exists.elim hw (fun wew3 hw => ?_)
  refine Exists.elim hw (fun wew4 hw => ?_)
  refine Exists.elim hw (fun wew5 hw => ?_)
  refine Exists.elim hw (fun wew6 hw => ?_)
  refine Exists.elim hw (fun wew7 hw => ?_)
  refine Exists.elim hw (fun wew8 hw => ?_)
  refine Exists.elim hw (fun wew9 hw => ?_)
  refine Exists.elim hw (fun wf6 hw => ?_)
  refine Exists.elim hw (fun wef1 hw => ?_)
  refine Exists.elim hw (fun wef2 hw => ?_)
  refine Exists.elim hw (fun wef3 hw => ?_)
  refine Exists.elim hw (fun wef4 hw => ?_)
  refine Exists.elim hw (fun wef5 hw => ?_)
  refine And.elim (fun hn1 hw => ?_) hw
  refine And.elim (fun hL1 hw => ?_) hw
  refine And.elim (fun hft1 hw => ?_) hw
  refine And.elim (fun bww0 hw => ?_) hw
  refine And.elim (fun bww5 hw => ?_) hw
  refine And.elim (fun bww6 hw => ?_) hw
  refine And.elim (fun bww14 hw => ?_) hw
  refine And.elim (fun bww16 hw => ?_) hw
  refine And.elim (fun bwew1 hw => ?_) hw
  refine And.elim (fun bwew4 hw => ?_) hw
  refine And.elim (fun bwew5 hw => ?_) hw
  refine And.elim (fun bwew6 hw => ?_) hw
  refine And.elim (fun bwew7 hw => ?_) hw
  refine And.elim (fun bwf6 hw => ?_) hw
  refine And.elim (fun bwef1 hw => ?_) hw
  refine And.elim (fun bwef3 hw => ?_) hw
  refine And.elim (fun bwef4 hw => ?_) hw
  refine And.elim (fun bwef5 hw => ?_) hw
  refine And.elim (fun br hw => ?_) hw
  refine And.elim (fun g_0 hw => ?_) hw
  refine And.elim (fun g_1 hw => ?_) hw
  refine And.elim (fun g_2 hw => ?_) hw
  refine And.elim (fun g_3 hw => ?_) hw
  refine And.elim (fun g_4 hw => ?_) hw
  subst hw
  have hP := ptP (ws' := wB V y pp (up9 (up9 (up9 ff 15 g0) 16 g1) 17 g2) gg (.ref (Yw1 0)) (.ref (Yf1 0)) ++ (wY V y n1 L1 Yw1 wa1 wb1 (br9 17 (br9 8 (br9 4 (br9 2 (br9 1 (lf9 ww0) (fun _ => 0)) (fun _ => 0)) (br9 6 (br9 5 (fun _ => 0) (lf9 ww5)) (br9 7 (lf9 ww6) (fun _ => 0)))) (br9 12 (fun _ => 0) (br9 14 (fun _ => 0) (br9 15 (lf9 ww14) (br9 16 (lf9 ww15) (lf9 ww16)))))) (fun _ => 0)) (br9 9 (br9 4 (br9 2 (br9 1 (lf9 wew1) (lf9 wew2)) (br9 3 (lf9 wew3) (lf9 wew4))) (br9 6 (br9 5 (lf9 wew5) (lf9 wew6)) (br9 7 (lf9 wew7) (br9 8 (lf9 wew8) (lf9 wew9))))) (fun _ _ => 0)) ++ wO V (n1 + ft1) Yf1 (up9 (fun _ => 0) 6 wf6) (br9 5 (br9 2 (br9 1 (lf9 wef1) (lf9 wef2)) (br9 3 (lf9 wef3) (br9 4 (lf9 wef4) (lf9 wef5)))) (fun _ _ => 0)))) hP [51, 0, 52, 53, 1, 2, 3, 4, 5, 54, 6, 7, 8, 9, 10, 11, 12, 13, 14, 55, 56, 57, 58, 15, 16, 17, 18, 19, 20, 21, 22, 23, 24, 25, 26, 27, 28, 29, 30, 31, 32, 33, 34, 35, 36, 37, 38, 39, 40, 41, 42, 43, 44, 45, 46, 47, 48, 49, 50, 59, 60, 61, 62, 63, 64, 65, 66, 67, 68, 69, 70, 71, 72, 73, 74] rfl
  have hD := hD.part (cx := wB V y pp (up9 (up9 (up9 ff 15 g0) 16 g1) 17 g2) gg (.ref (Yw1 0)) (.ref (Yf1 0)) ++ (wY V y n1 L1 Yw1 wa1 wb1 (br9 17 (br9 8 (br9 4 (br9 2 (br9 1 (lf9 ww0) (fun _ => 0)) (fun _ => 0)) (br9 6 (br9 5 (fun _ => 0) (lf9 ww5)) (br9 7 (lf9 ww6) (fun _ => 0)))) (br9 12 (fun _ => 0) (br9 14 (fun _ => 0) (br9 15 (lf9 ww14) (br9 16 (lf9 ww15) (lf9 ww16)))))) (fun _ => 0)) (br9 9 (br9 4 (br9 2 (br9 1 (lf9 wew1) (lf9 wew2)) (br9 3 (lf9 wew3) (lf9 wew4))) (br9 6 (br9 5 (lf9 wew5) (lf9 wew6)) (br9 7 (lf9 wew7) (br9 8 (lf9 wew8) (lf9 wew9))))) (fun _ _ => 0)) ++ wO V (n1 + ft1) Yf1 (up9 (fun _ => 0) 6 wf6) (br9 5 (br9 2 (br9 1 (lf9 wef1) (lf9 wef2)) (br9 3 (lf9 wef3) (br9 4 (lf9 wef4) (lf9 wef5)))) (fun _ _ => 0)))) [51, 0, 52, 53, 1, 2, 3, 4, 5, 54, 6, 7, 8, 9, 10, 11, 12, 13, 14, 55, 56, 57, 58, 15, 16, 17, 18, 19, 20, 21, 22, 23, 24, 25, 26, 27, 28, 29, 30, 31, 32, 33, 34, 35, 36, 37, 38, 39, 40, 41, 42, 43, 44, 45, 46, 47, 48, 49, 50, 59, 60, 61, 62, 63, 64, 65, 66, 67, 68, 69, 70, 71, 72, 73, 74] (by decide +kernel) rfl
  exact kk r H locs (cells + 16) (slots + 82949) _ ⟨pp, (up9 (up9 (up9 ff 15 g0) 16 g1) 17 g2), gg, .ref (Yw1 0), .ref (Yf1 0), _, hp, ht0, ht1, ht2, ht3, ht4, Or.inr ⟨n1, L1, Yw1, wa1, wb1, (br9 17 (br9 8 (br9 4 (br9 2 (br9 1 (lf9 ww0) (fun _ => 0)) (fun _ => 0)) (br9 6 (br9 5 (fun _ => 0) (lf9 ww5)) (br9 7 (lf9 ww6) (fun _ => 0)))) (br9 12 (fun _ => 0) (br9 14 (fun _ => 0) (br9 15 (lf9 ww14) (br9 16 (lf9 ww15) (lf9 ww16)))))) (fun _ => 0)), (br9 9 (br9 4 (br9 2 (br9 1 (lf9 wew1) (lf9 wew2)) (br9 3 (lf9 wew3) (lf9 wew4))) (br9 6 (br9 5 (lf9 wew5) (lf9 wew6)) (br9 7 (lf9 wew7) (br9 8 (lf9 wew8) (lf9 wew9))))) (fun _ _ => 0)), _, n1 + ft1, ⟨hn1, hL1, bww0, bww5, bww6, bww14, bww16, bwew1, bwew4, bwew5, bwew6, bwew7, g_0, g_1, g_2⟩, (Or.inr ⟨Yf1, (up9 (fun _ => 0) 6 wf6), (br9 5 (br9 2 (br9 1 (lf9 wef1) (lf9 wef2)) (br9 3 (lf9 wef3) (br9 4 (lf9 wef4) (lf9 wef5)))) (fun _ _ => 0)), ⟨by omega, by omega⟩, (iv_w bwf6 (by omega)), (fun j => iv_w (bwef1 j) (by omega)), (fun j => iv_w (bwef3 j) (by omega)), (fun j => iv_w (bwef4 j) (by omega)), (fun j => iv_w (bwef5 j) (by omega)), rfl, rfl⟩), (show PTn _ _ _ _ ww0 from by rw [g_3]; exact hTB.2 n1 (n1 + ft1)), rfl, rfl⟩, rfl⟩ hP hD hS
set_option maxHeartbeats 4000000 in
set_option maxRecDepth 100000 in
theorem cx_34_fa {p : Program} {e : Env} {s : State} {m : MethodId} {below : List Frame} {meth : Method} {c : Code} {l : Launch} {b Lk : Nat} {xs : Nat → Int32} {V : GV} {y : Nat → Nat} {τ : Nat → Int32} {H : Heap} {locs : List Loc} {cells slots : Nat} {wz : va_W} {ls : Array Slot} (G : LCx p s m meth c b Lk xs V) (a1 : Int32) (a2 : Int32) {pp : Nat → Int32} {ff : Nat → Nat → Int32} {gg : Nat → Nat → Int64} {n L : Nat} {Yw : Nat → Nat} {wa wb : Nat} {qq : Nat → Int32} {ee : Nat → Nat → Int32} {ft : Nat} {Yg : Nat → Nat} {rr : Nat → Int32} {uu : Nat → Nat → Int32} (hfm : 1 ≤ (n + ft) ∧ (n + ft) ≤ 7291) (hv_r6 : iv 0 (2 * ((n + ft : Nat) : Int)) (rr 6)) (hv_tYg1 : (∀ j, iv (-1) (2 * ((n + ft : Nat) : Int)) ((uu 0) j))) (hv_tYg3 : (∀ j, iv 0 (2 * ((n + ft : Nat) : Int) - 1) ((uu 2) j))) (hv_tYg4 : (∀ j, iv 0 (4 * ((n + ft : Nat) : Int)) ((uu 3) j))) (hv_tYg5 : (∀ j, iv 0 (((n + ft : Nat) : Int) - 1) ((uu 4) j))) (hp : ivT tX pp) (ht0 : pp 0 = τ 0) (ht1 : pp 15 = τ 1) (ht2 : pp 16 = τ 2) (ht3 : BTs (ff 0) (tauT τ)) (ht4 : (∀ j, iv (-128) 127 ((ff 0) j))) (hW : WFa n L qq ee) (hT : PTn cells slots n (n + ft) (qq 0)) (hq : pp 5 ≤ qq 0)  (hP : va_P V.1 vwCl (wB V y pp ff gg (.ref (Yw 0)) (.ref (Yg 0)) ++ (wY V y n L Yw wa wb qq ee ++ wO V (n + ft) Yg rr uu) ++ wz) H) (hD : va_D (AAs s) (wB V y pp ff gg (.ref (Yw 0)) (.ref (Yg 0)) ++ (wY V y n L Yw wa wb qq ee ++ wO V (n + ft) Yg rr uu) ++ wz)) (hS : va_S (AAs s) s.heap H locs) (hlz : ls.size = 4) (kk : (∀ (r : Int32) (H : Heap) (locs : List Loc) (cells slots : Nat) (wx : va_W), KX V y cells slots τ wx → va_P V.1 vwCl (wx ++ wz) H → va_D (AAs s) (wx ++ wz) → va_S (AAs s) s.heap H locs → W p l e room_1 s m #[Value.ref b] below meth c H locs cells slots (lw_Z below #[Value.ref b] s) (F0 m 1190 ls [.int r]))) : W p l e room_1 s m #[Value.ref b] below meth c H locs cells slots (lw_Z below #[Value.ref b] s) (F0 m 1187 ls [.int a2, .int a1, .ref (y 0)]) := by
  obtain ⟨hn, hL, hw_q0, hw_q5, hw_q6, hw_q14, hw_q16, hw_tYw1, hw_tYw4, hw_tYw5, hw_tYw6, hw_tYw7, hw_WA, hw_WB, hw_WC⟩ := id hW
  have hft : 0 ≤ ft ∧ ft ≤ 7290 := by omega
  refine cXI (X := wB V y pp ff gg (.ref (Yw 0)) (.ref (Yg 0)) ++ (wY V y n L Yw wa wb qq ee ++ wO V (n + ft) Yg rr uu)) (pl := wz) (wr := [(y 1, aB V 900 (ff 0)), (y 4, aI V 4 (ff 2)), (y 5, aI V 4 (ff 3)), (y 6, aI V 8 (ff 4)), (y 7, aI V 8 (ff 5)), (y 8, aI V 8 (ff 6)), (y 10, .inr (6, [.ref (y 11), .int (pp 15), .int (pp 16), .ref (y 1), .int (pp 17), .int (pp 18), .int (pp 19), .int (pp 20), .int (pp 21)])), (y 11, .inr (1, [.int (pp 22), .int (pp 23), .int (pp 24), .int (pp 25), .int (pp 26), .int (pp 27), .ref (y 12), .ref (y 13), .ref (y 14), .ref (y 15), .ref (y 16), .ref (y 17), .ref (y 18), .int (pp 28), .int (pp 29), .int (pp 30), .int (pp 31), .int (pp 32)])), (y 12, aI V 4 (ff 8)), (y 13, aI V 4 (ff 9)), (y 14, aI V 4 (ff 10)), (y 15, aI V 8 (ff 11)), (y 16, aI V 8 (ff 12)), (y 17, aI V 8 (ff 13)), (y 18, aI V 900 (ff 14)), (y 23, aI V 10 (ff 18)), (y 24, aI V 10 (ff 19)), (y 25, .inr (0, [.int (pp 33), .int (pp 34)])), (y 26, .inr (5, [.ref (y 27), .ref (y 28), .ref (y 29), .int (pp 35)])), (y 27, aI V 10 (ff 20)), (y 28, aI V 10 (ff 21)), (y 29, aI V 10 (ff 22)), (y 30, aT V 4 (va_up (va_up (va_up (va_up (fun _ => none) 0 (some (y 33))) 1 (some (y 35))) 2 (some (y 37))) 3 (some (y 39)))), (y 31, aM V 2 (va_up (va_up (fun _ => none) 0 (some (y 41))) 1 (some (y 50)))), (y 32, aI V 10 (ff 23)), (y 33, .inr (7, [.ref (y 34), .int (pp 36), .int (pp 37)])), (y 34, aJ V 40 (gg 0)), (y 35, .inr (7, [.ref (y 36), .int (pp 38), .int (pp 39)])), (y 36, aJ V 40 (gg 1)), (y 37, .inr (7, [.ref (y 38), .int (pp 40), .int (pp 41)])), (y 38, aJ V 40 (gg 2)), (y 39, .inr (7, [.ref (y 40), .int (pp 42), .int (pp 43)])), (y 40, aJ V 40 (gg 3)), (y 41, .inr (3, [.ref (y 42), .int (pp 44), .int (pp 45), .int (pp 46), .int (pp 47)])), (y 42, .inr (1, [.int (pp 48), .int (pp 49), .int (pp 50), .int (pp 51), .int (pp 52), .int (pp 53), .ref (y 43), .ref (y 44), .ref (y 45), .ref (y 46), .ref (y 47), .ref (y 48), .ref (y 49), .int (pp 54), .int (pp 55), .int (pp 56), .int (pp 57), .int (pp 58)])), (y 43, aI V 4 (ff 24)), (y 44, aI V 4 (ff 25)), (y 45, aI V 4 (ff 26)), (y 46, aI V 8 (ff 27)), (y 47, aI V 8 (ff 28)), (y 48, aI V 8 (ff 29)), (y 49, aI V 900 (ff 30)), (y 50, .inr (3, [.ref (y 51), .int (pp 59), .int (pp 60), .int (pp 61), .int (pp 62)])), (y 51, .inr (1, [.int (pp 63), .int (pp 64), .int (pp 65), .int (pp 66), .int (pp 67), .int (pp 68), .ref (y 52), .ref (y 53), .ref (y 54), .ref (y 55), .ref (y 56), .ref (y 57), .ref (y 58), .int (pp 69), .int (pp 70), .int (pp 71), .int (pp 72), .int (pp 73)])), (y 52, aI V 4 (ff 31)), (y 53, aI V 4 (ff 32)), (y 54, aI V 4 (ff 33)), (y 55, aI V 8 (ff 34)), (y 56, aI V 8 (ff 35)), (y 57, aI V 8 (ff 36)), (y 58, aI V 900 (ff 37)), (wa, aI V n (ee 2)), (Yw 7, aI V n (ee 6)), (wb, aI V n (ee 8))]) (rest := []) G (k_X9_forces_0 l V n L ft Yw Yg y a1 a2 (pp 0) (pp 1) (pp 2) (pp 3) (pp 4) (pp 5) (pp 6) (pp 7) (pp 8) (pp 9) (pp 10) (pp 11) (pp 12) (pp 13) (pp 14) (ff 1) (ff 7) (ff 15) (ff 16) (ff 17) (qq 0) wa (qq 5) (qq 6) wb (qq 14) (qq 15) (qq 16) (ee 0) (ee 1) (ee 3) (ee 4) (ee 5) (ee 7) (rr 6) (uu 0) (uu 1) (uu 2) (uu 3) (uu 4) hn hL hft hq (hp 0) (hp 5) (hp 6) (hp 7) (hp 10) (hp 11) (hp 12) (hp 13) (hp 14) hw_q0 hw_q5 hw_q6 hw_q14 hw_q16 hw_tYw1 hw_tYw4 hw_tYw5 hw_tYw6 (iv_w hv_r6 (by omega)) (fun j => iv_w (hv_tYg1 j) (by omega)) (fun j => iv_w (hv_tYg3 j) (by omega)) (fun j => iv_w (hv_tYg4 j) (by omega)) (fun j => iv_w (hv_tYg5 j) (by omega)) hw_WA hw_WB hw_WC) mt_X9_forces q_5_86 ⟨Nat.le_of_ble_eq_true rfl, Nat.le_of_ble_eq_true rfl⟩ hP hD hS [0, 2, 3, 9, 19, 20, 21, 22, 59, 60, 61, 63, 64, 65, 67, 69, 70, 71, 72, 73, 74] [1, 4, 5, 6, 7, 8, 10, 11, 12, 13, 14, 15, 16, 17, 18, 23, 24, 25, 26, 27, 28, 29, 30, 31, 32, 33, 34, 35, 36, 37, 38, 39, 40, 41, 42, 43, 44, 45, 46, 47, 48, 49, 50, 51, 52, 53, 54, 55, 56, 57, 58, 62, 66, 68] (by decide +kernel) rfl rfl (by decide +kernel) (by decide +kernel) 0 rfl rfl rfl rfl hlz rfl (Nat.le_of_ble_eq_true rfl) dL_law_1187 (PTn_room hT hw_q0) (fun r w H locs hw hP hD hS => ?_)
  refine Exists.elim hw (fun g0 hw => ?_)
  refine Exists.elim hw (fun g1 hw => ?_)
  refine Exists.elim hw (fun g2 hw => ?_)
  refine Exists.elim hw (fun v3 hw => ?_)
  refine Exists.elim hw (fun v4 hw => ?_)
  refine Exists.elim hw (fun v5 hw => ?_)
  refine Exists.elim hw (fun v6 hw => ?_)
  refine Exists.elim hw (fun v7 hw => ?_)
  refine Exists.elim hw (fun g8 hw => ?_)
  refine Exists.elim hw (fun g9 hw => ?_)
  refine Exists.elim hw (fun g10 hw => ?_)
  refine Exists.elim hw (fun g11 hw => ?_)
  refine Exists.elim hw (fun g12 hw => ?_)
  refine Exists.elim hw (fun g13 hw => ?_)
  refine Exists.elim hw (fun v14 hw => ?_)
  refine Exists.elim hw (fun g15 hw => ?_)
  refine Exists.elim hw (fun g16 hw => ?_)
  refine Exists.elim hw (fun g17 hw => ?_)
  refine Exists.elim hw (fun g18 hw => ?_)
  refine Exists.elim hw (fun g19 hw => ?_)
  refine And.elim (fun bv3 hw => ?_) hw
  refine And.elim (fun bv4 hw => ?_) hw
  refine And.elim (fun bv5 hw => ?_) hw
  refine And.elim (fun bv7 hw => ?_) hw
  refine And.elim (fun bg8 hw => ?_) hw
  refine And.elim (fun bg10 hw => ?_) hw
  refine And.elim (fun bg11 hw => ?_) hw
  refine And.elim (fun bg12 hw => ?_) hw
  refine And.elim (fun bv14 hw => ?_) hw
  refine And.elim (fun bg15 hw => ?_) hw
  refine And.elim (fun bg17 hw => ?_) hw
  refine And.elim (fun bg18 hw => ?_) hw
  refine And.elim (fun bg19 hw => ?_) hw
  refine And.elim (fun br hw => ?_) hw
  refine And.elim (fun g_0 hw => ?_) hw
  refine And.elim (fun g_1 hw => ?_) hw
  refine And.elim (fun g_2 hw => ?_) hw
  subst hw
  have hP := ptP (ws' := wB V y pp (up9 (up9 (up9 ff 15 g0) 16 g1) 17 g2) gg (.ref (Yw 0)) (.ref (Yg 0)) ++ (wY V y n L Yw wa wb (br9 17 (br9 8 (br9 4 qq (br9 6 (br9 5 qq (lf9 v3)) (br9 7 (lf9 v4) qq))) (br9 12 qq (br9 14 qq (br9 15 (lf9 v5) (br9 16 (lf9 v6) (lf9 v7)))))) qq) (br9 8 (br9 4 (br9 2 (br9 1 (lf9 g8) (lf9 g9)) (br9 3 ee (lf9 g10))) (br9 6 (br9 5 (lf9 g11) (lf9 g12)) (br9 7 ee (lf9 g13)))) ee) ++ wO V (n + ft) Yg (up9 rr 6 v14) (br9 5 (br9 2 (br9 1 (lf9 g15) (lf9 g16)) (br9 3 (lf9 g17) (br9 4 (lf9 g18) (lf9 g19)))) uu))) hP [54, 0, 55, 56, 1, 2, 3, 4, 5, 57, 6, 7, 8, 9, 10, 11, 12, 13, 14, 58, 59, 60, 61, 15, 16, 17, 18, 19, 20, 21, 22, 23, 24, 25, 26, 27, 28, 29, 30, 31, 32, 33, 34, 35, 36, 37, 38, 39, 40, 41, 42, 43, 44, 45, 46, 47, 48, 49, 50, 62, 63, 64, 51, 65, 66, 67, 52, 68, 53, 69, 70, 71, 72, 73, 74] rfl
  have hD := hD.part (cx := wB V y pp (up9 (up9 (up9 ff 15 g0) 16 g1) 17 g2) gg (.ref (Yw 0)) (.ref (Yg 0)) ++ (wY V y n L Yw wa wb (br9 17 (br9 8 (br9 4 qq (br9 6 (br9 5 qq (lf9 v3)) (br9 7 (lf9 v4) qq))) (br9 12 qq (br9 14 qq (br9 15 (lf9 v5) (br9 16 (lf9 v6) (lf9 v7)))))) qq) (br9 8 (br9 4 (br9 2 (br9 1 (lf9 g8) (lf9 g9)) (br9 3 ee (lf9 g10))) (br9 6 (br9 5 (lf9 g11) (lf9 g12)) (br9 7 ee (lf9 g13)))) ee) ++ wO V (n + ft) Yg (up9 rr 6 v14) (br9 5 (br9 2 (br9 1 (lf9 g15) (lf9 g16)) (br9 3 (lf9 g17) (br9 4 (lf9 g18) (lf9 g19)))) uu))) [54, 0, 55, 56, 1, 2, 3, 4, 5, 57, 6, 7, 8, 9, 10, 11, 12, 13, 14, 58, 59, 60, 61, 15, 16, 17, 18, 19, 20, 21, 22, 23, 24, 25, 26, 27, 28, 29, 30, 31, 32, 33, 34, 35, 36, 37, 38, 39, 40, 41, 42, 43, 44, 45, 46, 47, 48, 49, 50, 62, 63, 64, 51, 65, 66, 67, 52, 68, 53, 69, 70, 71, 72, 73, 74] (by decide +kernel) rfl
  exact kk r H locs (cells + 0) (slots + 0) _ ⟨pp, (up9 (up9 (up9 ff 15 g0) 16 g1) 17 g2), gg, .ref (Yw 0), .ref (Yg 0), _, hp, ht0, ht1, ht2, ht3, ht4, Or.inr ⟨n, L, Yw, wa, wb, (br9 17 (br9 8 (br9 4 qq (br9 6 (br9 5 qq (lf9 v3)) (br9 7 (lf9 v4) qq))) (br9 12 qq (br9 14 qq (br9 15 (lf9 v5) (br9 16 (lf9 v6) (lf9 v7)))))) qq), (br9 8 (br9 4 (br9 2 (br9 1 (lf9 g8) (lf9 g9)) (br9 3 ee (lf9 g10))) (br9 6 (br9 5 (lf9 g11) (lf9 g12)) (br9 7 ee (lf9 g13)))) ee), _, n + ft, ⟨hn, hL, hw_q0, bv3, bv4, bv5, bv7, bg8, bg10, bg11, bg12, hw_tYw7, g_0, g_1, g_2⟩, Or.inr ⟨Yg, (up9 rr 6 v14), (br9 5 (br9 2 (br9 1 (lf9 g15) (lf9 g16)) (br9 3 (lf9 g17) (br9 4 (lf9 g18) (lf9 g19)))) uu), hfm, (iv_w bv14 (by omega)), (fun j => iv_w (bg15 j) (by omega)), (fun j => iv_w (bg17 j) (by omega)), (fun j => iv_w (bg18 j) (by omega)), (fun j => iv_w (bg19 j) (by omega)), rfl, rfl⟩, hT, rfl, rfl⟩, rfl⟩ hP hD hS
set_option maxHeartbeats 4000000 in
set_option maxRecDepth 100000 in
theorem cx_34 {p : Program} {e : Env} {s : State} {m : MethodId} {below : List Frame} {meth : Method} {c : Code} {l : Launch} {b Lk : Nat} {xs : Nat → Int32} {V : GV} {y : Nat → Nat} {τ : Nat → Int32} {H : Heap} {locs : List Loc} {cells slots : Nat} {wz : va_W} {ls : Array Slot} (G : LCx p s m meth c b Lk xs V) (a1 : Int32) (a2 : Int32) {wx : va_W} (kx : KX V y cells slots τ wx) (hP : va_P V.1 vwCl (wx ++ wz) H) (hD : va_D (AAs s) (wx ++ wz)) (hS : va_S (AAs s) s.heap H locs) (hlz : ls.size = 4) (kk : (∀ (r : Int32) (H : Heap) (locs : List Loc) (cells slots : Nat) (wx : va_W), KX V y cells slots τ wx → va_P V.1 vwCl (wx ++ wz) H → va_D (AAs s) (wx ++ wz) → va_S (AAs s) s.heap H locs → W p l e room_1 s m #[Value.ref b] below meth c H locs cells slots (lw_Z below #[Value.ref b] s) (F0 m 1190 ls [.int r]))) : W p l e room_1 s m #[Value.ref b] below meth c H locs cells slots (lw_Z below #[Value.ref b] s) (F0 m 1187 ls [.int a2, .int a1, .ref (y 0)]) := by
  obtain ⟨pp, ff, gg, o10, o11, rest, hp, ht0, ht1, ht2, ht3, ht4, hR, rfl⟩ := kx
  by_cases hg : 0 ≤ (a1 : Int32).toInt ∧ (a1 : Int32).toInt < ((pp 5) : Int32).toInt ∧ 0 ≤ (a2 : Int32).toInt ∧ (a2 : Int32).toInt ≤ 4
  · rcases hR with ⟨rfl, rfl, rfl, hc⟩ | ⟨n, L, Yw, wa, wb, qq, ee, fr, fm, hW, hF, hT, rfl, rfl⟩
    · exact cx_34_0 G _ _ hp ht0 ht1 ht2 ht3 ht4 hc hg hP hD hS hlz kk
    · rcases hF with ⟨rfl, rfl, rfl⟩ | ⟨Yg, rr, uu, hfm, hv_r6, hv_tYg1, hv_tYg3, hv_tYg4, hv_tYg5, rfl, rfl⟩
      · rcases Classical.em (pp 5 ≤ qq 0) with hq | hq
        · exact cx_34_na G _ _ hp ht0 ht1 ht2 ht3 ht4 hW hT hq hg hP hD hS hlz kk
        · replace hq := Int32.not_le.mp hq
          exact cx_34_nb G _ _ hp ht0 ht1 ht2 ht3 ht4 hW hT hq hg hP hD hS hlz kk
      · rcases Classical.em (pp 5 ≤ qq 0) with hq | hq
        · rcases Nat.lt_or_ge fm n with hlt | hlt
          · exact cx_34_ga G _ _ hfm hv_r6 hv_tYg1 hv_tYg3 hv_tYg4 hv_tYg5 hp ht0 ht1 ht2 ht3 ht4 hW hT hq hg hP hD hS hlt hlz kk
          · obtain ⟨ft, rfl⟩ : ∃ ft, fm = n + ft := ⟨fm - n, by omega⟩
            exact cx_34_fa G _ _ hfm hv_r6 hv_tYg1 hv_tYg3 hv_tYg4 hv_tYg5 hp ht0 ht1 ht2 ht3 ht4 hW hT hq hP hD hS hlz kk
        · replace hq := Int32.not_le.mp hq
          exact cx_34_gb G _ _ hfm hv_r6 hv_tYg1 hv_tYg3 hv_tYg4 hv_tYg5 hp ht0 ht1 ht2 ht3 ht4 hW hT hq hg hP hD hS hlz kk
  · exact cx_34_e G _ _ hp ht0 ht1 ht2 ht3 ht4 hR hg hP hD hS hlz kk
theorem q_8_92 : Cond.code yX10_forces prog_12_method_120_code 4 (some FieldType.int) ∈ gw := gw_8 (i := 92) (rfl) rfl
theorem q_8_90 : Cond.instanceMethod yX10_forces ∈ gw := gw_8 (i := 90) (by decide +kernel) rfl
theorem q_8_91 : Cond.selects "BeaconDelayModel" yX10_forces yX10_forces ∈ gw := gw_8 (i := 91) (by decide +kernel) rfl
theorem mt_X10_forces : MtV yX10_forces cX10_forces 4 (some .int) 2 := ⟨⟨q_8_92, q_1_9, by decide +kernel, by decide +kernel, by decide +kernel⟩, q_8_90, q_8_91⟩
theorem q_8_89 : Cond.methodLink "BeaconDelayLaw" 159 yX10_forces ∈ gw := gw_8 (i := 89) (by decide +kernel) rfl
theorem dL_law_1202 : decode cL_law 1202 = .ok (.invokevirtual 159, 3) := by decide +kernel
set_option maxHeartbeats 4000000 in
set_option maxRecDepth 100000 in
theorem cz_34 {p : Program} {e : Env} {s : State} {m : MethodId} {below : List Frame} {meth : Method} {c : Code} {l : Launch} {b Lk : Nat} {xs : Nat → Int32} {V : GV} {z : Nat → Nat} {τ : Nat → Int32} {H : Heap} {locs : List Loc} {cells slots : Nat} {wx : va_W} {ls : Array Slot} {rest : List Value} (G : LCx p s m meth c b Lk xs V) (a1 : Int32) (a2 : Int32) {wz : va_W} (kz : KZ V z τ wz) (hP : va_P V.1 vwCl (wx ++ wz) H) (hD : va_D (AAs s) (wx ++ wz)) (hS : va_S (AAs s) s.heap H locs) (hcs : cells + 0 ≤ 600000 ∧ slots + 0 ≤ 7302250) (hro : (rest.map fun v => v.category).sum ≤ 8) (hlz : ls.size = 4) (kk : (∀ (r : Int32) (H : Heap) (locs : List Loc) (wz : va_W), KZ V z τ wz → va_P V.1 vwCl (wx ++ wz) H → va_D (AAs s) (wx ++ wz) → va_S (AAs s) s.heap H locs → W p l e room_1 s m #[Value.ref b] below meth c H locs cells slots (lw_Z below #[Value.ref b] s) (F0 m 1205 ls (.int r :: rest)))) : W p l e room_1 s m #[Value.ref b] below meth c H locs cells slots (lw_Z below #[Value.ref b] s) (F0 m 1202 ls (.int a2 :: .int a1 :: .ref (z 0) :: rest)) := by
  obtain ⟨pz, fz, gz, hp, ht0, ht1, ht2, ht3, hz_tz1, hz_tz3, hz_tz4, hz_tz16, hz_tz17, hz_tz20, hz_tz21, hz_tz24, hz_tz25, hz_tz26, hz_tz27, hz_tz33, hz_tz34, hz_tz37, hz_tz38, hz_RW, rfl⟩ := kz
  replace hP := swP hP
  replace hD := swD hD
  refine cSI (X := wZ V z pz fz gz) (pl := wx) (rest := rest) G (k_X10_forces_0 l V z a1 a2 (pz 0) (pz 5) (pz 6) (pz 7) (pz 8) (pz 9) (pz 10) (pz 11) (pz 12) (pz 13) (pz 14) (pz 18) (pz 19) (pz 22) (pz 23) (pz 29) (fz 0) (fz 4) (fz 5) (fz 9) (fz 10) (fz 11) (fz 12) (fz 13) (hp 5) (hp 6) (hp 7) (hp 8) (hp 10) (hp 11) (hp 12) (hp 13) (hp 14) (hp 18) (hp 22) (hp 29) hz_tz1 hz_tz16 hz_tz24 hz_tz25 hz_tz26 hz_tz27 hz_RW) mt_X10_forces q_8_89 ⟨Nat.le_of_ble_eq_true rfl, Nat.le_of_ble_eq_true rfl⟩ hP hD hS [0, 1, 5, 6, 10, 11, 12, 13, 14] [0, 0, 3, 0, 3, 0, 0, 0, 0] (by decide) (by decide +kernel) rfl 0 rfl rfl rfl rfl hlz rfl hro dL_law_1202 hcs (fun r w H locs hw hPD hS => ?_)
  refine Exists.elim hw (fun v0 hw => ?_)
  refine Exists.elim hw (fun v1 hw => ?_)
  refine Exists.elim hw (fun g2 hw => ?_)
  refine Exists.elim hw (fun g3 hw => ?_)
  refine Exists.elim hw (fun g4 hw => ?_)
  refine Exists.elim hw (fun g5 hw => ?_)
  refine Exists.elim hw (fun g6 hw => ?_)
  refine Exists.elim hw (fun g7 hw => ?_)
  refine Exists.elim hw (fun g8 hw => ?_)
  refine And.elim (fun bv1 hw => ?_) hw
  refine And.elim (fun bg3 hw => ?_) hw
  refine And.elim (fun bg4 hw => ?_) hw
  refine And.elim (fun bg5 hw => ?_) hw
  refine And.elim (fun bg6 hw => ?_) hw
  refine And.elim (fun bg7 hw => ?_) hw
  refine And.elim (fun g_0 hw => ?_) hw
  subst hw
  obtain ⟨hP, hD⟩ := hPD (wZ V z (up9 (up9 pz 0 v0) 29 v1) (br9 14 (br9 7 (br9 3 fz (br9 5 (br9 4 fz (lf9 g2)) (br9 6 (lf9 g3) fz))) (br9 10 (br9 8 fz (br9 9 fz (lf9 g4))) (br9 12 (br9 11 (lf9 g5) (lf9 g6)) (br9 13 (lf9 g7) (lf9 g8))))) fz) gz) rfl rfl
  replace hP := swP hP
  replace hD := swD hD
  exact kk r H locs _ ⟨(up9 (up9 pz 0 v0) 29 v1), (br9 14 (br9 7 (br9 3 fz (br9 5 (br9 4 fz (lf9 g2)) (br9 6 (lf9 g3) fz))) (br9 10 (br9 8 fz (br9 9 fz (lf9 g4))) (br9 12 (br9 11 (lf9 g5) (lf9 g6)) (br9 13 (lf9 g7) (lf9 g8))))) fz), gz, (ivUp 29 (ivUp 0 hp (iv_top v0)) bv1), ht0, ht1, ht2, ht3, hz_tz1, hz_tz3, hz_tz4, bg3, hz_tz17, hz_tz20, hz_tz21, bg4, bg5, bg6, bg7, hz_tz33, hz_tz34, hz_tz37, hz_tz38, g_0, rfl⟩ hP hD hS
theorem q_5_149 : Cond.code yX9_best prog_1_method_63_code 6 (some FieldType.int) ∈ gw := gw_5 (i := 149) (rfl) rfl
theorem q_5_147 : Cond.instanceMethod yX9_best ∈ gw := gw_5 (i := 147) (by decide +kernel) rfl
theorem q_5_148 : Cond.selects "BeaconDelay" yX9_best yX9_best ∈ gw := gw_5 (i := 148) (by decide +kernel) rfl
theorem mt_X9_best : MtV yX9_best cX9_best 6 (some .int) 2 := ⟨⟨q_5_149, q_1_1, by decide +kernel, by decide +kernel, by decide +kernel⟩, q_5_147, q_5_148⟩
theorem q_5_146 : Cond.methodLink "BeaconDelayLaw" 160 yX9_best ∈ gw := gw_5 (i := 146) (by decide +kernel) rfl
theorem dL_law_1220 : decode cL_law 1220 = .ok (.invokevirtual 160, 3) := by decide +kernel
set_option maxHeartbeats 4000000 in
set_option maxRecDepth 100000 in
theorem cx_35_e {p : Program} {e : Env} {s : State} {m : MethodId} {below : List Frame} {meth : Method} {c : Code} {l : Launch} {b Lk : Nat} {xs : Nat → Int32} {V : GV} {y : Nat → Nat} {τ : Nat → Int32} {H : Heap} {locs : List Loc} {cells slots : Nat} {wz : va_W} {ls : Array Slot} (G : LCx p s m meth c b Lk xs V) (a1 : Int32) (a2 : Int32) {pp : Nat → Int32} {ff : Nat → Nat → Int32} {gg : Nat → Nat → Int64} {o10 o11 : Value} {rest : va_W} (hp : ivT tX pp) (ht0 : pp 0 = τ 0) (ht1 : pp 15 = τ 1) (ht2 : pp 16 = τ 2) (ht3 : BTs (ff 0) (tauT τ)) (ht4 : (∀ j, iv (-128) 127 ((ff 0) j))) (hR : RRo V y cells slots o10 o11 rest) (hg : ¬ (0 ≤ (a1 : Int32).toInt ∧ (a1 : Int32).toInt < ((pp 5) : Int32).toInt ∧ 0 ≤ (a2 : Int32).toInt ∧ (a2 : Int32).toInt ≤ 4)) (hP : va_P V.1 vwCl (wB V y pp ff gg o10 o11 ++ rest ++ wz) H) (hD : va_D (AAs s) (wB V y pp ff gg o10 o11 ++ rest ++ wz)) (hS : va_S (AAs s) s.heap H locs) (hlz : ls.size = 4) (kk : (∀ (r : Int32) (H : Heap) (locs : List Loc) (cells slots : Nat) (wx : va_W), KX V y cells slots τ wx → va_P V.1 vwCl (wx ++ wz) H → va_D (AAs s) (wx ++ wz) → va_S (AAs s) s.heap H locs → W p l e room_1 s m #[Value.ref b] below meth c H locs cells slots (lw_Z below #[Value.ref b] s) (F0 m 1223 ls [.int r]))) : W p l e room_1 s m #[Value.ref b] below meth c H locs cells slots (lw_Z below #[Value.ref b] s) (F0 m 1220 ls [.int a2, .int a1, .ref (y 0)]) := by
  rw [as3] at hP hD
  refine cSI (X := wB V y pp ff gg o10 o11) (pl := rest ++ wz) (rest := []) G (k_X9_best_1 l V y a1 a2 (pp 0) o10 o11 (pp 1) (pp 2) (pp 3) (pp 4) (pp 5) (pp 6) (pp 7) (pp 8) (pp 9) (pp 10) (pp 11) (pp 12) (pp 13) (pp 14) (hp 0) (hp 5) (hp 6) (hp 7) (hp 10) (hp 11) (hp 12) (hp 13) (hp 14) hg) mt_X9_best q_5_146 ⟨Nat.le_of_ble_eq_true rfl, Nat.le_of_ble_eq_true rfl⟩ hP hD hS [0, 2] [0, 1] (by decide) (by decide +kernel) rfl 0 rfl rfl rfl rfl hlz rfl (Nat.le_of_ble_eq_true rfl) dL_law_1220 hR.room (fun r w H locs hw hPD hS => ?_)
  refine And.elim (fun br hw => ?_) hw
  subst hw
  obtain ⟨hP, hD⟩ := hPD (wB V y pp ff gg o10 o11) rfl rfl
  rw [← as3] at hP hD
  exact kk r H locs (cells + 0) (slots + 0) _ ⟨pp, ff, gg, o10, o11, rest, hp, ht0, ht1, ht2, ht3, ht4, hR, rfl⟩ hP hD hS
set_option maxHeartbeats 4000000 in
set_option maxRecDepth 100000 in
theorem cx_35_0 {p : Program} {e : Env} {s : State} {m : MethodId} {below : List Frame} {meth : Method} {c : Code} {l : Launch} {b Lk : Nat} {xs : Nat → Int32} {V : GV} {y : Nat → Nat} {τ : Nat → Int32} {H : Heap} {locs : List Loc} {cells slots : Nat} {wz : va_W} {ls : Array Slot} (G : LCx p s m meth c b Lk xs V) (a1 : Int32) (a2 : Int32) {pp : Nat → Int32} {ff : Nat → Nat → Int32} {gg : Nat → Nat → Int64} (hp : ivT tX pp) (ht0 : pp 0 = τ 0) (ht1 : pp 15 = τ 1) (ht2 : pp 16 = τ 2) (ht3 : BTs (ff 0) (tauT τ)) (ht4 : (∀ j, iv (-128) 127 ((ff 0) j))) (hc : cells + 116 ≤ 600000 ∧ slots + 633553 ≤ 7302250) (hg : 0 ≤ (a1 : Int32).toInt ∧ (a1 : Int32).toInt < ((pp 5) : Int32).toInt ∧ 0 ≤ (a2 : Int32).toInt ∧ (a2 : Int32).toInt ≤ 4) (hP : va_P V.1 vwCl (wB V y pp ff gg .null .null ++ [] ++ wz) H) (hD : va_D (AAs s) (wB V y pp ff gg .null .null ++ [] ++ wz)) (hS : va_S (AAs s) s.heap H locs) (hlz : ls.size = 4) (kk : (∀ (r : Int32) (H : Heap) (locs : List Loc) (cells slots : Nat) (wx : va_W), KX V y cells slots τ wx → va_P V.1 vwCl (wx ++ wz) H → va_D (AAs s) (wx ++ wz) → va_S (AAs s) s.heap H locs → W p l e room_1 s m #[Value.ref b] below meth c H locs cells slots (lw_Z below #[Value.ref b] s) (F0 m 1223 ls [.int r]))) : W p l e room_1 s m #[Value.ref b] below meth c H locs cells slots (lw_Z below #[Value.ref b] s) (F0 m 1220 ls [.int a2, .int a1, .ref (y 0)]) := by
  refine cXI (X := wB V y pp ff gg .null .null ++ []) (pl := wz) (wr := [(y 1, aB V 900 (ff 0)), (y 4, aI V 4 (ff 2)), (y 5, aI V 4 (ff 3)), (y 6, aI V 8 (ff 4)), (y 7, aI V 8 (ff 5)), (y 8, aI V 8 (ff 6)), (y 10, .inr (6, [.ref (y 11), .int (pp 15), .int (pp 16), .ref (y 1), .int (pp 17), .int (pp 18), .int (pp 19), .int (pp 20), .int (pp 21)])), (y 11, .inr (1, [.int (pp 22), .int (pp 23), .int (pp 24), .int (pp 25), .int (pp 26), .int (pp 27), .ref (y 12), .ref (y 13), .ref (y 14), .ref (y 15), .ref (y 16), .ref (y 17), .ref (y 18), .int (pp 28), .int (pp 29), .int (pp 30), .int (pp 31), .int (pp 32)])), (y 12, aI V 4 (ff 8)), (y 13, aI V 4 (ff 9)), (y 14, aI V 4 (ff 10)), (y 15, aI V 8 (ff 11)), (y 16, aI V 8 (ff 12)), (y 17, aI V 8 (ff 13)), (y 18, aI V 900 (ff 14)), (y 23, aI V 10 (ff 18)), (y 24, aI V 10 (ff 19)), (y 25, .inr (0, [.int (pp 33), .int (pp 34)])), (y 26, .inr (5, [.ref (y 27), .ref (y 28), .ref (y 29), .int (pp 35)])), (y 27, aI V 10 (ff 20)), (y 28, aI V 10 (ff 21)), (y 29, aI V 10 (ff 22)), (y 30, aT V 4 (va_up (va_up (va_up (va_up (fun _ => none) 0 (some (y 33))) 1 (some (y 35))) 2 (some (y 37))) 3 (some (y 39)))), (y 31, aM V 2 (va_up (va_up (fun _ => none) 0 (some (y 41))) 1 (some (y 50)))), (y 32, aI V 10 (ff 23)), (y 33, .inr (7, [.ref (y 34), .int (pp 36), .int (pp 37)])), (y 34, aJ V 40 (gg 0)), (y 35, .inr (7, [.ref (y 36), .int (pp 38), .int (pp 39)])), (y 36, aJ V 40 (gg 1)), (y 37, .inr (7, [.ref (y 38), .int (pp 40), .int (pp 41)])), (y 38, aJ V 40 (gg 2)), (y 39, .inr (7, [.ref (y 40), .int (pp 42), .int (pp 43)])), (y 40, aJ V 40 (gg 3)), (y 41, .inr (3, [.ref (y 42), .int (pp 44), .int (pp 45), .int (pp 46), .int (pp 47)])), (y 42, .inr (1, [.int (pp 48), .int (pp 49), .int (pp 50), .int (pp 51), .int (pp 52), .int (pp 53), .ref (y 43), .ref (y 44), .ref (y 45), .ref (y 46), .ref (y 47), .ref (y 48), .ref (y 49), .int (pp 54), .int (pp 55), .int (pp 56), .int (pp 57), .int (pp 58)])), (y 43, aI V 4 (ff 24)), (y 44, aI V 4 (ff 25)), (y 45, aI V 4 (ff 26)), (y 46, aI V 8 (ff 27)), (y 47, aI V 8 (ff 28)), (y 48, aI V 8 (ff 29)), (y 49, aI V 900 (ff 30)), (y 50, .inr (3, [.ref (y 51), .int (pp 59), .int (pp 60), .int (pp 61), .int (pp 62)])), (y 51, .inr (1, [.int (pp 63), .int (pp 64), .int (pp 65), .int (pp 66), .int (pp 67), .int (pp 68), .ref (y 52), .ref (y 53), .ref (y 54), .ref (y 55), .ref (y 56), .ref (y 57), .ref (y 58), .int (pp 69), .int (pp 70), .int (pp 71), .int (pp 72), .int (pp 73)])), (y 52, aI V 4 (ff 31)), (y 53, aI V 4 (ff 32)), (y 54, aI V 4 (ff 33)), (y 55, aI V 8 (ff 34)), (y 56, aI V 8 (ff 35)), (y 57, aI V 8 (ff 36)), (y 58, aI V 900 (ff 37))]) (rest := []) G (k_X9_best_2 l V y a1 a2 (pp 0) (pp 1) (pp 2) (pp 3) (pp 4) (pp 5) (pp 6) (pp 7) (pp 8) (pp 9) (pp 10) (pp 11) (pp 12) (pp 13) (pp 14) (ff 1) (ff 7) (ff 15) (ff 16) (ff 17) (hp 0) (hp 5) (hp 6) (hp 7) (hp 10) (hp 11) (hp 12) (hp 13) (hp 14) hg.1 hg.2.1 hg.2.2.1 hg.2.2.2) mt_X9_best q_5_146 ⟨Nat.le_of_ble_eq_true rfl, Nat.le_of_ble_eq_true rfl⟩ hP hD hS [0, 2, 3, 9, 19, 20, 21, 22] [1, 4, 5, 6, 7, 8, 10, 11, 12, 13, 14, 15, 16, 17, 18, 23, 24, 25, 26, 27, 28, 29, 30, 31, 32, 33, 34, 35, 36, 37, 38, 39, 40, 41, 42, 43, 44, 45, 46, 47, 48, 49, 50, 51, 52, 53, 54, 55, 56, 57, 58] (by decide +kernel) rfl rfl (by decide +kernel) (by decide +kernel) 0 rfl rfl rfl rfl hlz rfl (Nat.le_of_ble_eq_true rfl) dL_law_1220 (by omega) (fun r w H locs hw hP hD hS => ?_)
  refine Exists.elim hw (fun n1 hw => ?_)
  refine Exists.elim hw (fun L1 hw => ?_)
  refine Exists.elim hw (fun Yw1 hw => ?_)
  refine Exists.elim hw (fun wa1 hw => ?_)
  refine Exists.elim hw (fun wb1 hw => ?_)
  refine Exists.elim hw (fun ft1 hw => ?_)
  refine Exists.elim hw (fun Yf1 hw => ?_)
  refine Exists.elim hw (fun g0 hw => ?_)
  refine Exists.elim hw (fun g1 hw => ?_)
  refine Exists.elim hw (fun g2 hw => ?_)
  refine Exists.elim hw (fun ww0 hw => ?_)
  refine Exists.elim hw (fun ww5 hw => ?_)
  refine Exists.elim hw (fun ww6 hw => ?_)
  refine Exists.elim hw (fun ww14 hw => ?_)
  refine Exists.elim hw (fun ww15 hw => ?_)
  refine Exists.elim hw (fun ww16 hw => ?_)
  refine Exists.elim hw (fun wew1 hw => ?_)
  refine Exists.elim hw (fun wew2 hw => ?_)
  refine Exists.elim hw (fun wew3 hw => ?_)
  refine Exists.elim hw (fun wew4 hw => ?_)
  refine Exists.elim hw (fun wew5 hw => ?_)
  refine Exists.elim hw (fun wew6 hw => ?_)
  refine Exists.elim hw (fun wew7 hw => ?_)
  refine Exists.elim hw (fun wew8 hw => ?_)
  refine Exists.elim hw (fun wew9 hw => ?_)
  refine Exists.elim hw (fun wf6 hw => ?_)
  refine Exists.elim hw (fun wef1 hw => ?_)
  refine Exists.elim hw (fun wef2 hw => ?_)
  refine Exists.elim hw (fun wef3 hw => ?_)
  refine Exists.elim hw (fun wef4 hw => ?_)
  refine Exists.elim hw (fun wef5 hw => ?_)
  refine And.elim (fun hn1 hw => ?_) hw
  refine And.elim (fun hL1 hw => ?_) hw
  refine And.elim (fun hft1 hw => ?_) hw
  refine And.elim (fun bww0 hw => ?_) hw
  refine And.elim (fun bww5 hw => ?_) hw
  refine And.elim (fun bww6 hw => ?_) hw
  refine And.elim (fun bww14 hw => ?_) hw
  refine And.elim (fun bww16 hw => ?_) hw
  refine And.elim (fun bwew1 hw => ?_) hw
  refine And.elim (fun bwew4 hw => ?_) hw
  refine And.elim (fun bwew5 hw => ?_) hw
  refine And.elim (fun bwew6 hw => ?_) hw
  refine And.elim (fun bwew7 hw => ?_) hw
  refine And.elim (fun bwf6 hw => ?_) hw
  refine And.elim (fun bwef1 hw => ?_) hw
  refine And.elim (fun bwef3 hw => ?_) hw
  refine And.elim (fun bwef4 hw => ?_) hw
  refine And.elim (fun bwef5 hw => ?_) hw
  refine And.elim (fun br hw => ?_) hw
  refine And.elim (fun g_0 hw => ?_) hw
  refine And.elim (fun g_1 hw => ?_) hw
  refine And.elim (fun g_2 hw => ?_) hw
  refine And.elim (fun g_3 hw => ?_) hw
  refine And.elim (fun g_4 hw => ?_) hw
  subst hw
  have hP := ptP (ws' := wB V y pp (up9 (up9 (up9 ff 15 g0) 16 g1) 17 g2) gg (.ref (Yw1 0)) (.ref (Yf1 0)) ++ (wY V y n1 L1 Yw1 wa1 wb1 (br9 17 (br9 8 (br9 4 (br9 2 (br9 1 (lf9 ww0) (fun _ => 0)) (fun _ => 0)) (br9 6 (br9 5 (fun _ => 0) (lf9 ww5)) (br9 7 (lf9 ww6) (fun _ => 0)))) (br9 12 (fun _ => 0) (br9 14 (fun _ => 0) (br9 15 (lf9 ww14) (br9 16 (lf9 ww15) (lf9 ww16)))))) (fun _ => 0)) (br9 9 (br9 4 (br9 2 (br9 1 (lf9 wew1) (lf9 wew2)) (br9 3 (lf9 wew3) (lf9 wew4))) (br9 6 (br9 5 (lf9 wew5) (lf9 wew6)) (br9 7 (lf9 wew7) (br9 8 (lf9 wew8) (lf9 wew9))))) (fun _ _ => 0)) ++ wO V (n1 + ft1) Yf1 (up9 (fun _ => 0) 6 wf6) (br9 5 (br9 2 (br9 1 (lf9 wef1) (lf9 wef2)) (br9 3 (lf9 wef3) (br9 4 (lf9 wef4) (lf9 wef5)))) (fun _ _ => 0)))) hP [51, 0, 52, 53, 1, 2, 3, 4, 5, 54, 6, 7, 8, 9, 10, 11, 12, 13, 14, 55, 56, 57, 58, 15, 16, 17, 18, 19, 20, 21, 22, 23, 24, 25, 26, 27, 28, 29, 30, 31, 32, 33, 34, 35, 36, 37, 38, 39, 40, 41, 42, 43, 44, 45, 46, 47, 48, 49, 50, 59, 60, 61, 62, 63, 64, 65, 66, 67, 68, 69, 70, 71, 72, 73, 74] rfl
  have hD := hD.part (cx := wB V y pp (up9 (up9 (up9 ff 15 g0) 16 g1) 17 g2) gg (.ref (Yw1 0)) (.ref (Yf1 0)) ++ (wY V y n1 L1 Yw1 wa1 wb1 (br9 17 (br9 8 (br9 4 (br9 2 (br9 1 (lf9 ww0) (fun _ => 0)) (fun _ => 0)) (br9 6 (br9 5 (fun _ => 0) (lf9 ww5)) (br9 7 (lf9 ww6) (fun _ => 0)))) (br9 12 (fun _ => 0) (br9 14 (fun _ => 0) (br9 15 (lf9 ww14) (br9 16 (lf9 ww15) (lf9 ww16)))))) (fun _ => 0)) (br9 9 (br9 4 (br9 2 (br9 1 (lf9 wew1) (lf9 wew2)) (br9 3 (lf9 wew3) (lf9 wew4))) (br9 6 (br9 5 (lf9 wew5) (lf9 wew6)) (br9 7 (lf9 wew7) (br9 8 (lf9 wew8) (lf9 wew9))))) (fun _ _ => 0)) ++ wO V (n1 + ft1) Yf1 (up9 (fun _ => 0) 6 wf6) (br9 5 (br9 2 (br9 1 (lf9 wef1) (lf9 wef2)) (br9 3 (lf9 wef3) (br9 4 (lf9 wef4) (lf9 wef5)))) (fun _ _ => 0)))) [51, 0, 52, 53, 1, 2, 3, 4, 5, 54, 6, 7, 8, 9, 10, 11, 12, 13, 14, 55, 56, 57, 58, 15, 16, 17, 18, 19, 20, 21, 22, 23, 24, 25, 26, 27, 28, 29, 30, 31, 32, 33, 34, 35, 36, 37, 38, 39, 40, 41, 42, 43, 44, 45, 46, 47, 48, 49, 50, 59, 60, 61, 62, 63, 64, 65, 66, 67, 68, 69, 70, 71, 72, 73, 74] (by decide +kernel) rfl
  exact kk r H locs (cells + 16) (slots + 82949) _ ⟨pp, (up9 (up9 (up9 ff 15 g0) 16 g1) 17 g2), gg, .ref (Yw1 0), (.ref (Yf1 0)), _, hp, ht0, ht1, ht2, ht3, ht4, Or.inr ⟨n1, L1, Yw1, wa1, wb1, (br9 17 (br9 8 (br9 4 (br9 2 (br9 1 (lf9 ww0) (fun _ => 0)) (fun _ => 0)) (br9 6 (br9 5 (fun _ => 0) (lf9 ww5)) (br9 7 (lf9 ww6) (fun _ => 0)))) (br9 12 (fun _ => 0) (br9 14 (fun _ => 0) (br9 15 (lf9 ww14) (br9 16 (lf9 ww15) (lf9 ww16)))))) (fun _ => 0)), (br9 9 (br9 4 (br9 2 (br9 1 (lf9 wew1) (lf9 wew2)) (br9 3 (lf9 wew3) (lf9 wew4))) (br9 6 (br9 5 (lf9 wew5) (lf9 wew6)) (br9 7 (lf9 wew7) (br9 8 (lf9 wew8) (lf9 wew9))))) (fun _ _ => 0)), wO V (n1 + ft1) Yf1 (up9 (fun _ => 0) 6 wf6) (br9 5 (br9 2 (br9 1 (lf9 wef1) (lf9 wef2)) (br9 3 (lf9 wef3) (br9 4 (lf9 wef4) (lf9 wef5)))) (fun _ _ => 0)), (n1 + ft1), ⟨hn1, hL1, bww0, bww5, bww6, bww14, bww16, bwew1, bwew4, bwew5, bwew6, bwew7, g_0, g_1, g_2⟩, (Or.inr ⟨Yf1, (up9 (fun _ => 0) 6 wf6), (br9 5 (br9 2 (br9 1 (lf9 wef1) (lf9 wef2)) (br9 3 (lf9 wef3) (br9 4 (lf9 wef4) (lf9 wef5)))) (fun _ _ => 0)), ⟨by omega, by omega⟩, (iv_w bwf6 (by omega)), (fun j => iv_w (bwef1 j) (by omega)), (fun j => iv_w (bwef3 j) (by omega)), (fun j => iv_w (bwef4 j) (by omega)), (fun j => iv_w (bwef5 j) (by omega)), rfl, rfl⟩), (show PTn _ _ _ _ ww0 from by rw [g_3]; exact PTn_0 16 82949 hc (hp 5) (by decide) (by decide) n1 (n1 + ft1)), rfl, rfl⟩, rfl⟩ hP hD hS
set_option maxHeartbeats 4000000 in
set_option maxRecDepth 100000 in
theorem cx_35_nb {p : Program} {e : Env} {s : State} {m : MethodId} {below : List Frame} {meth : Method} {c : Code} {l : Launch} {b Lk : Nat} {xs : Nat → Int32} {V : GV} {y : Nat → Nat} {τ : Nat → Int32} {H : Heap} {locs : List Loc} {cells slots : Nat} {wz : va_W} {ls : Array Slot} (G : LCx p s m meth c b Lk xs V) (a1 : Int32) (a2 : Int32) {pp : Nat → Int32} {ff : Nat → Nat → Int32} {gg : Nat → Nat → Int64} {n L : Nat} {Yw : Nat → Nat} {wa wb : Nat} {qq : Nat → Int32} {ee : Nat → Nat → Int32}  (hp : ivT tX pp) (ht0 : pp 0 = τ 0) (ht1 : pp 15 = τ 1) (ht2 : pp 16 = τ 2) (ht3 : BTs (ff 0) (tauT τ)) (ht4 : (∀ j, iv (-128) 127 ((ff 0) j))) (hW : WFa n L qq ee) (hT : PTn cells slots n 0 (qq 0)) (hq : qq 0 < pp 5) (hg : 0 ≤ (a1 : Int32).toInt ∧ (a1 : Int32).toInt < ((pp 5) : Int32).toInt ∧ 0 ≤ (a2 : Int32).toInt ∧ (a2 : Int32).toInt ≤ 4) (hP : va_P V.1 vwCl (wB V y pp ff gg (.ref (Yw 0)) .null ++ (wY V y n L Yw wa wb qq ee ++ []) ++ wz) H) (hD : va_D (AAs s) (wB V y pp ff gg (.ref (Yw 0)) .null ++ (wY V y n L Yw wa wb qq ee ++ []) ++ wz)) (hS : va_S (AAs s) s.heap H locs) (hlz : ls.size = 4) (kk : (∀ (r : Int32) (H : Heap) (locs : List Loc) (cells slots : Nat) (wx : va_W), KX V y cells slots τ wx → va_P V.1 vwCl (wx ++ wz) H → va_D (AAs s) (wx ++ wz) → va_S (AAs s) s.heap H locs → W p l e room_1 s m #[Value.ref b] below meth c H locs cells slots (lw_Z below #[Value.ref b] s) (F0 m 1223 ls [.int r]))) : W p l e room_1 s m #[Value.ref b] below meth c H locs cells slots (lw_Z below #[Value.ref b] s) (F0 m 1220 ls [.int a2, .int a1, .ref (y 0)]) := by
  obtain ⟨hn, hL, hw_q0, hw_q5, hw_q6, hw_q14, hw_q16, hw_tYw1, hw_tYw4, hw_tYw5, hw_tYw6, hw_tYw7, hw_WA, hw_WB, hw_WC⟩ := id hW
  have hTB := PTn_B 16 82949 hT hw_q0 (hp 5) hq (by decide) (by decide)
  refine cXI (X := wB V y pp ff gg (.ref (Yw 0)) .null ++ (wY V y n L Yw wa wb qq ee ++ [])) (pl := wz) (wr := [(y 1, aB V 900 (ff 0)), (y 4, aI V 4 (ff 2)), (y 5, aI V 4 (ff 3)), (y 6, aI V 8 (ff 4)), (y 7, aI V 8 (ff 5)), (y 8, aI V 8 (ff 6)), (y 10, .inr (6, [.ref (y 11), .int (pp 15), .int (pp 16), .ref (y 1), .int (pp 17), .int (pp 18), .int (pp 19), .int (pp 20), .int (pp 21)])), (y 11, .inr (1, [.int (pp 22), .int (pp 23), .int (pp 24), .int (pp 25), .int (pp 26), .int (pp 27), .ref (y 12), .ref (y 13), .ref (y 14), .ref (y 15), .ref (y 16), .ref (y 17), .ref (y 18), .int (pp 28), .int (pp 29), .int (pp 30), .int (pp 31), .int (pp 32)])), (y 12, aI V 4 (ff 8)), (y 13, aI V 4 (ff 9)), (y 14, aI V 4 (ff 10)), (y 15, aI V 8 (ff 11)), (y 16, aI V 8 (ff 12)), (y 17, aI V 8 (ff 13)), (y 18, aI V 900 (ff 14)), (y 23, aI V 10 (ff 18)), (y 24, aI V 10 (ff 19)), (y 25, .inr (0, [.int (pp 33), .int (pp 34)])), (y 26, .inr (5, [.ref (y 27), .ref (y 28), .ref (y 29), .int (pp 35)])), (y 27, aI V 10 (ff 20)), (y 28, aI V 10 (ff 21)), (y 29, aI V 10 (ff 22)), (y 30, aT V 4 (va_up (va_up (va_up (va_up (fun _ => none) 0 (some (y 33))) 1 (some (y 35))) 2 (some (y 37))) 3 (some (y 39)))), (y 31, aM V 2 (va_up (va_up (fun _ => none) 0 (some (y 41))) 1 (some (y 50)))), (y 32, aI V 10 (ff 23)), (y 33, .inr (7, [.ref (y 34), .int (pp 36), .int (pp 37)])), (y 34, aJ V 40 (gg 0)), (y 35, .inr (7, [.ref (y 36), .int (pp 38), .int (pp 39)])), (y 36, aJ V 40 (gg 1)), (y 37, .inr (7, [.ref (y 38), .int (pp 40), .int (pp 41)])), (y 38, aJ V 40 (gg 2)), (y 39, .inr (7, [.ref (y 40), .int (pp 42), .int (pp 43)])), (y 40, aJ V 40 (gg 3)), (y 41, .inr (3, [.ref (y 42), .int (pp 44), .int (pp 45), .int (pp 46), .int (pp 47)])), (y 42, .inr (1, [.int (pp 48), .int (pp 49), .int (pp 50), .int (pp 51), .int (pp 52), .int (pp 53), .ref (y 43), .ref (y 44), .ref (y 45), .ref (y 46), .ref (y 47), .ref (y 48), .ref (y 49), .int (pp 54), .int (pp 55), .int (pp 56), .int (pp 57), .int (pp 58)])), (y 43, aI V 4 (ff 24)), (y 44, aI V 4 (ff 25)), (y 45, aI V 4 (ff 26)), (y 46, aI V 8 (ff 27)), (y 47, aI V 8 (ff 28)), (y 48, aI V 8 (ff 29)), (y 49, aI V 900 (ff 30)), (y 50, .inr (3, [.ref (y 51), .int (pp 59), .int (pp 60), .int (pp 61), .int (pp 62)])), (y 51, .inr (1, [.int (pp 63), .int (pp 64), .int (pp 65), .int (pp 66), .int (pp 67), .int (pp 68), .ref (y 52), .ref (y 53), .ref (y 54), .ref (y 55), .ref (y 56), .ref (y 57), .ref (y 58), .int (pp 69), .int (pp 70), .int (pp 71), .int (pp 72), .int (pp 73)])), (y 52, aI V 4 (ff 31)), (y 53, aI V 4 (ff 32)), (y 54, aI V 4 (ff 33)), (y 55, aI V 8 (ff 34)), (y 56, aI V 8 (ff 35)), (y 57, aI V 8 (ff 36)), (y 58, aI V 900 (ff 37))]) (rest := []) G (k_X9_best_3 l V n L Yw y a1 a2 (pp 0) (pp 1) (pp 2) (pp 3) (pp 4) (pp 5) (pp 6) (pp 7) (pp 8) (pp 9) (pp 10) (pp 11) (pp 12) (pp 13) (pp 14) (ff 1) (ff 7) (ff 15) (ff 16) (ff 17) (qq 0) wa (qq 5) (qq 6) wb (qq 14) (qq 15) (qq 16) (ee 0) (ee 1) (ee 2) (ee 3) (ee 4) (ee 5) (ee 6) (ee 7) (ee 8) hn hL hq (hp 0) (hp 5) (hp 6) (hp 7) (hp 10) (hp 11) (hp 12) (hp 13) (hp 14) hw_q0 hw_q5 hw_q6 hw_q14 hw_q16 hw_tYw1 hw_tYw4 hw_tYw5 hw_tYw6 hw_tYw7 hw_WA hw_WB hw_WC hg.1 hg.2.1 hg.2.2.1 hg.2.2.2) mt_X9_best q_5_146 ⟨Nat.le_of_ble_eq_true rfl, Nat.le_of_ble_eq_true rfl⟩ hP hD hS [0, 2, 3, 9, 19, 20, 21, 22, 59, 60, 61, 62, 63, 64, 65, 66, 67, 68] [1, 4, 5, 6, 7, 8, 10, 11, 12, 13, 14, 15, 16, 17, 18, 23, 24, 25, 26, 27, 28, 29, 30, 31, 32, 33, 34, 35, 36, 37, 38, 39, 40, 41, 42, 43, 44, 45, 46, 47, 48, 49, 50, 51, 52, 53, 54, 55, 56, 57, 58] (by decide +kernel) rfl rfl (by decide +kernel) (by decide +kernel) 0 rfl rfl rfl rfl hlz rfl (Nat.le_of_ble_eq_true rfl) dL_law_1220 hTB.1 (fun r w H locs hw hP hD hS => ?_)
  refine Exists.elim hw (fun n1 hw => ?_)
  refine Exists.elim hw (fun L1 hw => ?_)
  refine Exists.elim hw (fun Yw1 hw => ?_)
  refine Exists.elim hw (fun wa1 hw => ?_)
  refine Exists.elim hw (fun wb1 hw => ?_)
  refine Exists.elim hw (fun ft1 hw => ?_)
  refine Exists.elim hw (fun Yf1 hw => ?_)
  refine Exists.elim hw (fun g0 hw => ?_)
  refine Exists.elim hw (fun g1 hw => ?_)
  refine Exists.elim hw (fun g2 hw => ?_)
  refine Exists.elim hw (fun ww0 hw => ?_)
  refine Exists.elim hw (fun ww5 hw => ?_)
  refine Exists.elim hw (fun ww6 hw => ?_)
  refine Exists.elim hw (fun ww14 hw => ?_)
  refine Exists.elim hw (fun ww15 hw => ?_)
  refine Exists.elim hw (fun ww16 hw => ?_)
  refine Exists.elim hw (fun wew1 hw => ?_)
  refine Exists.elim hw (fun wew2 hw => ?_)
  refine Exists.elim hw (fun wew3 hw => ?_)
  refine Exists.elim hw (fun wew4 hw => ?_)
  refine Exists.elim hw (fun wew5 hw => ?_)
  refine Exists.elim hw (fun wew6 hw => ?_)
  refine Exists.elim hw (fun wew7 hw => ?_)
  refine Exists.elim hw (fun wew8 hw => ?_)
  refine Exists.elim hw (fun wew9 hw => ?_)
  refine Exists.elim hw (fun wf6 hw => ?_)
  refine Exists.elim hw (fun wef1 hw => ?_)
  refine Exists.elim hw (fun wef2 hw => ?_)
  refine Exists.elim hw (fun wef3 hw => ?_)
  refine Exists.elim hw (fun wef4 hw => ?_)
  refine Exists.elim hw (fun wef5 hw => ?_)
  refine And.elim (fun hn1 hw => ?_) hw
  refine And.elim (fun hL1 hw => ?_) hw
  refine And.elim (fun hft1 hw => ?_) hw
  refine And.elim (fun bww0 hw => ?_) hw
  refine And.elim (fun bww5 hw => ?_) hw
  refine And.elim (fun bww6 hw => ?_) hw
  refine And.elim (fun bww14 hw => ?_) hw
  refine And.elim (fun bww16 hw => ?_) hw
  refine And.elim (fun bwew1 hw => ?_) hw
  refine And.elim (fun bwew4 hw => ?_) hw
  refine And.elim (fun bwew5 hw => ?_) hw
  refine And.elim (fun bwew6 hw => ?_) hw
  refine And.elim (fun bwew7 hw => ?_) hw
  refine And.elim (fun bwf6 hw => ?_) hw
  refine And.elim (fun bwef1 hw => ?_) hw
  refine And.elim (fun bwef3 hw => ?_) hw
  refine And.elim (fun bwef4 hw => ?_) hw
  refine And.elim (fun bwef5 hw => ?_) hw
  refine And.elim (fun br hw => ?_) hw
  refine And.elim (fun g_0 hw => ?_) hw
  refine And.elim (fun g_1 hw => ?_) hw
  refine And.elim (fun g_2 hw => ?_) hw
  refine And.elim (fun g_3 hw => ?_) hw
  refine And.elim (fun g_4 hw => ?_) hw
  subst hw
  have hP := ptP (ws' := wB V y pp (up9 (up9 (up9 ff 15 g0) 16 g1) 17 g2) gg (.ref (Yw1 0)) (.ref (Yf1 0)) ++ (wY V y n1 L1 Yw1 wa1 wb1 (br9 17 (br9 8 (br9 4 (br9 2 (br9 1 (lf9 ww0) (fun _ => 0)) (fun _ => 0)) (br9 6 (br9 5 (fun _ => 0) (lf9 ww5)) (br9 7 (lf9 ww6) (fun _ => 0)))) (br9 12 (fun _ => 0) (br9 14 (fun _ => 0) (br9 15 (lf9 ww14) (br9 16 (lf9 ww15) (lf9 ww16)))))) (fun _ => 0)) (br9 9 (br9 4 (br9 2 (br9 1 (lf9 wew1) (lf9 wew2)) (br9 3 (lf9 wew3) (lf9 wew4))) (br9 6 (br9 5 (lf9 wew5) (lf9 wew6)) (br9 7 (lf9 wew7) (br9 8 (lf9 wew8) (lf9 wew9))))) (fun _ _ => 0)) ++ wO V (n1 + ft1) Yf1 (up9 (fun _ => 0) 6 wf6) (br9 5 (br9 2 (br9 1 (lf9 wef1) (lf9 wef2)) (br9 3 (lf9 wef3) (br9 4 (lf9 wef4) (lf9 wef5)))) (fun _ _ => 0)))) hP [51, 0, 52, 53, 1, 2, 3, 4, 5, 54, 6, 7, 8, 9, 10, 11, 12, 13, 14, 55, 56, 57, 58, 15, 16, 17, 18, 19, 20, 21, 22, 23, 24, 25, 26, 27, 28, 29, 30, 31, 32, 33, 34, 35, 36, 37, 38, 39, 40, 41, 42, 43, 44, 45, 46, 47, 48, 49, 50, 59, 60, 61, 62, 63, 64, 65, 66, 67, 68, 69, 70, 71, 72, 73, 74] rfl
  have hD := hD.part (cx := wB V y pp (up9 (up9 (up9 ff 15 g0) 16 g1) 17 g2) gg (.ref (Yw1 0)) (.ref (Yf1 0)) ++ (wY V y n1 L1 Yw1 wa1 wb1 (br9 17 (br9 8 (br9 4 (br9 2 (br9 1 (lf9 ww0) (fun _ => 0)) (fun _ => 0)) (br9 6 (br9 5 (fun _ => 0) (lf9 ww5)) (br9 7 (lf9 ww6) (fun _ => 0)))) (br9 12 (fun _ => 0) (br9 14 (fun _ => 0) (br9 15 (lf9 ww14) (br9 16 (lf9 ww15) (lf9 ww16)))))) (fun _ => 0)) (br9 9 (br9 4 (br9 2 (br9 1 (lf9 wew1) (lf9 wew2)) (br9 3 (lf9 wew3) (lf9 wew4))) (br9 6 (br9 5 (lf9 wew5) (lf9 wew6)) (br9 7 (lf9 wew7) (br9 8 (lf9 wew8) (lf9 wew9))))) (fun _ _ => 0)) ++ wO V (n1 + ft1) Yf1 (up9 (fun _ => 0) 6 wf6) (br9 5 (br9 2 (br9 1 (lf9 wef1) (lf9 wef2)) (br9 3 (lf9 wef3) (br9 4 (lf9 wef4) (lf9 wef5)))) (fun _ _ => 0)))) [51, 0, 52, 53, 1, 2, 3, 4, 5, 54, 6, 7, 8, 9, 10, 11, 12, 13, 14, 55, 56, 57, 58, 15, 16, 17, 18, 19, 20, 21, 22, 23, 24, 25, 26, 27, 28, 29, 30, 31, 32, 33, 34, 35, 36, 37, 38, 39, 40, 41, 42, 43, 44, 45, 46, 47, 48, 49, 50, 59, 60, 61, 62, 63, 64, 65, 66, 67, 68, 69, 70, 71, 72, 73, 74] (by decide +kernel) rfl
  exact kk r H locs (cells + 16) (slots + 82949) _ ⟨pp, (up9 (up9 (up9 ff 15 g0) 16 g1) 17 g2), gg, .ref (Yw1 0), .ref (Yf1 0), _, hp, ht0, ht1, ht2, ht3, ht4, Or.inr ⟨n1, L1, Yw1, wa1, wb1, (br9 17 (br9 8 (br9 4 (br9 2 (br9 1 (lf9 ww0) (fun _ => 0)) (fun _ => 0)) (br9 6 (br9 5 (fun _ => 0) (lf9 ww5)) (br9 7 (lf9 ww6) (fun _ => 0)))) (br9 12 (fun _ => 0) (br9 14 (fun _ => 0) (br9 15 (lf9 ww14) (br9 16 (lf9 ww15) (lf9 ww16)))))) (fun _ => 0)), (br9 9 (br9 4 (br9 2 (br9 1 (lf9 wew1) (lf9 wew2)) (br9 3 (lf9 wew3) (lf9 wew4))) (br9 6 (br9 5 (lf9 wew5) (lf9 wew6)) (br9 7 (lf9 wew7) (br9 8 (lf9 wew8) (lf9 wew9))))) (fun _ _ => 0)), _, n1 + ft1, ⟨hn1, hL1, bww0, bww5, bww6, bww14, bww16, bwew1, bwew4, bwew5, bwew6, bwew7, g_0, g_1, g_2⟩, (Or.inr ⟨Yf1, (up9 (fun _ => 0) 6 wf6), (br9 5 (br9 2 (br9 1 (lf9 wef1) (lf9 wef2)) (br9 3 (lf9 wef3) (br9 4 (lf9 wef4) (lf9 wef5)))) (fun _ _ => 0)), ⟨by omega, by omega⟩, (iv_w bwf6 (by omega)), (fun j => iv_w (bwef1 j) (by omega)), (fun j => iv_w (bwef3 j) (by omega)), (fun j => iv_w (bwef4 j) (by omega)), (fun j => iv_w (bwef5 j) (by omega)), rfl, rfl⟩), (show PTn _ _ _ _ ww0 from by rw [g_3]; exact hTB.2 n1 (n1 + ft1)), rfl, rfl⟩, rfl⟩ hP hD hS
set_option maxHeartbeats 4000000 in
set_option maxRecDepth 100000 in
theorem cx_35_na {p : Program} {e : Env} {s : State} {m : MethodId} {below : List Frame} {meth : Method} {c : Code} {l : Launch} {b Lk : Nat} {xs : Nat → Int32} {V : GV} {y : Nat → Nat} {τ : Nat → Int32} {H : Heap} {locs : List Loc} {cells slots : Nat} {wz : va_W} {ls : Array Slot} (G : LCx p s m meth c b Lk xs V) (a1 : Int32) (a2 : Int32) {pp : Nat → Int32} {ff : Nat → Nat → Int32} {gg : Nat → Nat → Int64} {n L : Nat} {Yw : Nat → Nat} {wa wb : Nat} {qq : Nat → Int32} {ee : Nat → Nat → Int32}  (hp : ivT tX pp) (ht0 : pp 0 = τ 0) (ht1 : pp 15 = τ 1) (ht2 : pp 16 = τ 2) (ht3 : BTs (ff 0) (tauT τ)) (ht4 : (∀ j, iv (-128) 127 ((ff 0) j))) (hW : WFa n L qq ee) (hT : PTn cells slots n 0 (qq 0)) (hq : pp 5 ≤ qq 0) (hg : 0 ≤ (a1 : Int32).toInt ∧ (a1 : Int32).toInt < ((pp 5) : Int32).toInt ∧ 0 ≤ (a2 : Int32).toInt ∧ (a2 : Int32).toInt ≤ 4) (hP : va_P V.1 vwCl (wB V y pp ff gg (.ref (Yw 0)) .null ++ (wY V y n L Yw wa wb qq ee ++ []) ++ wz) H) (hD : va_D (AAs s) (wB V y pp ff gg (.ref (Yw 0)) .null ++ (wY V y n L Yw wa wb qq ee ++ []) ++ wz)) (hS : va_S (AAs s) s.heap H locs) (hlz : ls.size = 4) (kk : (∀ (r : Int32) (H : Heap) (locs : List Loc) (cells slots : Nat) (wx : va_W), KX V y cells slots τ wx → va_P V.1 vwCl (wx ++ wz) H → va_D (AAs s) (wx ++ wz) → va_S (AAs s) s.heap H locs → W p l e room_1 s m #[Value.ref b] below meth c H locs cells slots (lw_Z below #[Value.ref b] s) (F0 m 1223 ls [.int r]))) : W p l e room_1 s m #[Value.ref b] below meth c H locs cells slots (lw_Z below #[Value.ref b] s) (F0 m 1220 ls [.int a2, .int a1, .ref (y 0)]) := by
  obtain ⟨hn, hL, hw_q0, hw_q5, hw_q6, hw_q14, hw_q16, hw_tYw1, hw_tYw4, hw_tYw5, hw_tYw6, hw_tYw7, hw_WA, hw_WB, hw_WC⟩ := id hW
  have hTB := PTn_f hT hw_q0 (by omega)
  refine cXI (X := wB V y pp ff gg (.ref (Yw 0)) .null ++ (wY V y n L Yw wa wb qq ee ++ [])) (pl := wz) (wr := [(y 1, aB V 900 (ff 0)), (y 4, aI V 4 (ff 2)), (y 5, aI V 4 (ff 3)), (y 6, aI V 8 (ff 4)), (y 7, aI V 8 (ff 5)), (y 8, aI V 8 (ff 6)), (y 10, .inr (6, [.ref (y 11), .int (pp 15), .int (pp 16), .ref (y 1), .int (pp 17), .int (pp 18), .int (pp 19), .int (pp 20), .int (pp 21)])), (y 11, .inr (1, [.int (pp 22), .int (pp 23), .int (pp 24), .int (pp 25), .int (pp 26), .int (pp 27), .ref (y 12), .ref (y 13), .ref (y 14), .ref (y 15), .ref (y 16), .ref (y 17), .ref (y 18), .int (pp 28), .int (pp 29), .int (pp 30), .int (pp 31), .int (pp 32)])), (y 12, aI V 4 (ff 8)), (y 13, aI V 4 (ff 9)), (y 14, aI V 4 (ff 10)), (y 15, aI V 8 (ff 11)), (y 16, aI V 8 (ff 12)), (y 17, aI V 8 (ff 13)), (y 18, aI V 900 (ff 14)), (y 23, aI V 10 (ff 18)), (y 24, aI V 10 (ff 19)), (y 25, .inr (0, [.int (pp 33), .int (pp 34)])), (y 26, .inr (5, [.ref (y 27), .ref (y 28), .ref (y 29), .int (pp 35)])), (y 27, aI V 10 (ff 20)), (y 28, aI V 10 (ff 21)), (y 29, aI V 10 (ff 22)), (y 30, aT V 4 (va_up (va_up (va_up (va_up (fun _ => none) 0 (some (y 33))) 1 (some (y 35))) 2 (some (y 37))) 3 (some (y 39)))), (y 31, aM V 2 (va_up (va_up (fun _ => none) 0 (some (y 41))) 1 (some (y 50)))), (y 32, aI V 10 (ff 23)), (y 33, .inr (7, [.ref (y 34), .int (pp 36), .int (pp 37)])), (y 34, aJ V 40 (gg 0)), (y 35, .inr (7, [.ref (y 36), .int (pp 38), .int (pp 39)])), (y 36, aJ V 40 (gg 1)), (y 37, .inr (7, [.ref (y 38), .int (pp 40), .int (pp 41)])), (y 38, aJ V 40 (gg 2)), (y 39, .inr (7, [.ref (y 40), .int (pp 42), .int (pp 43)])), (y 40, aJ V 40 (gg 3)), (y 41, .inr (3, [.ref (y 42), .int (pp 44), .int (pp 45), .int (pp 46), .int (pp 47)])), (y 42, .inr (1, [.int (pp 48), .int (pp 49), .int (pp 50), .int (pp 51), .int (pp 52), .int (pp 53), .ref (y 43), .ref (y 44), .ref (y 45), .ref (y 46), .ref (y 47), .ref (y 48), .ref (y 49), .int (pp 54), .int (pp 55), .int (pp 56), .int (pp 57), .int (pp 58)])), (y 43, aI V 4 (ff 24)), (y 44, aI V 4 (ff 25)), (y 45, aI V 4 (ff 26)), (y 46, aI V 8 (ff 27)), (y 47, aI V 8 (ff 28)), (y 48, aI V 8 (ff 29)), (y 49, aI V 900 (ff 30)), (y 50, .inr (3, [.ref (y 51), .int (pp 59), .int (pp 60), .int (pp 61), .int (pp 62)])), (y 51, .inr (1, [.int (pp 63), .int (pp 64), .int (pp 65), .int (pp 66), .int (pp 67), .int (pp 68), .ref (y 52), .ref (y 53), .ref (y 54), .ref (y 55), .ref (y 56), .ref (y 57), .ref (y 58), .int (pp 69), .int (pp 70), .int (pp 71), .int (pp 72), .int (pp 73)])), (y 52, aI V 4 (ff 31)), (y 53, aI V 4 (ff 32)), (y 54, aI V 4 (ff 33)), (y 55, aI V 8 (ff 34)), (y 56, aI V 8 (ff 35)), (y 57, aI V 8 (ff 36)), (y 58, aI V 900 (ff 37))]) (rest := []) G (k_X9_best_4 l V n L Yw y a1 a2 (pp 0) (pp 1) (pp 2) (pp 3) (pp 4) (pp 5) (pp 6) (pp 7) (pp 8) (pp 9) (pp 10) (pp 11) (pp 12) (pp 13) (pp 14) (ff 1) (ff 7) (ff 15) (ff 16) (ff 17) (qq 0) wa (qq 5) (qq 6) wb (qq 14) (qq 15) (qq 16) (ee 0) (ee 1) (ee 2) (ee 3) (ee 4) (ee 5) (ee 6) (ee 7) (ee 8) hn hL hq (hp 0) (hp 5) (hp 6) (hp 7) (hp 10) (hp 11) (hp 12) (hp 13) (hp 14) hw_q0 hw_q5 hw_q6 hw_q14 hw_q16 hw_tYw1 hw_tYw4 hw_tYw5 hw_tYw6 hw_tYw7 hw_WA hw_WB hw_WC hg.1 hg.2.1 hg.2.2.1 hg.2.2.2) mt_X9_best q_5_146 ⟨Nat.le_of_ble_eq_true rfl, Nat.le_of_ble_eq_true rfl⟩ hP hD hS [0, 2, 3, 9, 19, 20, 21, 22, 59, 60, 61, 62, 63, 64, 65, 66, 67, 68] [1, 4, 5, 6, 7, 8, 10, 11, 12, 13, 14, 15, 16, 17, 18, 23, 24, 25, 26, 27, 28, 29, 30, 31, 32, 33, 34, 35, 36, 37, 38, 39, 40, 41, 42, 43, 44, 45, 46, 47, 48, 49, 50, 51, 52, 53, 54, 55, 56, 57, 58] (by decide +kernel) rfl rfl (by decide +kernel) (by decide +kernel) 0 rfl rfl rfl rfl hlz rfl (Nat.le_of_ble_eq_true rfl) dL_law_1220 hTB.1 (fun r w H locs hw hP hD hS => ?_)
  refine Exists.elim hw (fun ft1 hw => ?_)
  refine Exists.elim hw (fun Yf1 hw => ?_)
  refine Exists.elim hw (fun g0 hw => ?_)
  refine Exists.elim hw (fun g1 hw => ?_)
  refine Exists.elim hw (fun g2 hw => ?_)
  refine Exists.elim hw (fun v3 hw => ?_)
  refine Exists.elim hw (fun v4 hw => ?_)
  refine Exists.elim hw (fun v5 hw => ?_)
  refine Exists.elim hw (fun v6 hw => ?_)
  refine Exists.elim hw (fun v7 hw => ?_)
  refine Exists.elim hw (fun g8 hw => ?_)
  refine Exists.elim hw (fun g9 hw => ?_)
  refine Exists.elim hw (fun g10 hw => ?_)
  refine Exists.elim hw (fun g11 hw => ?_)
  refine Exists.elim hw (fun g12 hw => ?_)
  refine Exists.elim hw (fun g13 hw => ?_)
  refine Exists.elim hw (fun wf6 hw => ?_)
  refine Exists.elim hw (fun wef1 hw => ?_)
  refine Exists.elim hw (fun wef2 hw => ?_)
  refine Exists.elim hw (fun wef3 hw => ?_)
  refine Exists.elim hw (fun wef4 hw => ?_)
  refine Exists.elim hw (fun wef5 hw => ?_)
  refine And.elim (fun hft1 hw => ?_) hw
  refine And.elim (fun bv3 hw => ?_) hw
  refine And.elim (fun bv4 hw => ?_) hw
  refine And.elim (fun bv5 hw => ?_) hw
  refine And.elim (fun bv7 hw => ?_) hw
  refine And.elim (fun bg8 hw => ?_) hw
  refine And.elim (fun bg10 hw => ?_) hw
  refine And.elim (fun bg11 hw => ?_) hw
  refine And.elim (fun bg12 hw => ?_) hw
  refine And.elim (fun bwf6 hw => ?_) hw
  refine And.elim (fun bwef1 hw => ?_) hw
  refine And.elim (fun bwef3 hw => ?_) hw
  refine And.elim (fun bwef4 hw => ?_) hw
  refine And.elim (fun bwef5 hw => ?_) hw
  refine And.elim (fun br hw => ?_) hw
  refine And.elim (fun g_0 hw => ?_) hw
  refine And.elim (fun g_1 hw => ?_) hw
  refine And.elim (fun g_2 hw => ?_) hw
  refine And.elim (fun g_3 hw => ?_) hw
  subst hw
  have hP := ptP (ws' := wB V y pp (up9 (up9 (up9 ff 15 g0) 16 g1) 17 g2) gg (.ref (Yw 0)) (.ref (Yf1 0)) ++ (wY V y n L Yw wa wb (br9 17 (br9 8 (br9 4 qq (br9 6 (br9 5 qq (lf9 v3)) (br9 7 (lf9 v4) qq))) (br9 12 qq (br9 14 qq (br9 15 (lf9 v5) (br9 16 (lf9 v6) (lf9 v7)))))) qq) (br9 8 (br9 4 (br9 2 (br9 1 (lf9 g8) (lf9 g9)) (br9 3 ee (lf9 g10))) (br9 6 (br9 5 (lf9 g11) (lf9 g12)) (br9 7 ee (lf9 g13)))) ee) ++ wO V (n + ft1) Yf1 (up9 (fun _ => 0) 6 wf6) (br9 5 (br9 2 (br9 1 (lf9 wef1) (lf9 wef2)) (br9 3 (lf9 wef3) (br9 4 (lf9 wef4) (lf9 wef5)))) (fun _ _ => 0)))) hP [51, 0, 52, 53, 1, 2, 3, 4, 5, 54, 6, 7, 8, 9, 10, 11, 12, 13, 14, 55, 56, 57, 58, 15, 16, 17, 18, 19, 20, 21, 22, 23, 24, 25, 26, 27, 28, 29, 30, 31, 32, 33, 34, 35, 36, 37, 38, 39, 40, 41, 42, 43, 44, 45, 46, 47, 48, 49, 50, 59, 60, 61, 62, 63, 64, 65, 66, 67, 68, 69, 70, 71, 72, 73, 74] rfl
  have hD := hD.part (cx := wB V y pp (up9 (up9 (up9 ff 15 g0) 16 g1) 17 g2) gg (.ref (Yw 0)) (.ref (Yf1 0)) ++ (wY V y n L Yw wa wb (br9 17 (br9 8 (br9 4 qq (br9 6 (br9 5 qq (lf9 v3)) (br9 7 (lf9 v4) qq))) (br9 12 qq (br9 14 qq (br9 15 (lf9 v5) (br9 16 (lf9 v6) (lf9 v7)))))) qq) (br9 8 (br9 4 (br9 2 (br9 1 (lf9 g8) (lf9 g9)) (br9 3 ee (lf9 g10))) (br9 6 (br9 5 (lf9 g11) (lf9 g12)) (br9 7 ee (lf9 g13)))) ee) ++ wO V (n + ft1) Yf1 (up9 (fun _ => 0) 6 wf6) (br9 5 (br9 2 (br9 1 (lf9 wef1) (lf9 wef2)) (br9 3 (lf9 wef3) (br9 4 (lf9 wef4) (lf9 wef5)))) (fun _ _ => 0)))) [51, 0, 52, 53, 1, 2, 3, 4, 5, 54, 6, 7, 8, 9, 10, 11, 12, 13, 14, 55, 56, 57, 58, 15, 16, 17, 18, 19, 20, 21, 22, 23, 24, 25, 26, 27, 28, 29, 30, 31, 32, 33, 34, 35, 36, 37, 38, 39, 40, 41, 42, 43, 44, 45, 46, 47, 48, 49, 50, 59, 60, 61, 62, 63, 64, 65, 66, 67, 68, 69, 70, 71, 72, 73, 74] (by decide +kernel) rfl
  exact kk r H locs (cells + 6) (slots + 36468) _ ⟨pp, (up9 (up9 (up9 ff 15 g0) 16 g1) 17 g2), gg, .ref (Yw 0), .ref (Yf1 0), _, hp, ht0, ht1, ht2, ht3, ht4, Or.inr ⟨n, L, Yw, wa, wb, (br9 17 (br9 8 (br9 4 qq (br9 6 (br9 5 qq (lf9 v3)) (br9 7 (lf9 v4) qq))) (br9 12 qq (br9 14 qq (br9 15 (lf9 v5) (br9 16 (lf9 v6) (lf9 v7)))))) qq), (br9 8 (br9 4 (br9 2 (br9 1 (lf9 g8) (lf9 g9)) (br9 3 ee (lf9 g10))) (br9 6 (br9 5 (lf9 g11) (lf9 g12)) (br9 7 ee (lf9 g13)))) ee), _, n + ft1, ⟨hn, hL, hw_q0, bv3, bv4, bv5, bv7, bg8, bg10, bg11, bg12, hw_tYw7, g_0, g_1, g_2⟩, (Or.inr ⟨Yf1, (up9 (fun _ => 0) 6 wf6), (br9 5 (br9 2 (br9 1 (lf9 wef1) (lf9 wef2)) (br9 3 (lf9 wef3) (br9 4 (lf9 wef4) (lf9 wef5)))) (fun _ _ => 0)), ⟨by omega, by omega⟩, (iv_w bwf6 (by omega)), (fun j => iv_w (bwef1 j) (by omega)), (fun j => iv_w (bwef3 j) (by omega)), (fun j => iv_w (bwef4 j) (by omega)), (fun j => iv_w (bwef5 j) (by omega)), rfl, rfl⟩), hTB.2 ft1, rfl, rfl⟩, rfl⟩ hP hD hS
set_option maxHeartbeats 4000000 in
set_option maxRecDepth 100000 in
theorem cx_35_ga {p : Program} {e : Env} {s : State} {m : MethodId} {below : List Frame} {meth : Method} {c : Code} {l : Launch} {b Lk : Nat} {xs : Nat → Int32} {V : GV} {y : Nat → Nat} {τ : Nat → Int32} {H : Heap} {locs : List Loc} {cells slots : Nat} {wz : va_W} {ls : Array Slot} (G : LCx p s m meth c b Lk xs V) (a1 : Int32) (a2 : Int32) {pp : Nat → Int32} {ff : Nat → Nat → Int32} {gg : Nat → Nat → Int64} {n L : Nat} {Yw : Nat → Nat} {wa wb : Nat} {qq : Nat → Int32} {ee : Nat → Nat → Int32} {fm : Nat} {Yg : Nat → Nat} {rr : Nat → Int32} {uu : Nat → Nat → Int32} (hfm : 1 ≤ fm ∧ fm ≤ 7291) (hv_r6 : iv 0 (2 * (fm : Int)) (rr 6)) (hv_tYg1 : (∀ j, iv (-1) (2 * (fm : Int)) ((uu 0) j))) (hv_tYg3 : (∀ j, iv 0 (2 * (fm : Int) - 1) ((uu 2) j))) (hv_tYg4 : (∀ j, iv 0 (4 * (fm : Int)) ((uu 3) j))) (hv_tYg5 : (∀ j, iv 0 ((fm : Int) - 1) ((uu 4) j))) (hp : ivT tX pp) (ht0 : pp 0 = τ 0) (ht1 : pp 15 = τ 1) (ht2 : pp 16 = τ 2) (ht3 : BTs (ff 0) (tauT τ)) (ht4 : (∀ j, iv (-128) 127 ((ff 0) j))) (hW : WFa n L qq ee) (hT : PTn cells slots n fm (qq 0)) (hq : pp 5 ≤ qq 0) (hg : 0 ≤ (a1 : Int32).toInt ∧ (a1 : Int32).toInt < ((pp 5) : Int32).toInt ∧ 0 ≤ (a2 : Int32).toInt ∧ (a2 : Int32).toInt ≤ 4) (hP : va_P V.1 vwCl (wB V y pp ff gg (.ref (Yw 0)) (.ref (Yg 0)) ++ (wY V y n L Yw wa wb qq ee ++ wO V fm Yg rr uu) ++ wz) H) (hD : va_D (AAs s) (wB V y pp ff gg (.ref (Yw 0)) (.ref (Yg 0)) ++ (wY V y n L Yw wa wb qq ee ++ wO V fm Yg rr uu) ++ wz)) (hS : va_S (AAs s) s.heap H locs) (hlt : fm < n) (hlz : ls.size = 4) (kk : (∀ (r : Int32) (H : Heap) (locs : List Loc) (cells slots : Nat) (wx : va_W), KX V y cells slots τ wx → va_P V.1 vwCl (wx ++ wz) H → va_D (AAs s) (wx ++ wz) → va_S (AAs s) s.heap H locs → W p l e room_1 s m #[Value.ref b] below meth c H locs cells slots (lw_Z below #[Value.ref b] s) (F0 m 1223 ls [.int r]))) : W p l e room_1 s m #[Value.ref b] below meth c H locs cells slots (lw_Z below #[Value.ref b] s) (F0 m 1220 ls [.int a2, .int a1, .ref (y 0)]) := by
  obtain ⟨hn, hL, hw_q0, hw_q5, hw_q6, hw_q14, hw_q16, hw_tYw1, hw_tYw4, hw_tYw5, hw_tYw6, hw_tYw7, hw_WA, hw_WB, hw_WC⟩ := id hW
  have hTB := PTn_f hT hw_q0 hlt
  refine cXI (X := wB V y pp ff gg (.ref (Yw 0)) (.ref (Yg 0)) ++ (wY V y n L Yw wa wb qq ee ++ wO V fm Yg rr uu)) (pl := wz) (wr := [(y 1, aB V 900 (ff 0)), (y 4, aI V 4 (ff 2)), (y 5, aI V 4 (ff 3)), (y 6, aI V 8 (ff 4)), (y 7, aI V 8 (ff 5)), (y 8, aI V 8 (ff 6)), (y 10, .inr (6, [.ref (y 11), .int (pp 15), .int (pp 16), .ref (y 1), .int (pp 17), .int (pp 18), .int (pp 19), .int (pp 20), .int (pp 21)])), (y 11, .inr (1, [.int (pp 22), .int (pp 23), .int (pp 24), .int (pp 25), .int (pp 26), .int (pp 27), .ref (y 12), .ref (y 13), .ref (y 14), .ref (y 15), .ref (y 16), .ref (y 17), .ref (y 18), .int (pp 28), .int (pp 29), .int (pp 30), .int (pp 31), .int (pp 32)])), (y 12, aI V 4 (ff 8)), (y 13, aI V 4 (ff 9)), (y 14, aI V 4 (ff 10)), (y 15, aI V 8 (ff 11)), (y 16, aI V 8 (ff 12)), (y 17, aI V 8 (ff 13)), (y 18, aI V 900 (ff 14)), (y 23, aI V 10 (ff 18)), (y 24, aI V 10 (ff 19)), (y 25, .inr (0, [.int (pp 33), .int (pp 34)])), (y 26, .inr (5, [.ref (y 27), .ref (y 28), .ref (y 29), .int (pp 35)])), (y 27, aI V 10 (ff 20)), (y 28, aI V 10 (ff 21)), (y 29, aI V 10 (ff 22)), (y 30, aT V 4 (va_up (va_up (va_up (va_up (fun _ => none) 0 (some (y 33))) 1 (some (y 35))) 2 (some (y 37))) 3 (some (y 39)))), (y 31, aM V 2 (va_up (va_up (fun _ => none) 0 (some (y 41))) 1 (some (y 50)))), (y 32, aI V 10 (ff 23)), (y 33, .inr (7, [.ref (y 34), .int (pp 36), .int (pp 37)])), (y 34, aJ V 40 (gg 0)), (y 35, .inr (7, [.ref (y 36), .int (pp 38), .int (pp 39)])), (y 36, aJ V 40 (gg 1)), (y 37, .inr (7, [.ref (y 38), .int (pp 40), .int (pp 41)])), (y 38, aJ V 40 (gg 2)), (y 39, .inr (7, [.ref (y 40), .int (pp 42), .int (pp 43)])), (y 40, aJ V 40 (gg 3)), (y 41, .inr (3, [.ref (y 42), .int (pp 44), .int (pp 45), .int (pp 46), .int (pp 47)])), (y 42, .inr (1, [.int (pp 48), .int (pp 49), .int (pp 50), .int (pp 51), .int (pp 52), .int (pp 53), .ref (y 43), .ref (y 44), .ref (y 45), .ref (y 46), .ref (y 47), .ref (y 48), .ref (y 49), .int (pp 54), .int (pp 55), .int (pp 56), .int (pp 57), .int (pp 58)])), (y 43, aI V 4 (ff 24)), (y 44, aI V 4 (ff 25)), (y 45, aI V 4 (ff 26)), (y 46, aI V 8 (ff 27)), (y 47, aI V 8 (ff 28)), (y 48, aI V 8 (ff 29)), (y 49, aI V 900 (ff 30)), (y 50, .inr (3, [.ref (y 51), .int (pp 59), .int (pp 60), .int (pp 61), .int (pp 62)])), (y 51, .inr (1, [.int (pp 63), .int (pp 64), .int (pp 65), .int (pp 66), .int (pp 67), .int (pp 68), .ref (y 52), .ref (y 53), .ref (y 54), .ref (y 55), .ref (y 56), .ref (y 57), .ref (y 58), .int (pp 69), .int (pp 70), .int (pp 71), .int (pp 72), .int (pp 73)])), (y 52, aI V 4 (ff 31)), (y 53, aI V 4 (ff 32)), (y 54, aI V 4 (ff 33)), (y 55, aI V 8 (ff 34)), (y 56, aI V 8 (ff 35)), (y 57, aI V 8 (ff 36)), (y 58, aI V 900 (ff 37))]) (rest := []) G (k_X9_best_5 l V n L fm Yw Yg y a1 a2 (pp 0) (pp 1) (pp 2) (pp 3) (pp 4) (pp 5) (pp 6) (pp 7) (pp 8) (pp 9) (pp 10) (pp 11) (pp 12) (pp 13) (pp 14) (ff 1) (ff 7) (ff 15) (ff 16) (ff 17) (qq 0) wa (qq 5) (qq 6) wb (qq 14) (qq 15) (qq 16) (ee 0) (ee 1) (ee 2) (ee 3) (ee 4) (ee 5) (ee 6) (ee 7) (ee 8) (rr 6) (uu 0) (uu 1) (uu 2) (uu 3) (uu 4) hn hL hfm hq (hp 0) (hp 5) (hp 6) (hp 7) (hp 10) (hp 11) (hp 12) (hp 13) (hp 14) hw_q0 hw_q5 hw_q6 hw_q14 hw_q16 hw_tYw1 hw_tYw4 hw_tYw5 hw_tYw6 hw_tYw7 hv_r6 hv_tYg1 hv_tYg3 hv_tYg4 hv_tYg5 hw_WA hw_WB hw_WC hg.1 hg.2.1 hg.2.2.1 hg.2.2.2) mt_X9_best q_5_146 ⟨Nat.le_of_ble_eq_true rfl, Nat.le_of_ble_eq_true rfl⟩ hP hD hS [0, 2, 3, 9, 19, 20, 21, 22, 59, 60, 61, 62, 63, 64, 65, 66, 67, 68, 69, 70, 71, 72, 73, 74] [1, 4, 5, 6, 7, 8, 10, 11, 12, 13, 14, 15, 16, 17, 18, 23, 24, 25, 26, 27, 28, 29, 30, 31, 32, 33, 34, 35, 36, 37, 38, 39, 40, 41, 42, 43, 44, 45, 46, 47, 48, 49, 50, 51, 52, 53, 54, 55, 56, 57, 58] (by decide +kernel) rfl rfl (by decide +kernel) (by decide +kernel) 0 rfl rfl rfl rfl hlz rfl (Nat.le_of_ble_eq_true rfl) dL_law_1220 hTB.1 (fun r w H locs hw hP hD hS => ?_)
  refine Exists.elim hw (fun ft1 hw => ?_)
  refine Exists.elim hw (fun Yf1 hw => ?_)
  refine Exists.elim hw (fun g0 hw => ?_)
  refine Exists.elim hw (fun g1 hw => ?_)
  refine Exists.elim hw (fun g2 hw => ?_)
  refine Exists.elim hw (fun v3 hw => ?_)
  refine Exists.elim hw (fun v4 hw => ?_)
  refine Exists.elim hw (fun v5 hw => ?_)
  refine Exists.elim hw (fun v6 hw => ?_)
  refine Exists.elim hw (fun v7 hw => ?_)
  refine Exists.elim hw (fun g8 hw => ?_)
  refine Exists.elim hw (fun g9 hw => ?_)
  refine Exists.elim hw (fun g10 hw => ?_)
  refine Exists.elim hw (fun g11 hw => ?_)
  refine Exists.elim hw (fun g12 hw => ?_)
  refine Exists.elim hw (fun g13 hw => ?_)
  refine Exists.elim hw (fun wf6 hw => ?_)
  refine Exists.elim hw (fun wef1 hw => ?_)
  refine Exists.elim hw (fun wef2 hw => ?_)
  refine Exists.elim hw (fun wef3 hw => ?_)
  refine Exists.elim hw (fun wef4 hw => ?_)
  refine Exists.elim hw (fun wef5 hw => ?_)
  refine And.elim (fun hft1 hw => ?_) hw
  refine And.elim (fun bv3 hw => ?_) hw
  refine And.elim (fun bv4 hw => ?_) hw
  refine And.elim (fun bv5 hw => ?_) hw
  refine And.elim (fun bv7 hw => ?_) hw
  refine And.elim (fun bg8 hw => ?_) hw
  refine And.elim (fun bg10 hw => ?_) hw
  refine And.elim (fun bg11 hw => ?_) hw
  refine And.elim (fun bg12 hw => ?_) hw
  refine And.elim (fun bwf6 hw => ?_) hw
  refine And.elim (fun bwef1 hw => ?_) hw
  refine And.elim (fun bwef3 hw => ?_) hw
  refine And.elim (fun bwef4 hw => ?_) hw
  refine And.elim (fun bwef5 hw => ?_) hw
  refine And.elim (fun br hw => ?_) hw
  refine And.elim (fun g_0 hw => ?_) hw
  refine And.elim (fun g_1 hw => ?_) hw
  refine And.elim (fun g_2 hw => ?_) hw
  refine And.elim (fun g_3 hw => ?_) hw
  subst hw
  have hP := ptP (ws' := wB V y pp (up9 (up9 (up9 ff 15 g0) 16 g1) 17 g2) gg (.ref (Yw 0)) (.ref (Yf1 0)) ++ (wY V y n L Yw wa wb (br9 17 (br9 8 (br9 4 qq (br9 6 (br9 5 qq (lf9 v3)) (br9 7 (lf9 v4) qq))) (br9 12 qq (br9 14 qq (br9 15 (lf9 v5) (br9 16 (lf9 v6) (lf9 v7)))))) qq) (br9 8 (br9 4 (br9 2 (br9 1 (lf9 g8) (lf9 g9)) (br9 3 ee (lf9 g10))) (br9 6 (br9 5 (lf9 g11) (lf9 g12)) (br9 7 ee (lf9 g13)))) ee) ++ wO V (n + ft1) Yf1 (up9 (fun _ => 0) 6 wf6) (br9 5 (br9 2 (br9 1 (lf9 wef1) (lf9 wef2)) (br9 3 (lf9 wef3) (br9 4 (lf9 wef4) (lf9 wef5)))) (fun _ _ => 0)))) hP [51, 0, 52, 53, 1, 2, 3, 4, 5, 54, 6, 7, 8, 9, 10, 11, 12, 13, 14, 55, 56, 57, 58, 15, 16, 17, 18, 19, 20, 21, 22, 23, 24, 25, 26, 27, 28, 29, 30, 31, 32, 33, 34, 35, 36, 37, 38, 39, 40, 41, 42, 43, 44, 45, 46, 47, 48, 49, 50, 59, 60, 61, 62, 63, 64, 65, 66, 67, 68, 69, 70, 71, 72, 73, 74] rfl
  have hD := hD.part (cx := wB V y pp (up9 (up9 (up9 ff 15 g0) 16 g1) 17 g2) gg (.ref (Yw 0)) (.ref (Yf1 0)) ++ (wY V y n L Yw wa wb (br9 17 (br9 8 (br9 4 qq (br9 6 (br9 5 qq (lf9 v3)) (br9 7 (lf9 v4) qq))) (br9 12 qq (br9 14 qq (br9 15 (lf9 v5) (br9 16 (lf9 v6) (lf9 v7)))))) qq) (br9 8 (br9 4 (br9 2 (br9 1 (lf9 g8) (lf9 g9)) (br9 3 ee (lf9 g10))) (br9 6 (br9 5 (lf9 g11) (lf9 g12)) (br9 7 ee (lf9 g13)))) ee) ++ wO V (n + ft1) Yf1 (up9 (fun _ => 0) 6 wf6) (br9 5 (br9 2 (br9 1 (lf9 wef1) (lf9 wef2)) (br9 3 (lf9 wef3) (br9 4 (lf9 wef4) (lf9 wef5)))) (fun _ _ => 0)))) [51, 0, 52, 53, 1, 2, 3, 4, 5, 54, 6, 7, 8, 9, 10, 11, 12, 13, 14, 55, 56, 57, 58, 15, 16, 17, 18, 19, 20, 21, 22, 23, 24, 25, 26, 27, 28, 29, 30, 31, 32, 33, 34, 35, 36, 37, 38, 39, 40, 41, 42, 43, 44, 45, 46, 47, 48, 49, 50, 59, 60, 61, 62, 63, 64, 65, 66, 67, 68, 69, 70, 71, 72, 73, 74] (by decide +kernel) rfl
  exact kk r H locs (cells + 6) (slots + 36468) _ ⟨pp, (up9 (up9 (up9 ff 15 g0) 16 g1) 17 g2), gg, .ref (Yw 0), .ref (Yf1 0), _, hp, ht0, ht1, ht2, ht3, ht4, Or.inr ⟨n, L, Yw, wa, wb, (br9 17 (br9 8 (br9 4 qq (br9 6 (br9 5 qq (lf9 v3)) (br9 7 (lf9 v4) qq))) (br9 12 qq (br9 14 qq (br9 15 (lf9 v5) (br9 16 (lf9 v6) (lf9 v7)))))) qq), (br9 8 (br9 4 (br9 2 (br9 1 (lf9 g8) (lf9 g9)) (br9 3 ee (lf9 g10))) (br9 6 (br9 5 (lf9 g11) (lf9 g12)) (br9 7 ee (lf9 g13)))) ee), _, n + ft1, ⟨hn, hL, hw_q0, bv3, bv4, bv5, bv7, bg8, bg10, bg11, bg12, hw_tYw7, g_0, g_1, g_2⟩, (Or.inr ⟨Yf1, (up9 (fun _ => 0) 6 wf6), (br9 5 (br9 2 (br9 1 (lf9 wef1) (lf9 wef2)) (br9 3 (lf9 wef3) (br9 4 (lf9 wef4) (lf9 wef5)))) (fun _ _ => 0)), ⟨by omega, by omega⟩, (iv_w bwf6 (by omega)), (fun j => iv_w (bwef1 j) (by omega)), (fun j => iv_w (bwef3 j) (by omega)), (fun j => iv_w (bwef4 j) (by omega)), (fun j => iv_w (bwef5 j) (by omega)), rfl, rfl⟩), hTB.2 ft1, rfl, rfl⟩, rfl⟩ hP hD hS
set_option maxHeartbeats 4000000 in
set_option maxRecDepth 100000 in
theorem cx_35_gb {p : Program} {e : Env} {s : State} {m : MethodId} {below : List Frame} {meth : Method} {c : Code} {l : Launch} {b Lk : Nat} {xs : Nat → Int32} {V : GV} {y : Nat → Nat} {τ : Nat → Int32} {H : Heap} {locs : List Loc} {cells slots : Nat} {wz : va_W} {ls : Array Slot} (G : LCx p s m meth c b Lk xs V) (a1 : Int32) (a2 : Int32) {pp : Nat → Int32} {ff : Nat → Nat → Int32} {gg : Nat → Nat → Int64} {n L : Nat} {Yw : Nat → Nat} {wa wb : Nat} {qq : Nat → Int32} {ee : Nat → Nat → Int32} {fm : Nat} {Yg : Nat → Nat} {rr : Nat → Int32} {uu : Nat → Nat → Int32} (hfm : 1 ≤ fm ∧ fm ≤ 7291) (hv_r6 : iv 0 (2 * (fm : Int)) (rr 6)) (hv_tYg1 : (∀ j, iv (-1) (2 * (fm : Int)) ((uu 0) j))) (hv_tYg3 : (∀ j, iv 0 (2 * (fm : Int) - 1) ((uu 2) j))) (hv_tYg4 : (∀ j, iv 0 (4 * (fm : Int)) ((uu 3) j))) (hv_tYg5 : (∀ j, iv 0 ((fm : Int) - 1) ((uu 4) j))) (hp : ivT tX pp) (ht0 : pp 0 = τ 0) (ht1 : pp 15 = τ 1) (ht2 : pp 16 = τ 2) (ht3 : BTs (ff 0) (tauT τ)) (ht4 : (∀ j, iv (-128) 127 ((ff 0) j))) (hW : WFa n L qq ee) (hT : PTn cells slots n fm (qq 0)) (hq : qq 0 < pp 5) (hg : 0 ≤ (a1 : Int32).toInt ∧ (a1 : Int32).toInt < ((pp 5) : Int32).toInt ∧ 0 ≤ (a2 : Int32).toInt ∧ (a2 : Int32).toInt ≤ 4) (hP : va_P V.1 vwCl (wB V y pp ff gg (.ref (Yw 0)) (.ref (Yg 0)) ++ (wY V y n L Yw wa wb qq ee ++ wO V fm Yg rr uu) ++ wz) H) (hD : va_D (AAs s) (wB V y pp ff gg (.ref (Yw 0)) (.ref (Yg 0)) ++ (wY V y n L Yw wa wb qq ee ++ wO V fm Yg rr uu) ++ wz)) (hS : va_S (AAs s) s.heap H locs) (hlz : ls.size = 4) (kk : (∀ (r : Int32) (H : Heap) (locs : List Loc) (cells slots : Nat) (wx : va_W), KX V y cells slots τ wx → va_P V.1 vwCl (wx ++ wz) H → va_D (AAs s) (wx ++ wz) → va_S (AAs s) s.heap H locs → W p l e room_1 s m #[Value.ref b] below meth c H locs cells slots (lw_Z below #[Value.ref b] s) (F0 m 1223 ls [.int r]))) : W p l e room_1 s m #[Value.ref b] below meth c H locs cells slots (lw_Z below #[Value.ref b] s) (F0 m 1220 ls [.int a2, .int a1, .ref (y 0)]) := by
  obtain ⟨hn, hL, hw_q0, hw_q5, hw_q6, hw_q14, hw_q16, hw_tYw1, hw_tYw4, hw_tYw5, hw_tYw6, hw_tYw7, hw_WA, hw_WB, hw_WC⟩ := id hW
  have hTB := PTn_B 16 82949 hT hw_q0 (hp 5) hq (by decide) (by decide)
  refine cXI (X := wB V y pp ff gg (.ref (Yw 0)) (.ref (Yg 0)) ++ (wY V y n L Yw wa wb qq ee ++ wO V fm Yg rr uu)) (pl := wz) (wr := [(y 1, aB V 900 (ff 0)), (y 4, aI V 4 (ff 2)), (y 5, aI V 4 (ff 3)), (y 6, aI V 8 (ff 4)), (y 7, aI V 8 (ff 5)), (y 8, aI V 8 (ff 6)), (y 10, .inr (6, [.ref (y 11), .int (pp 15), .int (pp 16), .ref (y 1), .int (pp 17), .int (pp 18), .int (pp 19), .int (pp 20), .int (pp 21)])), (y 11, .inr (1, [.int (pp 22), .int (pp 23), .int (pp 24), .int (pp 25), .int (pp 26), .int (pp 27), .ref (y 12), .ref (y 13), .ref (y 14), .ref (y 15), .ref (y 16), .ref (y 17), .ref (y 18), .int (pp 28), .int (pp 29), .int (pp 30), .int (pp 31), .int (pp 32)])), (y 12, aI V 4 (ff 8)), (y 13, aI V 4 (ff 9)), (y 14, aI V 4 (ff 10)), (y 15, aI V 8 (ff 11)), (y 16, aI V 8 (ff 12)), (y 17, aI V 8 (ff 13)), (y 18, aI V 900 (ff 14)), (y 23, aI V 10 (ff 18)), (y 24, aI V 10 (ff 19)), (y 25, .inr (0, [.int (pp 33), .int (pp 34)])), (y 26, .inr (5, [.ref (y 27), .ref (y 28), .ref (y 29), .int (pp 35)])), (y 27, aI V 10 (ff 20)), (y 28, aI V 10 (ff 21)), (y 29, aI V 10 (ff 22)), (y 30, aT V 4 (va_up (va_up (va_up (va_up (fun _ => none) 0 (some (y 33))) 1 (some (y 35))) 2 (some (y 37))) 3 (some (y 39)))), (y 31, aM V 2 (va_up (va_up (fun _ => none) 0 (some (y 41))) 1 (some (y 50)))), (y 32, aI V 10 (ff 23)), (y 33, .inr (7, [.ref (y 34), .int (pp 36), .int (pp 37)])), (y 34, aJ V 40 (gg 0)), (y 35, .inr (7, [.ref (y 36), .int (pp 38), .int (pp 39)])), (y 36, aJ V 40 (gg 1)), (y 37, .inr (7, [.ref (y 38), .int (pp 40), .int (pp 41)])), (y 38, aJ V 40 (gg 2)), (y 39, .inr (7, [.ref (y 40), .int (pp 42), .int (pp 43)])), (y 40, aJ V 40 (gg 3)), (y 41, .inr (3, [.ref (y 42), .int (pp 44), .int (pp 45), .int (pp 46), .int (pp 47)])), (y 42, .inr (1, [.int (pp 48), .int (pp 49), .int (pp 50), .int (pp 51), .int (pp 52), .int (pp 53), .ref (y 43), .ref (y 44), .ref (y 45), .ref (y 46), .ref (y 47), .ref (y 48), .ref (y 49), .int (pp 54), .int (pp 55), .int (pp 56), .int (pp 57), .int (pp 58)])), (y 43, aI V 4 (ff 24)), (y 44, aI V 4 (ff 25)), (y 45, aI V 4 (ff 26)), (y 46, aI V 8 (ff 27)), (y 47, aI V 8 (ff 28)), (y 48, aI V 8 (ff 29)), (y 49, aI V 900 (ff 30)), (y 50, .inr (3, [.ref (y 51), .int (pp 59), .int (pp 60), .int (pp 61), .int (pp 62)])), (y 51, .inr (1, [.int (pp 63), .int (pp 64), .int (pp 65), .int (pp 66), .int (pp 67), .int (pp 68), .ref (y 52), .ref (y 53), .ref (y 54), .ref (y 55), .ref (y 56), .ref (y 57), .ref (y 58), .int (pp 69), .int (pp 70), .int (pp 71), .int (pp 72), .int (pp 73)])), (y 52, aI V 4 (ff 31)), (y 53, aI V 4 (ff 32)), (y 54, aI V 4 (ff 33)), (y 55, aI V 8 (ff 34)), (y 56, aI V 8 (ff 35)), (y 57, aI V 8 (ff 36)), (y 58, aI V 900 (ff 37))]) (rest := []) G (k_X9_best_6 l V n L fm Yw Yg y a1 a2 (pp 0) (pp 1) (pp 2) (pp 3) (pp 4) (pp 5) (pp 6) (pp 7) (pp 8) (pp 9) (pp 10) (pp 11) (pp 12) (pp 13) (pp 14) (ff 1) (ff 7) (ff 15) (ff 16) (ff 17) (qq 0) wa (qq 5) (qq 6) wb (qq 14) (qq 15) (qq 16) (ee 0) (ee 1) (ee 2) (ee 3) (ee 4) (ee 5) (ee 6) (ee 7) (ee 8) (rr 6) (uu 0) (uu 1) (uu 2) (uu 3) (uu 4) hn hL hfm hq (hp 0) (hp 5) (hp 6) (hp 7) (hp 10) (hp 11) (hp 12) (hp 13) (hp 14) hw_q0 hw_q5 hw_q6 hw_q14 hw_q16 hw_tYw1 hw_tYw4 hw_tYw5 hw_tYw6 hw_tYw7 hv_r6 hv_tYg1 hv_tYg3 hv_tYg4 hv_tYg5 hw_WA hw_WB hw_WC hg.1 hg.2.1 hg.2.2.1 hg.2.2.2) mt_X9_best q_5_146 ⟨Nat.le_of_ble_eq_true rfl, Nat.le_of_ble_eq_true rfl⟩ hP hD hS [0, 2, 3, 9, 19, 20, 21, 22, 59, 60, 61, 62, 63, 64, 65, 66, 67, 68, 69, 70, 71, 72, 73, 74] [1, 4, 5, 6, 7, 8, 10, 11, 12, 13, 14, 15, 16, 17, 18, 23, 24, 25, 26, 27, 28, 29, 30, 31, 32, 33, 34, 35, 36, 37, 38, 39, 40, 41, 42, 43, 44, 45, 46, 47, 48, 49, 50, 51, 52, 53, 54, 55, 56, 57, 58] (by decide +kernel) rfl rfl (by decide +kernel) (by decide +kernel) 0 rfl rfl rfl rfl hlz rfl (Nat.le_of_ble_eq_true rfl) dL_law_1220 hTB.1 (fun r w H locs hw hP hD hS => ?_)
  refine Exists.elim hw (fun n1 hw => ?_)
  refine Exists.elim hw (fun L1 hw => ?_)
  refine Exists.elim hw (fun Yw1 hw => ?_)
  refine Exists.elim hw (fun wa1 hw => ?_)
  refine Exists.elim hw (fun wb1 hw => ?_)
  refine Exists.elim hw (fun ft1 hw => ?_)
  refine Exists.elim hw (fun Yf1 hw => ?_)
  refine Exists.elim hw (fun g0 hw => ?_)
  refine Exists.elim hw (fun g1 hw => ?_)
  refine Exists.elim hw (fun g2 hw => ?_)
  refine Exists.elim hw (fun ww0 hw => ?_)
  refine Exists.elim hw (fun ww5 hw => ?_)
  refine Exists.elim hw (fun ww6 hw => ?_)
  refine Exists.elim hw (fun ww14 hw => ?_)
  refine Exists.elim hw (fun ww15 hw => ?_)
  refine Exists.elim hw (fun ww16 hw => ?_)
  refine Exists.elim hw (fun wew1 hw => ?_)
  refine Exists.elim hw (fun wew2 hw => ?_)
  refine Exists.elim hw (fun wew3 hw => ?_)
  refine Exists.elim hw (fun wew4 hw => ?_)
  refine Exists.elim hw (fun wew5 hw => ?_)
  refine Exists.elim hw (fun wew6 hw => ?_)
  refine Exists.elim hw (fun wew7 hw => ?_)
  refine Exists.elim hw (fun wew8 hw => ?_)
  refine Exists.elim hw (fun wew9 hw => ?_)
  refine Exists.elim hw (fun wf6 hw => ?_)
  refine Exists.elim hw (fun wef1 hw => ?_)
  refine Exists.elim hw (fun wef2 hw => ?_)
  refine Exists.elim hw (fun wef3 hw => ?_)
  refine Exists.elim hw (fun wef4 hw => ?_)
  refine Exists.elim hw (fun wef5 hw => ?_)
  refine And.elim (fun hn1 hw => ?_) hw
  refine And.elim (fun hL1 hw => ?_) hw
  refine And.elim (fun hft1 hw => ?_) hw
  refine And.elim (fun bww0 hw => ?_) hw
  refine And.elim (fun bww5 hw => ?_) hw
  refine And.elim (fun bww6 hw => ?_) hw
  refine And.elim (fun bww14 hw => ?_) hw
  refine And.elim (fun bww16 hw => ?_) hw
  refine And.elim (fun bwew1 hw => ?_) hw
  refine And.elim (fun bwew4 hw => ?_) hw
  refine And.elim (fun bwew5 hw => ?_) hw
  refine And.elim (fun bwew6 hw => ?_) hw
  refine And.elim (fun bwew7 hw => ?_) hw
  refine And.elim (fun bwf6 hw => ?_) hw
  refine And.elim (fun bwef1 hw => ?_) hw
  refine And.elim (fun bwef3 hw => ?_) hw
  refine And.elim (fun bwef4 hw => ?_) hw
  refine And.elim (fun bwef5 hw => ?_) hw
  refine And.elim (fun br hw => ?_) hw
  refine And.elim (fun g_0 hw => ?_) hw
  refine And.elim (fun g_1 hw => ?_) hw
  refine And.elim (fun g_2 hw => ?_) hw
  refine And.elim (fun g_3 hw => ?_) hw
  refine And.elim (fun g_4 hw => ?_) hw
  subst hw
  have hP := ptP (ws' := wB V y pp (up9 (up9 (up9 ff 15 g0) 16 g1) 17 g2) gg (.ref (Yw1 0)) (.ref (Yf1 0)) ++ (wY V y n1 L1 Yw1 wa1 wb1 (br9 17 (br9 8 (br9 4 (br9 2 (br9 1 (lf9 ww0) (fun _ => 0)) (fun _ => 0)) (br9 6 (br9 5 (fun _ => 0) (lf9 ww5)) (br9 7 (lf9 ww6) (fun _ => 0)))) (br9 12 (fun _ => 0) (br9 14 (fun _ => 0) (br9 15 (lf9 ww14) (br9 16 (lf9 ww15) (lf9 ww16)))))) (fun _ => 0)) (br9 9 (br9 4 (br9 2 (br9 1 (lf9 wew1) (lf9 wew2)) (br9 3 (lf9 wew3) (lf9 wew4))) (br9 6 (br9 5 (lf9 wew5) (lf9 wew6)) (br9 7 (lf9 wew7) (br9 8 (lf9 wew8) (lf9 wew9))))) (fun _ _ => 0)) ++ wO V (n1 + ft1) Yf1 (up9 (fun _ => 0) 6 wf6) (br9 5 (br9 2 (br9 1 (lf9 wef1) (lf9 wef2)) (br9 3 (lf9 wef3) (br9 4 (lf9 wef4) (lf9 wef5)))) (fun _ _ => 0)))) hP [51, 0, 52, 53, 1, 2, 3, 4, 5, 54, 6, 7, 8, 9, 10, 11, 12, 13, 14, 55, 56, 57, 58, 15, 16, 17, 18, 19, 20, 21, 22, 23, 24, 25, 26, 27, 28, 29, 30, 31, 32, 33, 34, 35, 36, 37, 38, 39, 40, 41, 42, 43, 44, 45, 46, 47, 48, 49, 50, 59, 60, 61, 62, 63, 64, 65, 66, 67, 68, 69, 70, 71, 72, 73, 74] rfl
  have hD := hD.part (cx := wB V y pp (up9 (up9 (up9 ff 15 g0) 16 g1) 17 g2) gg (.ref (Yw1 0)) (.ref (Yf1 0)) ++ (wY V y n1 L1 Yw1 wa1 wb1 (br9 17 (br9 8 (br9 4 (br9 2 (br9 1 (lf9 ww0) (fun _ => 0)) (fun _ => 0)) (br9 6 (br9 5 (fun _ => 0) (lf9 ww5)) (br9 7 (lf9 ww6) (fun _ => 0)))) (br9 12 (fun _ => 0) (br9 14 (fun _ => 0) (br9 15 (lf9 ww14) (br9 16 (lf9 ww15) (lf9 ww16)))))) (fun _ => 0)) (br9 9 (br9 4 (br9 2 (br9 1 (lf9 wew1) (lf9 wew2)) (br9 3 (lf9 wew3) (lf9 wew4))) (br9 6 (br9 5 (lf9 wew5) (lf9 wew6)) (br9 7 (lf9 wew7) (br9 8 (lf9 wew8) (lf9 wew9))))) (fun _ _ => 0)) ++ wO V (n1 + ft1) Yf1 (up9 (fun _ => 0) 6 wf6) (br9 5 (br9 2 (br9 1 (lf9 wef1) (lf9 wef2)) (br9 3 (lf9 wef3) (br9 4 (lf9 wef4) (lf9 wef5)))) (fun _ _ => 0)))) [51, 0, 52, 53, 1, 2, 3, 4, 5, 54, 6, 7, 8, 9, 10, 11, 12, 13, 14, 55, 56, 57, 58, 15, 16, 17, 18, 19, 20, 21, 22, 23, 24, 25, 26, 27, 28, 29, 30, 31, 32, 33, 34, 35, 36, 37, 38, 39, 40, 41, 42, 43, 44, 45, 46, 47, 48, 49, 50, 59, 60, 61, 62, 63, 64, 65, 66, 67, 68, 69, 70, 71, 72, 73, 74] (by decide +kernel) rfl
  exact kk r H locs (cells + 16) (slots + 82949) _ ⟨pp, (up9 (up9 (up9 ff 15 g0) 16 g1) 17 g2), gg, .ref (Yw1 0), .ref (Yf1 0), _, hp, ht0, ht1, ht2, ht3, ht4, Or.inr ⟨n1, L1, Yw1, wa1, wb1, (br9 17 (br9 8 (br9 4 (br9 2 (br9 1 (lf9 ww0) (fun _ => 0)) (fun _ => 0)) (br9 6 (br9 5 (fun _ => 0) (lf9 ww5)) (br9 7 (lf9 ww6) (fun _ => 0)))) (br9 12 (fun _ => 0) (br9 14 (fun _ => 0) (br9 15 (lf9 ww14) (br9 16 (lf9 ww15) (lf9 ww16)))))) (fun _ => 0)), (br9 9 (br9 4 (br9 2 (br9 1 (lf9 wew1) (lf9 wew2)) (br9 3 (lf9 wew3) (lf9 wew4))) (br9 6 (br9 5 (lf9 wew5) (lf9 wew6)) (br9 7 (lf9 wew7) (br9 8 (lf9 wew8) (lf9 wew9))))) (fun _ _ => 0)), _, n1 + ft1, ⟨hn1, hL1, bww0, bww5, bww6, bww14, bww16, bwew1, bwew4, bwew5, bwew6, bwew7, g_0, g_1, g_2⟩, (Or.inr ⟨Yf1, (up9 (fun _ => 0) 6 wf6), (br9 5 (br9 2 (br9 1 (lf9 wef1) (lf9 wef2)) (br9 3 (lf9 wef3) (br9 4 (lf9 wef4) (lf9 wef5)))) (fun _ _ => 0)), ⟨by omega, by omega⟩, (iv_w bwf6 (by omega)), (fun j => iv_w (bwef1 j) (by omega)), (fun j => iv_w (bwef3 j) (by omega)), (fun j => iv_w (bwef4 j) (by omega)), (fun j => iv_w (bwef5 j) (by omega)), rfl, rfl⟩), (show PTn _ _ _ _ ww0 from by rw [g_3]; exact hTB.2 n1 (n1 + ft1)), rfl, rfl⟩, rfl⟩ hP hD hS
set_option maxHeartbeats 4000000 in
set_option maxRecDepth 100000 in
theorem cx_35_fa {p : Program} {e : Env} {s : State} {m : MethodId} {below : List Frame} {meth : Method} {c : Code} {l : Launch} {b Lk : Nat} {xs : Nat → Int32} {V : GV} {y : Nat → Nat} {τ : Nat → Int32} {H : Heap} {locs : List Loc} {cells slots : Nat} {wz : va_W} {ls : Array Slot} (G : LCx p s m meth c b Lk xs V) (a1 : Int32) (a2 : Int32) {pp : Nat → Int32} {ff : Nat → Nat → Int32} {gg : Nat → Nat → Int64} {n L : Nat} {Yw : Nat → Nat} {wa wb : Nat} {qq : Nat → Int32} {ee : Nat → Nat → Int32} {ft : Nat} {Yg : Nat → Nat} {rr : Nat → Int32} {uu : Nat → Nat → Int32} (hfm : 1 ≤ (n + ft) ∧ (n + ft) ≤ 7291) (hv_r6 : iv 0 (2 * ((n + ft : Nat) : Int)) (rr 6)) (hv_tYg1 : (∀ j, iv (-1) (2 * ((n + ft : Nat) : Int)) ((uu 0) j))) (hv_tYg3 : (∀ j, iv 0 (2 * ((n + ft : Nat) : Int) - 1) ((uu 2) j))) (hv_tYg4 : (∀ j, iv 0 (4 * ((n + ft : Nat) : Int)) ((uu 3) j))) (hv_tYg5 : (∀ j, iv 0 (((n + ft : Nat) : Int) - 1) ((uu 4) j))) (hp : ivT tX pp) (ht0 : pp 0 = τ 0) (ht1 : pp 15 = τ 1) (ht2 : pp 16 = τ 2) (ht3 : BTs (ff 0) (tauT τ)) (ht4 : (∀ j, iv (-128) 127 ((ff 0) j))) (hW : WFa n L qq ee) (hT : PTn cells slots n (n + ft) (qq 0)) (hq : pp 5 ≤ qq 0)  (hP : va_P V.1 vwCl (wB V y pp ff gg (.ref (Yw 0)) (.ref (Yg 0)) ++ (wY V y n L Yw wa wb qq ee ++ wO V (n + ft) Yg rr uu) ++ wz) H) (hD : va_D (AAs s) (wB V y pp ff gg (.ref (Yw 0)) (.ref (Yg 0)) ++ (wY V y n L Yw wa wb qq ee ++ wO V (n + ft) Yg rr uu) ++ wz)) (hS : va_S (AAs s) s.heap H locs) (hlz : ls.size = 4) (kk : (∀ (r : Int32) (H : Heap) (locs : List Loc) (cells slots : Nat) (wx : va_W), KX V y cells slots τ wx → va_P V.1 vwCl (wx ++ wz) H → va_D (AAs s) (wx ++ wz) → va_S (AAs s) s.heap H locs → W p l e room_1 s m #[Value.ref b] below meth c H locs cells slots (lw_Z below #[Value.ref b] s) (F0 m 1223 ls [.int r]))) : W p l e room_1 s m #[Value.ref b] below meth c H locs cells slots (lw_Z below #[Value.ref b] s) (F0 m 1220 ls [.int a2, .int a1, .ref (y 0)]) := by
  obtain ⟨hn, hL, hw_q0, hw_q5, hw_q6, hw_q14, hw_q16, hw_tYw1, hw_tYw4, hw_tYw5, hw_tYw6, hw_tYw7, hw_WA, hw_WB, hw_WC⟩ := id hW
  have hft : 0 ≤ ft ∧ ft ≤ 7290 := by omega
  refine cXI (X := wB V y pp ff gg (.ref (Yw 0)) (.ref (Yg 0)) ++ (wY V y n L Yw wa wb qq ee ++ wO V (n + ft) Yg rr uu)) (pl := wz) (wr := [(y 1, aB V 900 (ff 0)), (y 4, aI V 4 (ff 2)), (y 5, aI V 4 (ff 3)), (y 6, aI V 8 (ff 4)), (y 7, aI V 8 (ff 5)), (y 8, aI V 8 (ff 6)), (y 10, .inr (6, [.ref (y 11), .int (pp 15), .int (pp 16), .ref (y 1), .int (pp 17), .int (pp 18), .int (pp 19), .int (pp 20), .int (pp 21)])), (y 11, .inr (1, [.int (pp 22), .int (pp 23), .int (pp 24), .int (pp 25), .int (pp 26), .int (pp 27), .ref (y 12), .ref (y 13), .ref (y 14), .ref (y 15), .ref (y 16), .ref (y 17), .ref (y 18), .int (pp 28), .int (pp 29), .int (pp 30), .int (pp 31), .int (pp 32)])), (y 12, aI V 4 (ff 8)), (y 13, aI V 4 (ff 9)), (y 14, aI V 4 (ff 10)), (y 15, aI V 8 (ff 11)), (y 16, aI V 8 (ff 12)), (y 17, aI V 8 (ff 13)), (y 18, aI V 900 (ff 14)), (y 23, aI V 10 (ff 18)), (y 24, aI V 10 (ff 19)), (y 25, .inr (0, [.int (pp 33), .int (pp 34)])), (y 26, .inr (5, [.ref (y 27), .ref (y 28), .ref (y 29), .int (pp 35)])), (y 27, aI V 10 (ff 20)), (y 28, aI V 10 (ff 21)), (y 29, aI V 10 (ff 22)), (y 30, aT V 4 (va_up (va_up (va_up (va_up (fun _ => none) 0 (some (y 33))) 1 (some (y 35))) 2 (some (y 37))) 3 (some (y 39)))), (y 31, aM V 2 (va_up (va_up (fun _ => none) 0 (some (y 41))) 1 (some (y 50)))), (y 32, aI V 10 (ff 23)), (y 33, .inr (7, [.ref (y 34), .int (pp 36), .int (pp 37)])), (y 34, aJ V 40 (gg 0)), (y 35, .inr (7, [.ref (y 36), .int (pp 38), .int (pp 39)])), (y 36, aJ V 40 (gg 1)), (y 37, .inr (7, [.ref (y 38), .int (pp 40), .int (pp 41)])), (y 38, aJ V 40 (gg 2)), (y 39, .inr (7, [.ref (y 40), .int (pp 42), .int (pp 43)])), (y 40, aJ V 40 (gg 3)), (y 41, .inr (3, [.ref (y 42), .int (pp 44), .int (pp 45), .int (pp 46), .int (pp 47)])), (y 42, .inr (1, [.int (pp 48), .int (pp 49), .int (pp 50), .int (pp 51), .int (pp 52), .int (pp 53), .ref (y 43), .ref (y 44), .ref (y 45), .ref (y 46), .ref (y 47), .ref (y 48), .ref (y 49), .int (pp 54), .int (pp 55), .int (pp 56), .int (pp 57), .int (pp 58)])), (y 43, aI V 4 (ff 24)), (y 44, aI V 4 (ff 25)), (y 45, aI V 4 (ff 26)), (y 46, aI V 8 (ff 27)), (y 47, aI V 8 (ff 28)), (y 48, aI V 8 (ff 29)), (y 49, aI V 900 (ff 30)), (y 50, .inr (3, [.ref (y 51), .int (pp 59), .int (pp 60), .int (pp 61), .int (pp 62)])), (y 51, .inr (1, [.int (pp 63), .int (pp 64), .int (pp 65), .int (pp 66), .int (pp 67), .int (pp 68), .ref (y 52), .ref (y 53), .ref (y 54), .ref (y 55), .ref (y 56), .ref (y 57), .ref (y 58), .int (pp 69), .int (pp 70), .int (pp 71), .int (pp 72), .int (pp 73)])), (y 52, aI V 4 (ff 31)), (y 53, aI V 4 (ff 32)), (y 54, aI V 4 (ff 33)), (y 55, aI V 8 (ff 34)), (y 56, aI V 8 (ff 35)), (y 57, aI V 8 (ff 36)), (y 58, aI V 900 (ff 37)), (wa, aI V n (ee 2)), (Yw 7, aI V n (ee 6)), (wb, aI V n (ee 8))]) (rest := []) G (k_X9_best_0 l V n L ft Yw Yg y a1 a2 (pp 0) (pp 1) (pp 2) (pp 3) (pp 4) (pp 5) (pp 6) (pp 7) (pp 8) (pp 9) (pp 10) (pp 11) (pp 12) (pp 13) (pp 14) (ff 1) (ff 7) (ff 15) (ff 16) (ff 17) (qq 0) wa (qq 5) (qq 6) wb (qq 14) (qq 15) (qq 16) (ee 0) (ee 1) (ee 3) (ee 4) (ee 5) (ee 7) (rr 6) (uu 0) (uu 1) (uu 2) (uu 3) (uu 4) hn hL hft hq (hp 0) (hp 5) (hp 6) (hp 7) (hp 10) (hp 11) (hp 12) (hp 13) (hp 14) hw_q0 hw_q5 hw_q6 hw_q14 hw_q16 hw_tYw1 hw_tYw4 hw_tYw5 hw_tYw6 (iv_w hv_r6 (by omega)) (fun j => iv_w (hv_tYg1 j) (by omega)) (fun j => iv_w (hv_tYg3 j) (by omega)) (fun j => iv_w (hv_tYg4 j) (by omega)) (fun j => iv_w (hv_tYg5 j) (by omega)) hw_WA hw_WB hw_WC) mt_X9_best q_5_146 ⟨Nat.le_of_ble_eq_true rfl, Nat.le_of_ble_eq_true rfl⟩ hP hD hS [0, 2, 3, 9, 19, 20, 21, 22, 59, 60, 61, 63, 64, 65, 67, 69, 70, 71, 72, 73, 74] [1, 4, 5, 6, 7, 8, 10, 11, 12, 13, 14, 15, 16, 17, 18, 23, 24, 25, 26, 27, 28, 29, 30, 31, 32, 33, 34, 35, 36, 37, 38, 39, 40, 41, 42, 43, 44, 45, 46, 47, 48, 49, 50, 51, 52, 53, 54, 55, 56, 57, 58, 62, 66, 68] (by decide +kernel) rfl rfl (by decide +kernel) (by decide +kernel) 0 rfl rfl rfl rfl hlz rfl (Nat.le_of_ble_eq_true rfl) dL_law_1220 (PTn_room hT hw_q0) (fun r w H locs hw hP hD hS => ?_)
  refine Exists.elim hw (fun g0 hw => ?_)
  refine Exists.elim hw (fun g1 hw => ?_)
  refine Exists.elim hw (fun g2 hw => ?_)
  refine Exists.elim hw (fun v3 hw => ?_)
  refine Exists.elim hw (fun v4 hw => ?_)
  refine Exists.elim hw (fun v5 hw => ?_)
  refine Exists.elim hw (fun v6 hw => ?_)
  refine Exists.elim hw (fun v7 hw => ?_)
  refine Exists.elim hw (fun g8 hw => ?_)
  refine Exists.elim hw (fun g9 hw => ?_)
  refine Exists.elim hw (fun g10 hw => ?_)
  refine Exists.elim hw (fun g11 hw => ?_)
  refine Exists.elim hw (fun g12 hw => ?_)
  refine Exists.elim hw (fun g13 hw => ?_)
  refine Exists.elim hw (fun v14 hw => ?_)
  refine Exists.elim hw (fun g15 hw => ?_)
  refine Exists.elim hw (fun g16 hw => ?_)
  refine Exists.elim hw (fun g17 hw => ?_)
  refine Exists.elim hw (fun g18 hw => ?_)
  refine Exists.elim hw (fun g19 hw => ?_)
  refine And.elim (fun bv3 hw => ?_) hw
  refine And.elim (fun bv4 hw => ?_) hw
  refine And.elim (fun bv5 hw => ?_) hw
  refine And.elim (fun bv7 hw => ?_) hw
  refine And.elim (fun bg8 hw => ?_) hw
  refine And.elim (fun bg10 hw => ?_) hw
  refine And.elim (fun bg11 hw => ?_) hw
  refine And.elim (fun bg12 hw => ?_) hw
  refine And.elim (fun bv14 hw => ?_) hw
  refine And.elim (fun bg15 hw => ?_) hw
  refine And.elim (fun bg17 hw => ?_) hw
  refine And.elim (fun bg18 hw => ?_) hw
  refine And.elim (fun bg19 hw => ?_) hw
  refine And.elim (fun br hw => ?_) hw
  refine And.elim (fun g_0 hw => ?_) hw
  refine And.elim (fun g_1 hw => ?_) hw
  refine And.elim (fun g_2 hw => ?_) hw
  subst hw
  have hP := ptP (ws' := wB V y pp (up9 (up9 (up9 ff 15 g0) 16 g1) 17 g2) gg (.ref (Yw 0)) (.ref (Yg 0)) ++ (wY V y n L Yw wa wb (br9 17 (br9 8 (br9 4 qq (br9 6 (br9 5 qq (lf9 v3)) (br9 7 (lf9 v4) qq))) (br9 12 qq (br9 14 qq (br9 15 (lf9 v5) (br9 16 (lf9 v6) (lf9 v7)))))) qq) (br9 8 (br9 4 (br9 2 (br9 1 (lf9 g8) (lf9 g9)) (br9 3 ee (lf9 g10))) (br9 6 (br9 5 (lf9 g11) (lf9 g12)) (br9 7 ee (lf9 g13)))) ee) ++ wO V (n + ft) Yg (up9 rr 6 v14) (br9 5 (br9 2 (br9 1 (lf9 g15) (lf9 g16)) (br9 3 (lf9 g17) (br9 4 (lf9 g18) (lf9 g19)))) uu))) hP [54, 0, 55, 56, 1, 2, 3, 4, 5, 57, 6, 7, 8, 9, 10, 11, 12, 13, 14, 58, 59, 60, 61, 15, 16, 17, 18, 19, 20, 21, 22, 23, 24, 25, 26, 27, 28, 29, 30, 31, 32, 33, 34, 35, 36, 37, 38, 39, 40, 41, 42, 43, 44, 45, 46, 47, 48, 49, 50, 62, 63, 64, 51, 65, 66, 67, 52, 68, 53, 69, 70, 71, 72, 73, 74] rfl
  have hD := hD.part (cx := wB V y pp (up9 (up9 (up9 ff 15 g0) 16 g1) 17 g2) gg (.ref (Yw 0)) (.ref (Yg 0)) ++ (wY V y n L Yw wa wb (br9 17 (br9 8 (br9 4 qq (br9 6 (br9 5 qq (lf9 v3)) (br9 7 (lf9 v4) qq))) (br9 12 qq (br9 14 qq (br9 15 (lf9 v5) (br9 16 (lf9 v6) (lf9 v7)))))) qq) (br9 8 (br9 4 (br9 2 (br9 1 (lf9 g8) (lf9 g9)) (br9 3 ee (lf9 g10))) (br9 6 (br9 5 (lf9 g11) (lf9 g12)) (br9 7 ee (lf9 g13)))) ee) ++ wO V (n + ft) Yg (up9 rr 6 v14) (br9 5 (br9 2 (br9 1 (lf9 g15) (lf9 g16)) (br9 3 (lf9 g17) (br9 4 (lf9 g18) (lf9 g19)))) uu))) [54, 0, 55, 56, 1, 2, 3, 4, 5, 57, 6, 7, 8, 9, 10, 11, 12, 13, 14, 58, 59, 60, 61, 15, 16, 17, 18, 19, 20, 21, 22, 23, 24, 25, 26, 27, 28, 29, 30, 31, 32, 33, 34, 35, 36, 37, 38, 39, 40, 41, 42, 43, 44, 45, 46, 47, 48, 49, 50, 62, 63, 64, 51, 65, 66, 67, 52, 68, 53, 69, 70, 71, 72, 73, 74] (by decide +kernel) rfl
  exact kk r H locs (cells + 0) (slots + 0) _ ⟨pp, (up9 (up9 (up9 ff 15 g0) 16 g1) 17 g2), gg, .ref (Yw 0), .ref (Yg 0), _, hp, ht0, ht1, ht2, ht3, ht4, Or.inr ⟨n, L, Yw, wa, wb, (br9 17 (br9 8 (br9 4 qq (br9 6 (br9 5 qq (lf9 v3)) (br9 7 (lf9 v4) qq))) (br9 12 qq (br9 14 qq (br9 15 (lf9 v5) (br9 16 (lf9 v6) (lf9 v7)))))) qq), (br9 8 (br9 4 (br9 2 (br9 1 (lf9 g8) (lf9 g9)) (br9 3 ee (lf9 g10))) (br9 6 (br9 5 (lf9 g11) (lf9 g12)) (br9 7 ee (lf9 g13)))) ee), _, n + ft, ⟨hn, hL, hw_q0, bv3, bv4, bv5, bv7, bg8, bg10, bg11, bg12, hw_tYw7, g_0, g_1, g_2⟩, Or.inr ⟨Yg, (up9 rr 6 v14), (br9 5 (br9 2 (br9 1 (lf9 g15) (lf9 g16)) (br9 3 (lf9 g17) (br9 4 (lf9 g18) (lf9 g19)))) uu), hfm, (iv_w bv14 (by omega)), (fun j => iv_w (bg15 j) (by omega)), (fun j => iv_w (bg17 j) (by omega)), (fun j => iv_w (bg18 j) (by omega)), (fun j => iv_w (bg19 j) (by omega)), rfl, rfl⟩, hT, rfl, rfl⟩, rfl⟩ hP hD hS
set_option maxHeartbeats 4000000 in
set_option maxRecDepth 100000 in
theorem cx_35 {p : Program} {e : Env} {s : State} {m : MethodId} {below : List Frame} {meth : Method} {c : Code} {l : Launch} {b Lk : Nat} {xs : Nat → Int32} {V : GV} {y : Nat → Nat} {τ : Nat → Int32} {H : Heap} {locs : List Loc} {cells slots : Nat} {wz : va_W} {ls : Array Slot} (G : LCx p s m meth c b Lk xs V) (a1 : Int32) (a2 : Int32) {wx : va_W} (kx : KX V y cells slots τ wx) (hP : va_P V.1 vwCl (wx ++ wz) H) (hD : va_D (AAs s) (wx ++ wz)) (hS : va_S (AAs s) s.heap H locs) (hlz : ls.size = 4) (kk : (∀ (r : Int32) (H : Heap) (locs : List Loc) (cells slots : Nat) (wx : va_W), KX V y cells slots τ wx → va_P V.1 vwCl (wx ++ wz) H → va_D (AAs s) (wx ++ wz) → va_S (AAs s) s.heap H locs → W p l e room_1 s m #[Value.ref b] below meth c H locs cells slots (lw_Z below #[Value.ref b] s) (F0 m 1223 ls [.int r]))) : W p l e room_1 s m #[Value.ref b] below meth c H locs cells slots (lw_Z below #[Value.ref b] s) (F0 m 1220 ls [.int a2, .int a1, .ref (y 0)]) := by
  obtain ⟨pp, ff, gg, o10, o11, rest, hp, ht0, ht1, ht2, ht3, ht4, hR, rfl⟩ := kx
  by_cases hg : 0 ≤ (a1 : Int32).toInt ∧ (a1 : Int32).toInt < ((pp 5) : Int32).toInt ∧ 0 ≤ (a2 : Int32).toInt ∧ (a2 : Int32).toInt ≤ 4
  · rcases hR with ⟨rfl, rfl, rfl, hc⟩ | ⟨n, L, Yw, wa, wb, qq, ee, fr, fm, hW, hF, hT, rfl, rfl⟩
    · exact cx_35_0 G _ _ hp ht0 ht1 ht2 ht3 ht4 hc hg hP hD hS hlz kk
    · rcases hF with ⟨rfl, rfl, rfl⟩ | ⟨Yg, rr, uu, hfm, hv_r6, hv_tYg1, hv_tYg3, hv_tYg4, hv_tYg5, rfl, rfl⟩
      · rcases Classical.em (pp 5 ≤ qq 0) with hq | hq
        · exact cx_35_na G _ _ hp ht0 ht1 ht2 ht3 ht4 hW hT hq hg hP hD hS hlz kk
        · replace hq := Int32.not_le.mp hq
          exact cx_35_nb G _ _ hp ht0 ht1 ht2 ht3 ht4 hW hT hq hg hP hD hS hlz kk
      · rcases Classical.em (pp 5 ≤ qq 0) with hq | hq
        · rcases Nat.lt_or_ge fm n with hlt | hlt
          · exact cx_35_ga G _ _ hfm hv_r6 hv_tYg1 hv_tYg3 hv_tYg4 hv_tYg5 hp ht0 ht1 ht2 ht3 ht4 hW hT hq hg hP hD hS hlt hlz kk
          · obtain ⟨ft, rfl⟩ : ∃ ft, fm = n + ft := ⟨fm - n, by omega⟩
            exact cx_35_fa G _ _ hfm hv_r6 hv_tYg1 hv_tYg3 hv_tYg4 hv_tYg5 hp ht0 ht1 ht2 ht3 ht4 hW hT hq hP hD hS hlz kk
        · replace hq := Int32.not_le.mp hq
          exact cx_35_gb G _ _ hfm hv_r6 hv_tYg1 hv_tYg3 hv_tYg4 hv_tYg5 hp ht0 ht1 ht2 ht3 ht4 hW hT hq hg hP hD hS hlz kk
  · exact cx_35_e G _ _ hp ht0 ht1 ht2 ht3 ht4 hR hg hP hD hS hlz kk
theorem q_8_108 : Cond.code yX10_best prog_12_method_121_code 6 (some FieldType.int) ∈ gw := gw_8 (i := 108) (rfl) rfl
theorem q_8_106 : Cond.instanceMethod yX10_best ∈ gw := gw_8 (i := 106) (by decide +kernel) rfl
theorem q_8_107 : Cond.selects "BeaconDelayModel" yX10_best yX10_best ∈ gw := gw_8 (i := 107) (by decide +kernel) rfl
theorem mt_X10_best : MtV yX10_best cX10_best 6 (some .int) 2 := ⟨⟨q_8_108, q_1_9, by decide +kernel, by decide +kernel, by decide +kernel⟩, q_8_106, q_8_107⟩
theorem q_8_105 : Cond.methodLink "BeaconDelayLaw" 163 yX10_best ∈ gw := gw_8 (i := 105) (by decide +kernel) rfl
theorem dL_law_1235 : decode cL_law 1235 = .ok (.invokevirtual 163, 3) := by decide +kernel
set_option maxHeartbeats 4000000 in
set_option maxRecDepth 100000 in
theorem cz_35 {p : Program} {e : Env} {s : State} {m : MethodId} {below : List Frame} {meth : Method} {c : Code} {l : Launch} {b Lk : Nat} {xs : Nat → Int32} {V : GV} {z : Nat → Nat} {τ : Nat → Int32} {H : Heap} {locs : List Loc} {cells slots : Nat} {wx : va_W} {ls : Array Slot} {rest : List Value} (G : LCx p s m meth c b Lk xs V) (a1 : Int32) (a2 : Int32) {wz : va_W} (kz : KZ V z τ wz) (hP : va_P V.1 vwCl (wx ++ wz) H) (hD : va_D (AAs s) (wx ++ wz)) (hS : va_S (AAs s) s.heap H locs) (hcs : cells + 0 ≤ 600000 ∧ slots + 0 ≤ 7302250) (hro : (rest.map fun v => v.category).sum ≤ 8) (hlz : ls.size = 4) (kk : (∀ (r : Int32) (H : Heap) (locs : List Loc) (wz : va_W), KZ V z τ wz → va_P V.1 vwCl (wx ++ wz) H → va_D (AAs s) (wx ++ wz) → va_S (AAs s) s.heap H locs → W p l e room_1 s m #[Value.ref b] below meth c H locs cells slots (lw_Z below #[Value.ref b] s) (F0 m 1238 ls (.int r :: rest)))) : W p l e room_1 s m #[Value.ref b] below meth c H locs cells slots (lw_Z below #[Value.ref b] s) (F0 m 1235 ls (.int a2 :: .int a1 :: .ref (z 0) :: rest)) := by
  obtain ⟨pz, fz, gz, hp, ht0, ht1, ht2, ht3, hz_tz1, hz_tz3, hz_tz4, hz_tz16, hz_tz17, hz_tz20, hz_tz21, hz_tz24, hz_tz25, hz_tz26, hz_tz27, hz_tz33, hz_tz34, hz_tz37, hz_tz38, hz_RW, rfl⟩ := kz
  replace hP := swP hP
  replace hD := swD hD
  refine cSI (X := wZ V z pz fz gz) (pl := wx) (rest := rest) G (k_X10_best_0 l V z a1 a2 (pz 0) (pz 5) (pz 6) (pz 7) (pz 8) (pz 9) (pz 10) (pz 11) (pz 12) (pz 13) (pz 14) (pz 18) (pz 19) (pz 22) (pz 23) (pz 29) (fz 0) (fz 4) (fz 5) (fz 9) (fz 10) (fz 11) (fz 12) (fz 13) (hp 5) (hp 6) (hp 7) (hp 8) (hp 10) (hp 11) (hp 12) (hp 13) (hp 14) (hp 18) (hp 22) (hp 29) hz_tz1 hz_tz16 hz_tz24 hz_tz25 hz_tz26 hz_tz27 hz_RW) mt_X10_best q_8_105 ⟨Nat.le_of_ble_eq_true rfl, Nat.le_of_ble_eq_true rfl⟩ hP hD hS [0, 1, 5, 6, 10, 11, 12, 13, 14] [0, 0, 3, 0, 3, 0, 0, 0, 0] (by decide) (by decide +kernel) rfl 0 rfl rfl rfl rfl hlz rfl hro dL_law_1235 hcs (fun r w H locs hw hPD hS => ?_)
  refine Exists.elim hw (fun v0 hw => ?_)
  refine Exists.elim hw (fun v1 hw => ?_)
  refine Exists.elim hw (fun g2 hw => ?_)
  refine Exists.elim hw (fun g3 hw => ?_)
  refine Exists.elim hw (fun g4 hw => ?_)
  refine Exists.elim hw (fun g5 hw => ?_)
  refine Exists.elim hw (fun g6 hw => ?_)
  refine Exists.elim hw (fun g7 hw => ?_)
  refine Exists.elim hw (fun g8 hw => ?_)
  refine And.elim (fun bv1 hw => ?_) hw
  refine And.elim (fun bg3 hw => ?_) hw
  refine And.elim (fun bg4 hw => ?_) hw
  refine And.elim (fun bg5 hw => ?_) hw
  refine And.elim (fun bg6 hw => ?_) hw
  refine And.elim (fun bg7 hw => ?_) hw
  refine And.elim (fun br hw => ?_) hw
  refine And.elim (fun g_0 hw => ?_) hw
  subst hw
  obtain ⟨hP, hD⟩ := hPD (wZ V z (up9 (up9 pz 0 v0) 29 v1) (br9 14 (br9 7 (br9 3 fz (br9 5 (br9 4 fz (lf9 g2)) (br9 6 (lf9 g3) fz))) (br9 10 (br9 8 fz (br9 9 fz (lf9 g4))) (br9 12 (br9 11 (lf9 g5) (lf9 g6)) (br9 13 (lf9 g7) (lf9 g8))))) fz) gz) rfl rfl
  replace hP := swP hP
  replace hD := swD hD
  exact kk r H locs _ ⟨(up9 (up9 pz 0 v0) 29 v1), (br9 14 (br9 7 (br9 3 fz (br9 5 (br9 4 fz (lf9 g2)) (br9 6 (lf9 g3) fz))) (br9 10 (br9 8 fz (br9 9 fz (lf9 g4))) (br9 12 (br9 11 (lf9 g5) (lf9 g6)) (br9 13 (lf9 g7) (lf9 g8))))) fz), gz, (ivUp 29 (ivUp 0 hp (iv_top v0)) bv1), ht0, ht1, ht2, ht3, hz_tz1, hz_tz3, hz_tz4, bg3, hz_tz17, hz_tz20, hz_tz21, bg4, bg5, bg6, bg7, hz_tz33, hz_tz34, hz_tz37, hz_tz38, g_0, rfl⟩ hP hD hS
theorem q_5_157 : Cond.code yX9_chance prog_1_method_64_code 6 (some FieldType.int) ∈ gw := gw_5 (i := 157) (rfl) rfl
theorem q_5_155 : Cond.instanceMethod yX9_chance ∈ gw := gw_5 (i := 155) (by decide +kernel) rfl
theorem q_5_156 : Cond.selects "BeaconDelay" yX9_chance yX9_chance ∈ gw := gw_5 (i := 156) (by decide +kernel) rfl
theorem mt_X9_chance : MtV yX9_chance cX9_chance 6 (some .int) 4 := ⟨⟨q_5_157, q_1_1, by decide +kernel, by decide +kernel, by decide +kernel⟩, q_5_155, q_5_156⟩
theorem q_5_154 : Cond.methodLink "BeaconDelayLaw" 164 yX9_chance ∈ gw := gw_5 (i := 154) (by decide +kernel) rfl
theorem dL_law_1263 : decode cL_law 1263 = .ok (.invokevirtual 164, 3) := by decide +kernel
set_option maxHeartbeats 4000000 in
set_option maxRecDepth 100000 in
theorem cx_36_e {p : Program} {e : Env} {s : State} {m : MethodId} {below : List Frame} {meth : Method} {c : Code} {l : Launch} {b Lk : Nat} {xs : Nat → Int32} {V : GV} {y : Nat → Nat} {τ : Nat → Int32} {H : Heap} {locs : List Loc} {cells slots : Nat} {wz : va_W} {ls : Array Slot} (G : LCx p s m meth c b Lk xs V) (a1 : Int32) (a2 : Int32) (a3 : Int32) (a4 : Int32) {pp : Nat → Int32} {ff : Nat → Nat → Int32} {gg : Nat → Nat → Int64} {o10 o11 : Value} {rest : va_W} (hp : ivT tX pp) (ht0 : pp 0 = τ 0) (ht1 : pp 15 = τ 1) (ht2 : pp 16 = τ 2) (ht3 : BTs (ff 0) (tauT τ)) (ht4 : (∀ j, iv (-128) 127 ((ff 0) j))) (hR : RRo V y cells slots o10 o11 rest) (hg : ¬ (0 ≤ (a1 : Int32).toInt ∧ (a1 : Int32).toInt < ((pp 5) : Int32).toInt ∧ 0 ≤ (a2 : Int32).toInt ∧ (a2 : Int32).toInt ≤ 4 ∧ 0 ≤ (a3 : Int32).toInt ∧ (a3 : Int32).toInt ≤ 7 ∧ 0 ≤ (a4 : Int32).toInt ∧ (a4 : Int32).toInt ≤ 1)) (hP : va_P V.1 vwCl (wB V y pp ff gg o10 o11 ++ rest ++ wz) H) (hD : va_D (AAs s) (wB V y pp ff gg o10 o11 ++ rest ++ wz)) (hS : va_S (AAs s) s.heap H locs) (hlz : ls.size = 4) (kk : (∀ (r : Int32) (H : Heap) (locs : List Loc) (cells slots : Nat) (wx : va_W), KX V y cells slots τ wx → va_P V.1 vwCl (wx ++ wz) H → va_D (AAs s) (wx ++ wz) → va_S (AAs s) s.heap H locs → W p l e room_1 s m #[Value.ref b] below meth c H locs cells slots (lw_Z below #[Value.ref b] s) (F0 m 1266 ls [.int r]))) : W p l e room_1 s m #[Value.ref b] below meth c H locs cells slots (lw_Z below #[Value.ref b] s) (F0 m 1263 ls [.int a4, .int a3, .int a2, .int a1, .ref (y 0)]) := by
  rw [as3] at hP hD
  refine cSI (X := wB V y pp ff gg o10 o11) (pl := rest ++ wz) (rest := []) G (k_X9_chance_1 l V y a1 a2 a3 a4 (pp 0) o10 o11 (pp 1) (pp 2) (pp 3) (pp 4) (pp 5) (pp 6) (pp 7) (pp 8) (pp 9) (pp 10) (pp 11) (pp 12) (pp 13) (pp 14) (hp 0) (hp 5) (hp 6) (hp 7) (hp 10) (hp 11) (hp 12) (hp 13) (hp 14) hg) mt_X9_chance q_5_154 ⟨Nat.le_of_ble_eq_true rfl, Nat.le_of_ble_eq_true rfl⟩ hP hD hS [0, 2] [0, 1] (by decide) (by decide +kernel) rfl 0 rfl rfl rfl rfl hlz rfl (Nat.le_of_ble_eq_true rfl) dL_law_1263 hR.room (fun r w H locs hw hPD hS => ?_)
  refine And.elim (fun br hw => ?_) hw
  subst hw
  obtain ⟨hP, hD⟩ := hPD (wB V y pp ff gg o10 o11) rfl rfl
  rw [← as3] at hP hD
  exact kk r H locs (cells + 0) (slots + 0) _ ⟨pp, ff, gg, o10, o11, rest, hp, ht0, ht1, ht2, ht3, ht4, hR, rfl⟩ hP hD hS
set_option maxHeartbeats 4000000 in
set_option maxRecDepth 100000 in
theorem cx_36_0 {p : Program} {e : Env} {s : State} {m : MethodId} {below : List Frame} {meth : Method} {c : Code} {l : Launch} {b Lk : Nat} {xs : Nat → Int32} {V : GV} {y : Nat → Nat} {τ : Nat → Int32} {H : Heap} {locs : List Loc} {cells slots : Nat} {wz : va_W} {ls : Array Slot} (G : LCx p s m meth c b Lk xs V) (a1 : Int32) (a2 : Int32) (a3 : Int32) (a4 : Int32) {pp : Nat → Int32} {ff : Nat → Nat → Int32} {gg : Nat → Nat → Int64} (hp : ivT tX pp) (ht0 : pp 0 = τ 0) (ht1 : pp 15 = τ 1) (ht2 : pp 16 = τ 2) (ht3 : BTs (ff 0) (tauT τ)) (ht4 : (∀ j, iv (-128) 127 ((ff 0) j))) (hc : cells + 116 ≤ 600000 ∧ slots + 633553 ≤ 7302250) (hg : 0 ≤ (a1 : Int32).toInt ∧ (a1 : Int32).toInt < ((pp 5) : Int32).toInt ∧ 0 ≤ (a2 : Int32).toInt ∧ (a2 : Int32).toInt ≤ 4 ∧ 0 ≤ (a3 : Int32).toInt ∧ (a3 : Int32).toInt ≤ 7 ∧ 0 ≤ (a4 : Int32).toInt ∧ (a4 : Int32).toInt ≤ 1) (hP : va_P V.1 vwCl (wB V y pp ff gg .null .null ++ [] ++ wz) H) (hD : va_D (AAs s) (wB V y pp ff gg .null .null ++ [] ++ wz)) (hS : va_S (AAs s) s.heap H locs) (hlz : ls.size = 4) (kk : (∀ (r : Int32) (H : Heap) (locs : List Loc) (cells slots : Nat) (wx : va_W), KX V y cells slots τ wx → va_P V.1 vwCl (wx ++ wz) H → va_D (AAs s) (wx ++ wz) → va_S (AAs s) s.heap H locs → W p l e room_1 s m #[Value.ref b] below meth c H locs cells slots (lw_Z below #[Value.ref b] s) (F0 m 1266 ls [.int r]))) : W p l e room_1 s m #[Value.ref b] below meth c H locs cells slots (lw_Z below #[Value.ref b] s) (F0 m 1263 ls [.int a4, .int a3, .int a2, .int a1, .ref (y 0)]) := by
  refine cXI (X := wB V y pp ff gg .null .null ++ []) (pl := wz) (wr := [(y 1, aB V 900 (ff 0)), (y 4, aI V 4 (ff 2)), (y 5, aI V 4 (ff 3)), (y 6, aI V 8 (ff 4)), (y 7, aI V 8 (ff 5)), (y 8, aI V 8 (ff 6)), (y 10, .inr (6, [.ref (y 11), .int (pp 15), .int (pp 16), .ref (y 1), .int (pp 17), .int (pp 18), .int (pp 19), .int (pp 20), .int (pp 21)])), (y 11, .inr (1, [.int (pp 22), .int (pp 23), .int (pp 24), .int (pp 25), .int (pp 26), .int (pp 27), .ref (y 12), .ref (y 13), .ref (y 14), .ref (y 15), .ref (y 16), .ref (y 17), .ref (y 18), .int (pp 28), .int (pp 29), .int (pp 30), .int (pp 31), .int (pp 32)])), (y 12, aI V 4 (ff 8)), (y 13, aI V 4 (ff 9)), (y 14, aI V 4 (ff 10)), (y 15, aI V 8 (ff 11)), (y 16, aI V 8 (ff 12)), (y 17, aI V 8 (ff 13)), (y 18, aI V 900 (ff 14)), (y 23, aI V 10 (ff 18)), (y 24, aI V 10 (ff 19)), (y 25, .inr (0, [.int (pp 33), .int (pp 34)])), (y 26, .inr (5, [.ref (y 27), .ref (y 28), .ref (y 29), .int (pp 35)])), (y 27, aI V 10 (ff 20)), (y 28, aI V 10 (ff 21)), (y 29, aI V 10 (ff 22)), (y 30, aT V 4 (va_up (va_up (va_up (va_up (fun _ => none) 0 (some (y 33))) 1 (some (y 35))) 2 (some (y 37))) 3 (some (y 39)))), (y 31, aM V 2 (va_up (va_up (fun _ => none) 0 (some (y 41))) 1 (some (y 50)))), (y 32, aI V 10 (ff 23)), (y 33, .inr (7, [.ref (y 34), .int (pp 36), .int (pp 37)])), (y 34, aJ V 40 (gg 0)), (y 35, .inr (7, [.ref (y 36), .int (pp 38), .int (pp 39)])), (y 36, aJ V 40 (gg 1)), (y 37, .inr (7, [.ref (y 38), .int (pp 40), .int (pp 41)])), (y 38, aJ V 40 (gg 2)), (y 39, .inr (7, [.ref (y 40), .int (pp 42), .int (pp 43)])), (y 40, aJ V 40 (gg 3)), (y 41, .inr (3, [.ref (y 42), .int (pp 44), .int (pp 45), .int (pp 46), .int (pp 47)])), (y 42, .inr (1, [.int (pp 48), .int (pp 49), .int (pp 50), .int (pp 51), .int (pp 52), .int (pp 53), .ref (y 43), .ref (y 44), .ref (y 45), .ref (y 46), .ref (y 47), .ref (y 48), .ref (y 49), .int (pp 54), .int (pp 55), .int (pp 56), .int (pp 57), .int (pp 58)])), (y 43, aI V 4 (ff 24)), (y 44, aI V 4 (ff 25)), (y 45, aI V 4 (ff 26)), (y 46, aI V 8 (ff 27)), (y 47, aI V 8 (ff 28)), (y 48, aI V 8 (ff 29)), (y 49, aI V 900 (ff 30)), (y 50, .inr (3, [.ref (y 51), .int (pp 59), .int (pp 60), .int (pp 61), .int (pp 62)])), (y 51, .inr (1, [.int (pp 63), .int (pp 64), .int (pp 65), .int (pp 66), .int (pp 67), .int (pp 68), .ref (y 52), .ref (y 53), .ref (y 54), .ref (y 55), .ref (y 56), .ref (y 57), .ref (y 58), .int (pp 69), .int (pp 70), .int (pp 71), .int (pp 72), .int (pp 73)])), (y 52, aI V 4 (ff 31)), (y 53, aI V 4 (ff 32)), (y 54, aI V 4 (ff 33)), (y 55, aI V 8 (ff 34)), (y 56, aI V 8 (ff 35)), (y 57, aI V 8 (ff 36)), (y 58, aI V 900 (ff 37))]) (rest := []) G (k_X9_chance_2 l V y a1 a2 a3 a4 (pp 0) (.null) (pp 1) (pp 2) (pp 3) (pp 4) (pp 5) (pp 6) (pp 7) (pp 8) (pp 9) (pp 10) (pp 11) (pp 12) (pp 13) (pp 14) (ff 1) (ff 7) (ff 15) (ff 16) (ff 17) (hp 0) (hp 5) (hp 6) (hp 7) (hp 10) (hp 11) (hp 12) (hp 13) (hp 14) hg.1 hg.2.1 hg.2.2.1 hg.2.2.2.1 hg.2.2.2.2.1 hg.2.2.2.2.2.1 hg.2.2.2.2.2.2.1 hg.2.2.2.2.2.2.2) mt_X9_chance q_5_154 ⟨Nat.le_of_ble_eq_true rfl, Nat.le_of_ble_eq_true rfl⟩ hP hD hS [0, 2, 3, 9, 19, 20, 21, 22] [1, 4, 5, 6, 7, 8, 10, 11, 12, 13, 14, 15, 16, 17, 18, 23, 24, 25, 26, 27, 28, 29, 30, 31, 32, 33, 34, 35, 36, 37, 38, 39, 40, 41, 42, 43, 44, 45, 46, 47, 48, 49, 50, 51, 52, 53, 54, 55, 56, 57, 58] (by decide +kernel) rfl rfl (by decide +kernel) (by decide +kernel) 0 rfl rfl rfl rfl hlz rfl (Nat.le_of_ble_eq_true rfl) dL_law_1263 (by omega) (fun r w H locs hw hP hD hS => ?_)
  refine Exists.elim hw (fun n1 hw => ?_)
  refine Exists.elim hw (fun L1 hw => ?_)
  refine Exists.elim hw (fun Yw1 hw => ?_)
  refine Exists.elim hw (fun wa1 hw => ?_)
  refine Exists.elim hw (fun wb1 hw => ?_)
  refine Exists.elim hw (fun g0 hw => ?_)
  refine Exists.elim hw (fun g1 hw => ?_)
  refine Exists.elim hw (fun g2 hw => ?_)
  refine Exists.elim hw (fun ww0 hw => ?_)
  refine Exists.elim hw (fun ww5 hw => ?_)
  refine Exists.elim hw (fun ww6 hw => ?_)
  refine Exists.elim hw (fun ww14 hw => ?_)
  refine Exists.elim hw (fun ww15 hw => ?_)
  refine Exists.elim hw (fun ww16 hw => ?_)
  refine Exists.elim hw (fun wew1 hw => ?_)
  refine Exists.elim hw (fun wew2 hw => ?_)
  refine Exists.elim hw (fun wew3 hw => ?_)
  refine Exists.elim hw (fun wew4 hw => ?_)
  refine Exists.elim hw (fun wew5 hw => ?_)
  refine Exists.elim hw (fun wew6 hw => ?_)
  refine Exists.elim hw (fun wew7 hw => ?_)
  refine Exists.elim hw (fun wew8 hw => ?_)
  refine Exists.elim hw (fun wew9 hw => ?_)
  refine And.elim (fun hn1 hw => ?_) hw
  refine And.elim (fun hL1 hw => ?_) hw
  refine And.elim (fun bww0 hw => ?_) hw
  refine And.elim (fun bww5 hw => ?_) hw
  refine And.elim (fun bww6 hw => ?_) hw
  refine And.elim (fun bww14 hw => ?_) hw
  refine And.elim (fun bww16 hw => ?_) hw
  refine And.elim (fun bwew1 hw => ?_) hw
  refine And.elim (fun bwew4 hw => ?_) hw
  refine And.elim (fun bwew5 hw => ?_) hw
  refine And.elim (fun bwew6 hw => ?_) hw
  refine And.elim (fun bwew7 hw => ?_) hw
  refine And.elim (fun g_0 hw => ?_) hw
  refine And.elim (fun g_1 hw => ?_) hw
  refine And.elim (fun g_2 hw => ?_) hw
  refine And.elim (fun g_3 hw => ?_) hw
  subst hw
  have hP := ptP (ws' := wB V y pp (up9 (up9 (up9 ff 15 g0) 16 g1) 17 g2) gg (.ref (Yw1 0)) .null ++ (wY V y n1 L1 Yw1 wa1 wb1 (br9 17 (br9 8 (br9 4 (br9 2 (br9 1 (lf9 ww0) (fun _ => 0)) (fun _ => 0)) (br9 6 (br9 5 (fun _ => 0) (lf9 ww5)) (br9 7 (lf9 ww6) (fun _ => 0)))) (br9 12 (fun _ => 0) (br9 14 (fun _ => 0) (br9 15 (lf9 ww14) (br9 16 (lf9 ww15) (lf9 ww16)))))) (fun _ => 0)) (br9 9 (br9 4 (br9 2 (br9 1 (lf9 wew1) (lf9 wew2)) (br9 3 (lf9 wew3) (lf9 wew4))) (br9 6 (br9 5 (lf9 wew5) (lf9 wew6)) (br9 7 (lf9 wew7) (br9 8 (lf9 wew8) (lf9 wew9))))) (fun _ _ => 0)) ++ [])) hP [51, 0, 52, 53, 1, 2, 3, 4, 5, 54, 6, 7, 8, 9, 10, 11, 12, 13, 14, 55, 56, 57, 58, 15, 16, 17, 18, 19, 20, 21, 22, 23, 24, 25, 26, 27, 28, 29, 30, 31, 32, 33, 34, 35, 36, 37, 38, 39, 40, 41, 42, 43, 44, 45, 46, 47, 48, 49, 50, 59, 60, 61, 62, 63, 64, 65, 66, 67, 68] rfl
  have hD := hD.part (cx := wB V y pp (up9 (up9 (up9 ff 15 g0) 16 g1) 17 g2) gg (.ref (Yw1 0)) .null ++ (wY V y n1 L1 Yw1 wa1 wb1 (br9 17 (br9 8 (br9 4 (br9 2 (br9 1 (lf9 ww0) (fun _ => 0)) (fun _ => 0)) (br9 6 (br9 5 (fun _ => 0) (lf9 ww5)) (br9 7 (lf9 ww6) (fun _ => 0)))) (br9 12 (fun _ => 0) (br9 14 (fun _ => 0) (br9 15 (lf9 ww14) (br9 16 (lf9 ww15) (lf9 ww16)))))) (fun _ => 0)) (br9 9 (br9 4 (br9 2 (br9 1 (lf9 wew1) (lf9 wew2)) (br9 3 (lf9 wew3) (lf9 wew4))) (br9 6 (br9 5 (lf9 wew5) (lf9 wew6)) (br9 7 (lf9 wew7) (br9 8 (lf9 wew8) (lf9 wew9))))) (fun _ _ => 0)) ++ [])) [51, 0, 52, 53, 1, 2, 3, 4, 5, 54, 6, 7, 8, 9, 10, 11, 12, 13, 14, 55, 56, 57, 58, 15, 16, 17, 18, 19, 20, 21, 22, 23, 24, 25, 26, 27, 28, 29, 30, 31, 32, 33, 34, 35, 36, 37, 38, 39, 40, 41, 42, 43, 44, 45, 46, 47, 48, 49, 50, 59, 60, 61, 62, 63, 64, 65, 66, 67, 68] (by decide +kernel) rfl
  exact kk r H locs (cells + 10) (slots + 46481) _ ⟨pp, (up9 (up9 (up9 ff 15 g0) 16 g1) 17 g2), gg, .ref (Yw1 0), .null, _, hp, ht0, ht1, ht2, ht3, ht4, Or.inr ⟨n1, L1, Yw1, wa1, wb1, (br9 17 (br9 8 (br9 4 (br9 2 (br9 1 (lf9 ww0) (fun _ => 0)) (fun _ => 0)) (br9 6 (br9 5 (fun _ => 0) (lf9 ww5)) (br9 7 (lf9 ww6) (fun _ => 0)))) (br9 12 (fun _ => 0) (br9 14 (fun _ => 0) (br9 15 (lf9 ww14) (br9 16 (lf9 ww15) (lf9 ww16)))))) (fun _ => 0)), (br9 9 (br9 4 (br9 2 (br9 1 (lf9 wew1) (lf9 wew2)) (br9 3 (lf9 wew3) (lf9 wew4))) (br9 6 (br9 5 (lf9 wew5) (lf9 wew6)) (br9 7 (lf9 wew7) (br9 8 (lf9 wew8) (lf9 wew9))))) (fun _ _ => 0)), [], 0, ⟨hn1, hL1, bww0, bww5, bww6, bww14, bww16, bwew1, bwew4, bwew5, bwew6, bwew7, g_0, g_1, g_2⟩, (Or.inl ⟨rfl, rfl, rfl⟩), (show PTn _ _ _ _ ww0 from by rw [g_3]; exact PTn_0 10 46481 hc (hp 5) (by decide) (by decide) n1 0), rfl, rfl⟩, rfl⟩ hP hD hS
set_option maxHeartbeats 4000000 in
set_option maxRecDepth 100000 in
theorem cx_36_a {p : Program} {e : Env} {s : State} {m : MethodId} {below : List Frame} {meth : Method} {c : Code} {l : Launch} {b Lk : Nat} {xs : Nat → Int32} {V : GV} {y : Nat → Nat} {τ : Nat → Int32} {H : Heap} {locs : List Loc} {cells slots : Nat} {wz : va_W} {ls : Array Slot} (G : LCx p s m meth c b Lk xs V) (a1 : Int32) (a2 : Int32) (a3 : Int32) (a4 : Int32) {pp : Nat → Int32} {ff : Nat → Nat → Int32} {gg : Nat → Nat → Int64} {n L : Nat} {Yw : Nat → Nat} {wa wb : Nat} {qq : Nat → Int32} {ee : Nat → Nat → Int32} {o11 : Value} {fr : va_W} {fm : Nat} (hp : ivT tX pp) (ht0 : pp 0 = τ 0) (ht1 : pp 15 = τ 1) (ht2 : pp 16 = τ 2) (ht3 : BTs (ff 0) (tauT τ)) (ht4 : (∀ j, iv (-128) 127 ((ff 0) j))) (hW : WFa n L qq ee) (hF : RFo V o11 fr fm) (hT : PTn cells slots n fm (qq 0)) (hq : pp 5 ≤ qq 0) (hP : va_P V.1 vwCl (wB V y pp ff gg (.ref (Yw 0)) o11 ++ (wY V y n L Yw wa wb qq ee ++ fr) ++ wz) H) (hD : va_D (AAs s) (wB V y pp ff gg (.ref (Yw 0)) o11 ++ (wY V y n L Yw wa wb qq ee ++ fr) ++ wz)) (hS : va_S (AAs s) s.heap H locs) (hlz : ls.size = 4) (kk : (∀ (r : Int32) (H : Heap) (locs : List Loc) (cells slots : Nat) (wx : va_W), KX V y cells slots τ wx → va_P V.1 vwCl (wx ++ wz) H → va_D (AAs s) (wx ++ wz) → va_S (AAs s) s.heap H locs → W p l e room_1 s m #[Value.ref b] below meth c H locs cells slots (lw_Z below #[Value.ref b] s) (F0 m 1266 ls [.int r]))) : W p l e room_1 s m #[Value.ref b] below meth c H locs cells slots (lw_Z below #[Value.ref b] s) (F0 m 1263 ls [.int a4, .int a3, .int a2, .int a1, .ref (y 0)]) := by
  obtain ⟨hn, hL, hw_q0, hw_q5, hw_q6, hw_q14, hw_q16, hw_tYw1, hw_tYw4, hw_tYw5, hw_tYw6, hw_tYw7, hw_WA, hw_WB, hw_WC⟩ := id hW
  rw [as4] at hP hD
  refine cXI (X := wB V y pp ff gg (.ref (Yw 0)) o11 ++ wY V y n L Yw wa wb qq ee) (pl := fr ++ wz) (wr := [(y 1, aB V 900 (ff 0)), (y 4, aI V 4 (ff 2)), (y 5, aI V 4 (ff 3)), (y 6, aI V 8 (ff 4)), (y 7, aI V 8 (ff 5)), (y 8, aI V 8 (ff 6)), (y 10, .inr (6, [.ref (y 11), .int (pp 15), .int (pp 16), .ref (y 1), .int (pp 17), .int (pp 18), .int (pp 19), .int (pp 20), .int (pp 21)])), (y 11, .inr (1, [.int (pp 22), .int (pp 23), .int (pp 24), .int (pp 25), .int (pp 26), .int (pp 27), .ref (y 12), .ref (y 13), .ref (y 14), .ref (y 15), .ref (y 16), .ref (y 17), .ref (y 18), .int (pp 28), .int (pp 29), .int (pp 30), .int (pp 31), .int (pp 32)])), (y 12, aI V 4 (ff 8)), (y 13, aI V 4 (ff 9)), (y 14, aI V 4 (ff 10)), (y 15, aI V 8 (ff 11)), (y 16, aI V 8 (ff 12)), (y 17, aI V 8 (ff 13)), (y 18, aI V 900 (ff 14)), (y 23, aI V 10 (ff 18)), (y 24, aI V 10 (ff 19)), (y 25, .inr (0, [.int (pp 33), .int (pp 34)])), (y 26, .inr (5, [.ref (y 27), .ref (y 28), .ref (y 29), .int (pp 35)])), (y 27, aI V 10 (ff 20)), (y 28, aI V 10 (ff 21)), (y 29, aI V 10 (ff 22)), (y 30, aT V 4 (va_up (va_up (va_up (va_up (fun _ => none) 0 (some (y 33))) 1 (some (y 35))) 2 (some (y 37))) 3 (some (y 39)))), (y 31, aM V 2 (va_up (va_up (fun _ => none) 0 (some (y 41))) 1 (some (y 50)))), (y 32, aI V 10 (ff 23)), (y 33, .inr (7, [.ref (y 34), .int (pp 36), .int (pp 37)])), (y 34, aJ V 40 (gg 0)), (y 35, .inr (7, [.ref (y 36), .int (pp 38), .int (pp 39)])), (y 36, aJ V 40 (gg 1)), (y 37, .inr (7, [.ref (y 38), .int (pp 40), .int (pp 41)])), (y 38, aJ V 40 (gg 2)), (y 39, .inr (7, [.ref (y 40), .int (pp 42), .int (pp 43)])), (y 40, aJ V 40 (gg 3)), (y 41, .inr (3, [.ref (y 42), .int (pp 44), .int (pp 45), .int (pp 46), .int (pp 47)])), (y 42, .inr (1, [.int (pp 48), .int (pp 49), .int (pp 50), .int (pp 51), .int (pp 52), .int (pp 53), .ref (y 43), .ref (y 44), .ref (y 45), .ref (y 46), .ref (y 47), .ref (y 48), .ref (y 49), .int (pp 54), .int (pp 55), .int (pp 56), .int (pp 57), .int (pp 58)])), (y 43, aI V 4 (ff 24)), (y 44, aI V 4 (ff 25)), (y 45, aI V 4 (ff 26)), (y 46, aI V 8 (ff 27)), (y 47, aI V 8 (ff 28)), (y 48, aI V 8 (ff 29)), (y 49, aI V 900 (ff 30)), (y 50, .inr (3, [.ref (y 51), .int (pp 59), .int (pp 60), .int (pp 61), .int (pp 62)])), (y 51, .inr (1, [.int (pp 63), .int (pp 64), .int (pp 65), .int (pp 66), .int (pp 67), .int (pp 68), .ref (y 52), .ref (y 53), .ref (y 54), .ref (y 55), .ref (y 56), .ref (y 57), .ref (y 58), .int (pp 69), .int (pp 70), .int (pp 71), .int (pp 72), .int (pp 73)])), (y 52, aI V 4 (ff 31)), (y 53, aI V 4 (ff 32)), (y 54, aI V 4 (ff 33)), (y 55, aI V 8 (ff 34)), (y 56, aI V 8 (ff 35)), (y 57, aI V 8 (ff 36)), (y 58, aI V 900 (ff 37)), (Yw 7, aI V n (ee 6))]) (rest := []) G (k_X9_chance_0 l V n L Yw y a1 a2 a3 a4 (pp 0) o11 (pp 1) (pp 2) (pp 3) (pp 4) (pp 5) (pp 6) (pp 7) (pp 8) (pp 9) (pp 10) (pp 11) (pp 12) (pp 13) (pp 14) (ff 1) (ff 7) (ff 15) (ff 16) (ff 17) (qq 0) wa (qq 5) (qq 6) wb (qq 14) (qq 15) (qq 16) (ee 0) (ee 1) (ee 2) (ee 3) (ee 4) (ee 5) (ee 7) (ee 8) hn hL hq (hp 0) (hp 5) (hp 6) (hp 7) (hp 10) (hp 11) (hp 12) (hp 13) (hp 14) hw_q0 hw_q5 hw_q6 hw_q14 hw_q16 hw_tYw1 hw_tYw4 hw_tYw5 hw_tYw6 hw_WA hw_WB hw_WC) mt_X9_chance q_5_154 ⟨Nat.le_of_ble_eq_true rfl, Nat.le_of_ble_eq_true rfl⟩ hP hD hS [0, 2, 3, 9, 19, 20, 21, 22, 59, 60, 61, 62, 63, 64, 65, 67, 68] [1, 4, 5, 6, 7, 8, 10, 11, 12, 13, 14, 15, 16, 17, 18, 23, 24, 25, 26, 27, 28, 29, 30, 31, 32, 33, 34, 35, 36, 37, 38, 39, 40, 41, 42, 43, 44, 45, 46, 47, 48, 49, 50, 51, 52, 53, 54, 55, 56, 57, 58, 66] (by decide +kernel) rfl rfl (by decide +kernel) (by decide +kernel) 0 rfl rfl rfl rfl hlz rfl (Nat.le_of_ble_eq_true rfl) dL_law_1263 (PTn_room hT hw_q0) (fun r w H locs hw hP hD hS => ?_)
  refine Exists.elim hw (fun g0 hw => ?_)
  refine Exists.elim hw (fun g1 hw => ?_)
  refine Exists.elim hw (fun g2 hw => ?_)
  refine Exists.elim hw (fun wa2 hw => ?_)
  refine Exists.elim hw (fun v4 hw => ?_)
  refine Exists.elim hw (fun v5 hw => ?_)
  refine Exists.elim hw (fun wb2 hw => ?_)
  refine Exists.elim hw (fun v7 hw => ?_)
  refine Exists.elim hw (fun v8 hw => ?_)
  refine Exists.elim hw (fun v9 hw => ?_)
  refine Exists.elim hw (fun g10 hw => ?_)
  refine Exists.elim hw (fun g11 hw => ?_)
  refine Exists.elim hw (fun g12 hw => ?_)
  refine Exists.elim hw (fun g13 hw => ?_)
  refine Exists.elim hw (fun g14 hw => ?_)
  refine Exists.elim hw (fun g15 hw => ?_)
  refine Exists.elim hw (fun g16 hw => ?_)
  refine Exists.elim hw (fun g17 hw => ?_)
  refine And.elim (fun bv4 hw => ?_) hw
  refine And.elim (fun bv5 hw => ?_) hw
  refine And.elim (fun bv7 hw => ?_) hw
  refine And.elim (fun bv9 hw => ?_) hw
  refine And.elim (fun bg10 hw => ?_) hw
  refine And.elim (fun bg13 hw => ?_) hw
  refine And.elim (fun bg14 hw => ?_) hw
  refine And.elim (fun bg15 hw => ?_) hw
  refine And.elim (fun g_0 hw => ?_) hw
  refine And.elim (fun g_1 hw => ?_) hw
  refine And.elim (fun g_2 hw => ?_) hw
  subst hw
  have hP := ptP (ws' := wB V y pp (up9 (up9 (up9 ff 15 g0) 16 g1) 17 g2) gg (.ref (Yw 0)) o11 ++ wY V y n L Yw wa2 wb2 (br9 17 (br9 8 (br9 4 qq (br9 6 (br9 5 qq (lf9 v4)) (br9 7 (lf9 v5) qq))) (br9 12 qq (br9 14 qq (br9 15 (lf9 v7) (br9 16 (lf9 v8) (lf9 v9)))))) qq) (br9 9 (br9 4 (br9 2 (br9 1 (lf9 g10) (lf9 g11)) (br9 3 (lf9 g12) (lf9 g13))) (br9 6 (br9 5 (lf9 g14) (lf9 g15)) (br9 7 ee (br9 8 (lf9 g16) (lf9 g17))))) ee)) hP [52, 0, 53, 54, 1, 2, 3, 4, 5, 55, 6, 7, 8, 9, 10, 11, 12, 13, 14, 56, 57, 58, 59, 15, 16, 17, 18, 19, 20, 21, 22, 23, 24, 25, 26, 27, 28, 29, 30, 31, 32, 33, 34, 35, 36, 37, 38, 39, 40, 41, 42, 43, 44, 45, 46, 47, 48, 49, 50, 60, 61, 62, 63, 64, 65, 66, 51, 67, 68] rfl
  have hD := hD.part (cx := wB V y pp (up9 (up9 (up9 ff 15 g0) 16 g1) 17 g2) gg (.ref (Yw 0)) o11 ++ wY V y n L Yw wa2 wb2 (br9 17 (br9 8 (br9 4 qq (br9 6 (br9 5 qq (lf9 v4)) (br9 7 (lf9 v5) qq))) (br9 12 qq (br9 14 qq (br9 15 (lf9 v7) (br9 16 (lf9 v8) (lf9 v9)))))) qq) (br9 9 (br9 4 (br9 2 (br9 1 (lf9 g10) (lf9 g11)) (br9 3 (lf9 g12) (lf9 g13))) (br9 6 (br9 5 (lf9 g14) (lf9 g15)) (br9 7 ee (br9 8 (lf9 g16) (lf9 g17))))) ee)) [52, 0, 53, 54, 1, 2, 3, 4, 5, 55, 6, 7, 8, 9, 10, 11, 12, 13, 14, 56, 57, 58, 59, 15, 16, 17, 18, 19, 20, 21, 22, 23, 24, 25, 26, 27, 28, 29, 30, 31, 32, 33, 34, 35, 36, 37, 38, 39, 40, 41, 42, 43, 44, 45, 46, 47, 48, 49, 50, 60, 61, 62, 63, 64, 65, 66, 51, 67, 68] (by decide +kernel) rfl
  rw [← as4] at hP hD
  exact kk r H locs (cells + 0) (slots + 0) _ ⟨pp, (up9 (up9 (up9 ff 15 g0) 16 g1) 17 g2), gg, .ref (Yw 0), o11, _, hp, ht0, ht1, ht2, ht3, ht4, Or.inr ⟨n, L, Yw, wa2, wb2, (br9 17 (br9 8 (br9 4 qq (br9 6 (br9 5 qq (lf9 v4)) (br9 7 (lf9 v5) qq))) (br9 12 qq (br9 14 qq (br9 15 (lf9 v7) (br9 16 (lf9 v8) (lf9 v9)))))) qq), (br9 9 (br9 4 (br9 2 (br9 1 (lf9 g10) (lf9 g11)) (br9 3 (lf9 g12) (lf9 g13))) (br9 6 (br9 5 (lf9 g14) (lf9 g15)) (br9 7 ee (br9 8 (lf9 g16) (lf9 g17))))) ee), fr, fm, ⟨hn, hL, hw_q0, bv4, bv5, bv7, bv9, bg10, bg13, bg14, bg15, hw_tYw7, g_0, g_1, g_2⟩, hF, hT, rfl, rfl⟩, rfl⟩ hP hD hS
