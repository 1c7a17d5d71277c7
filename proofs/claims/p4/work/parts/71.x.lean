theorem q_2_85 : Cond.code yX9_feed prog_1_method_2_code 6 (some FieldType.int) ∈ gw := gw_2 (i := 85) (rfl) rfl
theorem q_2_83 : Cond.instanceMethod yX9_feed ∈ gw := gw_2 (i := 83) (by decide +kernel) rfl
theorem q_2_84 : Cond.selects "BeaconDelay" yX9_feed yX9_feed ∈ gw := gw_2 (i := 84) (by decide +kernel) rfl
theorem mt_X9_feed : MtV yX9_feed cX9_feed 6 (some .int) 5 := ⟨⟨q_2_85, q_1_1, by decide +kernel, by decide +kernel, by decide +kernel⟩, q_2_83, q_2_84⟩
theorem q_2_82 : Cond.methodLink "BeaconDelayLaw" 13 yX9_feed ∈ gw := gw_2 (i := 82) (by decide +kernel) rfl
theorem dL_law_250 : decode cL_law 250 = .ok (.invokevirtual 13, 3) := by decide +kernel
set_option maxHeartbeats 4000000 in
set_option maxRecDepth 100000 in
theorem cx_0_s {p : Program} {e : Env} {s : State} {m : MethodId} {below : List Frame} {meth : Method} {c : Code} {l : Launch} {b Lk : Nat} {xs : Nat → Int32} {V : GV} {y : Nat → Nat} {τ : Nat → Int32} {H : Heap} {locs : List Loc} {cells slots : Nat} {wz : va_W} {ls : Array Slot} (G : LCx p s m meth c b Lk xs V) (a1 : Int32) (a2 : Int32) (a3 : Int32) (a4 : Int32) (a5 : Int32) {pp : Nat → Int32} {ff : Nat → Nat → Int32} {gg : Nat → Nat → Int64} {o10 o11 : Value} {rest : va_W} (hp : ivT tX pp) (ht0 : pp 0 = τ 0) (ht1 : pp 15 = τ 1) (ht2 : pp 16 = τ 2) (ht3 : BTs (ff 0) (tauT τ)) (ht4 : (∀ j, iv (-128) 127 ((ff 0) j))) (hR : RRo V y cells slots o10 o11 rest)  (hP : va_P V.1 vwCl (wB V y pp ff gg o10 o11 ++ rest ++ wz) H) (hD : va_D (AAs s) (wB V y pp ff gg o10 o11 ++ rest ++ wz)) (hS : va_S (AAs s) s.heap H locs) (hlz : ls.size = 4) (kk : (∀ (r : Int32) (H : Heap) (locs : List Loc) (cells slots : Nat) (wx : va_W), KX V y cells slots (feP a1 a2 a3 a4 a5 τ) wx → va_P V.1 vwCl (wx ++ wz) H → va_D (AAs s) (wx ++ wz) → va_S (AAs s) s.heap H locs → W p l e room_1 s m #[Value.ref b] below meth c H locs cells slots (lw_Z below #[Value.ref b] s) (F0 m 253 ls [.int r]))) : W p l e room_1 s m #[Value.ref b] below meth c H locs cells slots (lw_Z below #[Value.ref b] s) (F0 m 250 ls [.int a5, .int a4, .int a3, .int a2, .int a1, .ref (y 0)]) := by
  rw [as3] at hP hD
  refine cSI (X := wB V y pp ff gg o10 o11) (pl := rest ++ wz) (rest := []) G (k_X9_feed_0 l V y a1 a2 a3 a4 a5 (pp 0) o10 o11 (pp 1) (pp 2) (pp 3) (ff 0) (hp 0) ht4) mt_X9_feed q_2_82 ⟨Nat.le_of_ble_eq_true rfl, Nat.le_of_ble_eq_true rfl⟩ hP hD hS [0, 1] [0, 0] (by decide) (by decide +kernel) rfl 0 rfl rfl rfl rfl hlz rfl (Nat.le_of_ble_eq_true rfl) dL_law_250 hR.room (fun r w H locs hw hPD hS => ?_)
  refine Exists.elim hw (fun v0 hw => ?_)
  refine Exists.elim hw (fun g1 hw => ?_)
  refine And.elim (fun bv0 hw => ?_) hw
  refine And.elim (fun bg1 hw => ?_) hw
  refine And.elim (fun br hw => ?_) hw
  refine And.elim (fun ef hw => ?_) hw
  refine And.elim (fun g_0 hw => ?_) hw
  refine And.elim (fun g_1 hw => ?_) hw
  subst hw
  obtain ⟨hP, hD⟩ := hPD (wB V y (up9 pp 0 v0) (up9 ff 0 g1) gg o10 o11) rfl rfl
  rw [← as3] at hP hD
  exact kk r H locs (cells + 0) (slots + 0) _ ⟨(up9 pp 0 v0), (up9 ff 0 g1), gg, o10, o11, rest, (ivUp 0 hp bv0), (show v0 = (feP a1 a2 a3 a4 a5 τ) 0 from by rw [g_0, ht0]; first | done | rfl), ht1, ht2, (show BTs g1 (tauT (feP a1 a2 a3 a4 a5 τ)) from by rw [g_1, ht0, tauT_f]; exact BTs_f _ _ _ _ _ _ ht3), bg1, hR, rfl⟩ hP hD hS
set_option maxHeartbeats 4000000 in
set_option maxRecDepth 100000 in
theorem cx_0 {p : Program} {e : Env} {s : State} {m : MethodId} {below : List Frame} {meth : Method} {c : Code} {l : Launch} {b Lk : Nat} {xs : Nat → Int32} {V : GV} {y : Nat → Nat} {τ : Nat → Int32} {H : Heap} {locs : List Loc} {cells slots : Nat} {wz : va_W} {ls : Array Slot} (G : LCx p s m meth c b Lk xs V) (a1 : Int32) (a2 : Int32) (a3 : Int32) (a4 : Int32) (a5 : Int32) {wx : va_W} (kx : KX V y cells slots τ wx) (hP : va_P V.1 vwCl (wx ++ wz) H) (hD : va_D (AAs s) (wx ++ wz)) (hS : va_S (AAs s) s.heap H locs) (hlz : ls.size = 4) (kk : (∀ (r : Int32) (H : Heap) (locs : List Loc) (cells slots : Nat) (wx : va_W), KX V y cells slots (feP a1 a2 a3 a4 a5 τ) wx → va_P V.1 vwCl (wx ++ wz) H → va_D (AAs s) (wx ++ wz) → va_S (AAs s) s.heap H locs → W p l e room_1 s m #[Value.ref b] below meth c H locs cells slots (lw_Z below #[Value.ref b] s) (F0 m 253 ls [.int r]))) : W p l e room_1 s m #[Value.ref b] below meth c H locs cells slots (lw_Z below #[Value.ref b] s) (F0 m 250 ls [.int a5, .int a4, .int a3, .int a2, .int a1, .ref (y 0)]) := by
  obtain ⟨pp, ff, gg, o10, o11, rest, hp, ht0, ht1, ht2, ht3, ht4, hR, rfl⟩ := kx
  exact cx_0_s G _ _ _ _ _ hp ht0 ht1 ht2 ht3 ht4 hR hP hD hS hlz kk
theorem q_6_109 : Cond.code yX10_feed prog_12_method_5_code 8 (some FieldType.int) ∈ gw := gw_6 (i := 109) (rfl) rfl
theorem q_6_107 : Cond.instanceMethod yX10_feed ∈ gw := gw_6 (i := 107) (by decide +kernel) rfl
theorem q_6_108 : Cond.selects "BeaconDelayModel" yX10_feed yX10_feed ∈ gw := gw_6 (i := 108) (by decide +kernel) rfl
theorem mt_X10_feed : MtV yX10_feed cX10_feed 8 (some .int) 5 := ⟨⟨q_6_109, q_1_9, by decide +kernel, by decide +kernel, by decide +kernel⟩, q_6_107, q_6_108⟩
theorem q_6_106 : Cond.methodLink "BeaconDelayLaw" 17 yX10_feed ∈ gw := gw_6 (i := 106) (by decide +kernel) rfl
theorem dL_law_280 : decode cL_law 280 = .ok (.invokevirtual 17, 3) := by decide +kernel
set_option maxHeartbeats 4000000 in
set_option maxRecDepth 100000 in
theorem cz_0 {p : Program} {e : Env} {s : State} {m : MethodId} {below : List Frame} {meth : Method} {c : Code} {l : Launch} {b Lk : Nat} {xs : Nat → Int32} {V : GV} {z : Nat → Nat} {τ : Nat → Int32} {H : Heap} {locs : List Loc} {cells slots : Nat} {wx : va_W} {ls : Array Slot} {rest : List Value} (G : LCx p s m meth c b Lk xs V) (a1 : Int32) (a2 : Int32) (a3 : Int32) (a4 : Int32) (a5 : Int32) {wz : va_W} (kz : KZ V z τ wz) (hP : va_P V.1 vwCl (wx ++ wz) H) (hD : va_D (AAs s) (wx ++ wz)) (hS : va_S (AAs s) s.heap H locs) (hcs : cells + 0 ≤ 600000 ∧ slots + 0 ≤ 7302250) (hro : (rest.map fun v => v.category).sum ≤ 8) (hlz : ls.size = 4) (kk : (∀ (r : Int32) (H : Heap) (locs : List Loc) (wz : va_W), KZ V z (feP a1 a2 a3 a4 a5 τ) wz → va_P V.1 vwCl (wx ++ wz) H → va_D (AAs s) (wx ++ wz) → va_S (AAs s) s.heap H locs → W p l e room_1 s m #[Value.ref b] below meth c H locs cells slots (lw_Z below #[Value.ref b] s) (F0 m 283 ls (.int r :: rest)))) : W p l e room_1 s m #[Value.ref b] below meth c H locs cells slots (lw_Z below #[Value.ref b] s) (F0 m 280 ls (.int a5 :: .int a4 :: .int a3 :: .int a2 :: .int a1 :: .ref (z 0) :: rest)) := by
  obtain ⟨pz, fz, gz, hp, ht0, ht1, ht2, ht3, hz_tz1, hz_tz3, hz_tz4, hz_tz16, hz_tz17, hz_tz20, hz_tz21, hz_tz24, hz_tz25, hz_tz26, hz_tz27, hz_tz33, hz_tz34, hz_tz37, hz_tz38, hz_RW, rfl⟩ := kz
  replace hP := swP hP
  replace hD := swD hD
  refine cSI (X := wZ V z pz fz gz) (pl := wx) (rest := rest) G (k_X10_feed_0 l V z a1 a2 a3 a4 a5 (pz 0) (pz 5) (pz 6) (pz 7) (pz 8) (pz 9) (pz 10) (pz 11) (pz 12) (pz 13) (pz 14) (pz 18) (pz 19) (pz 22) (pz 23) (pz 29) (fz 2) (hp 5) (hp 6) (hp 7) (hp 8) (hp 10) (hp 11) (hp 12) (hp 13) (hp 14) (hp 18) (hp 22) (hp 29) hz_tz3) mt_X10_feed q_6_106 ⟨Nat.le_of_ble_eq_true rfl, Nat.le_of_ble_eq_true rfl⟩ hP hD hS [0, 3] [0, 2] (by decide) (by decide +kernel) rfl 0 rfl rfl rfl rfl hlz rfl hro dL_law_280 hcs (fun r w H locs hw hPD hS => ?_)
  refine Exists.elim hw (fun v0 hw => ?_)
  refine Exists.elim hw (fun v1 hw => ?_)
  refine Exists.elim hw (fun g2 hw => ?_)
  refine And.elim (fun bv1 hw => ?_) hw
  refine And.elim (fun bg2 hw => ?_) hw
  refine And.elim (fun br hw => ?_) hw
  refine And.elim (fun ef hw => ?_) hw
  refine And.elim (fun g_0 hw => ?_) hw
  refine And.elim (fun g_1 hw => ?_) hw
  subst hw
  obtain ⟨hP, hD⟩ := hPD (wZ V z (up9 (up9 pz 0 v0) 5 v1) (up9 fz 2 g2) gz) rfl rfl
  replace hP := swP hP
  replace hD := swD hD
  exact kk r H locs _ ⟨(up9 (up9 pz 0 v0) 5 v1), (up9 fz 2 g2), gz, (ivUp 5 (ivUp 0 hp (iv_top v0)) bv1), (show v1 = (feP a1 a2 a3 a4 a5 τ) 0 from by rw [g_0, ht0]; first | done | rfl), ht1, ht2, (show g2 = tauT (feP a1 a2 a3 a4 a5 τ) from by rw [g_1, ht3, ht0, tauT_f]), hz_tz1, bg2, hz_tz4, hz_tz16, hz_tz17, hz_tz20, hz_tz21, hz_tz24, hz_tz25, hz_tz26, hz_tz27, hz_tz33, hz_tz34, hz_tz37, hz_tz38, hz_RW, rfl⟩ hP hD hS
theorem q_2_93 : Cond.code yX9_coast prog_1_method_4_code 3 (some FieldType.int) ∈ gw := gw_2 (i := 93) (rfl) rfl
theorem q_2_91 : Cond.instanceMethod yX9_coast ∈ gw := gw_2 (i := 91) (by decide +kernel) rfl
theorem q_2_92 : Cond.selects "BeaconDelay" yX9_coast yX9_coast ∈ gw := gw_2 (i := 92) (by decide +kernel) rfl
theorem mt_X9_coast : MtV yX9_coast cX9_coast 3 (some .int) 1 := ⟨⟨q_2_93, q_1_1, by decide +kernel, by decide +kernel, by decide +kernel⟩, q_2_91, q_2_92⟩
theorem q_2_90 : Cond.methodLink "BeaconDelayLaw" 18 yX9_coast ∈ gw := gw_2 (i := 90) (by decide +kernel) rfl
theorem dL_law_293 : decode cL_law 293 = .ok (.invokevirtual 18, 3) := by decide +kernel
set_option maxHeartbeats 4000000 in
set_option maxRecDepth 100000 in
theorem cx_1_0 {p : Program} {e : Env} {s : State} {m : MethodId} {below : List Frame} {meth : Method} {c : Code} {l : Launch} {b Lk : Nat} {xs : Nat → Int32} {V : GV} {y : Nat → Nat} {τ : Nat → Int32} {H : Heap} {locs : List Loc} {cells slots : Nat} {wz : va_W} {ls : Array Slot} (G : LCx p s m meth c b Lk xs V) (a1 : Int32) {pp : Nat → Int32} {ff : Nat → Nat → Int32} {gg : Nat → Nat → Int64} (hp : ivT tX pp) (ht0 : pp 0 = τ 0) (ht1 : pp 15 = τ 1) (ht2 : pp 16 = τ 2) (ht3 : BTs (ff 0) (tauT τ)) (ht4 : (∀ j, iv (-128) 127 ((ff 0) j))) (hc : cells + 116 ≤ 600000 ∧ slots + 633553 ≤ 7302250)  (hP : va_P V.1 vwCl (wB V y pp ff gg .null .null ++ [] ++ wz) H) (hD : va_D (AAs s) (wB V y pp ff gg .null .null ++ [] ++ wz)) (hS : va_S (AAs s) s.heap H locs) (hlz : ls.size = 4) (kk : (∀ (r : Int32) (H : Heap) (locs : List Loc) (cells slots : Nat) (wx : va_W), KX V y cells slots (coP a1 τ) wx → va_P V.1 vwCl (wx ++ wz) H → va_D (AAs s) (wx ++ wz) → va_S (AAs s) s.heap H locs → W p l e room_1 s m #[Value.ref b] below meth c H locs cells slots (lw_Z below #[Value.ref b] s) (F0 m 296 ls [.int r]))) : W p l e room_1 s m #[Value.ref b] below meth c H locs cells slots (lw_Z below #[Value.ref b] s) (F0 m 293 ls [.int a1, .ref (y 0)]) := by
  refine cSI (X := wB V y pp ff gg .null .null ++ []) (pl := wz) (rest := []) G (k_X9_coast_0 l V y a1 (pp 0) (.null) (pp 1) (pp 2) (pp 3) (ff 0) (pp 4) (pp 5) (pp 6) (pp 7) (pp 8) (pp 9) (pp 10) (pp 11) (pp 12) (pp 13) (pp 14) (ff 1) (ff 2) (ff 3) (ff 4) (ff 5) (ff 6) (ff 7) (pp 15) (pp 16) (pp 17) (pp 18) (pp 19) (pp 20) (pp 21) (pp 22) (pp 23) (pp 24) (pp 25) (pp 26) (pp 27) (pp 28) (pp 29) (pp 30) (pp 31) (pp 32) (ff 8) (ff 9) (ff 10) (ff 11) (ff 12) (ff 13) (ff 14) (ff 15) (pp 35) (hp 0) ht4 (hp 5) (hp 6) (hp 7) (hp 10) (hp 11) (hp 12) (hp 13) (hp 14) (hp 17) (hp 19) (hp 20) (hp 23) (hp 24) (hp 25) (hp 28) (hp 29) (hp 30) (hp 31) (hp 32) (hp 35)) mt_X9_coast q_2_90 ⟨Nat.le_of_ble_eq_true rfl, Nat.le_of_ble_eq_true rfl⟩ hP hD hS [0, 1, 2, 3, 4, 5, 6, 7, 8, 9, 10, 11, 12, 13, 14, 15, 16, 17, 18, 19, 20, 26] [0, 0, 0, 0, 0, 0, 0, 0, 0, 0, 0, 0, 0, 0, 0, 0, 0, 0, 0, 0, 0, 5] (by decide) (by decide +kernel) rfl 0 rfl rfl rfl rfl hlz rfl (Nat.le_of_ble_eq_true rfl) dL_law_293 (by omega) (fun r w H locs hw hPD hS => ?_)
  refine Exists.elim hw (fun v0 hw => ?_)
  refine Exists.elim hw (fun v1 hw => ?_)
  refine Exists.elim hw (fun v2 hw => ?_)
  refine Exists.elim hw (fun v3 hw => ?_)
  refine Exists.elim hw (fun v4 hw => ?_)
  refine Exists.elim hw (fun v5 hw => ?_)
  refine Exists.elim hw (fun v6 hw => ?_)
  refine Exists.elim hw (fun v7 hw => ?_)
  refine Exists.elim hw (fun v8 hw => ?_)
  refine Exists.elim hw (fun v9 hw => ?_)
  refine Exists.elim hw (fun v10 hw => ?_)
  refine Exists.elim hw (fun v11 hw => ?_)
  refine Exists.elim hw (fun v12 hw => ?_)
  refine Exists.elim hw (fun v13 hw => ?_)
  refine Exists.elim hw (fun v14 hw => ?_)
  refine Exists.elim hw (fun g15 hw => ?_)
  refine Exists.elim hw (fun g16 hw => ?_)
  refine Exists.elim hw (fun g17 hw => ?_)
  refine Exists.elim hw (fun g18 hw => ?_)
  refine Exists.elim hw (fun g19 hw => ?_)
  refine Exists.elim hw (fun g20 hw => ?_)
  refine Exists.elim hw (fun g21 hw => ?_)
  refine Exists.elim hw (fun v22 hw => ?_)
  refine Exists.elim hw (fun v23 hw => ?_)
  refine Exists.elim hw (fun v24 hw => ?_)
  refine Exists.elim hw (fun v25 hw => ?_)
  refine Exists.elim hw (fun v26 hw => ?_)
  refine Exists.elim hw (fun v27 hw => ?_)
  refine Exists.elim hw (fun v28 hw => ?_)
  refine Exists.elim hw (fun v29 hw => ?_)
  refine Exists.elim hw (fun v30 hw => ?_)
  refine Exists.elim hw (fun v31 hw => ?_)
  refine Exists.elim hw (fun v32 hw => ?_)
  refine Exists.elim hw (fun v33 hw => ?_)
  refine Exists.elim hw (fun v34 hw => ?_)
  refine Exists.elim hw (fun v35 hw => ?_)
  refine Exists.elim hw (fun v36 hw => ?_)
  refine Exists.elim hw (fun v37 hw => ?_)
  refine Exists.elim hw (fun v38 hw => ?_)
  refine Exists.elim hw (fun v39 hw => ?_)
  refine Exists.elim hw (fun g40 hw => ?_)
  refine Exists.elim hw (fun g41 hw => ?_)
  refine Exists.elim hw (fun g42 hw => ?_)
  refine Exists.elim hw (fun g43 hw => ?_)
  refine Exists.elim hw (fun g44 hw => ?_)
  refine Exists.elim hw (fun g45 hw => ?_)
  refine Exists.elim hw (fun g46 hw => ?_)
  refine Exists.elim hw (fun g47 hw => ?_)
  refine Exists.elim hw (fun v48 hw => ?_)
  refine And.elim (fun bv0 hw => ?_) hw
  refine And.elim (fun bv5 hw => ?_) hw
  refine And.elim (fun bv6 hw => ?_) hw
  refine And.elim (fun bv7 hw => ?_) hw
  refine And.elim (fun bv10 hw => ?_) hw
  refine And.elim (fun bv11 hw => ?_) hw
  refine And.elim (fun bv12 hw => ?_) hw
  refine And.elim (fun bv13 hw => ?_) hw
  refine And.elim (fun bv14 hw => ?_) hw
  refine And.elim (fun bv24 hw => ?_) hw
  refine And.elim (fun bv26 hw => ?_) hw
  refine And.elim (fun bv27 hw => ?_) hw
  refine And.elim (fun bv30 hw => ?_) hw
  refine And.elim (fun bv31 hw => ?_) hw
  refine And.elim (fun bv32 hw => ?_) hw
  refine And.elim (fun bv35 hw => ?_) hw
  refine And.elim (fun bv36 hw => ?_) hw
  refine And.elim (fun bv37 hw => ?_) hw
  refine And.elim (fun bv38 hw => ?_) hw
  refine And.elim (fun bv39 hw => ?_) hw
  refine And.elim (fun bv48 hw => ?_) hw
  refine And.elim (fun ef hw => ?_) hw
  refine And.elim (fun g_0 hw => ?_) hw
  refine And.elim (fun g_1 hw => ?_) hw
  refine And.elim (fun g_2 hw => ?_) hw
  subst hw
  obtain ⟨hP, hD⟩ := hPD (wB V y (br9 36 (br9 18 (br9 9 (br9 4 (br9 2 (br9 1 (lf9 v0) (lf9 v1)) (br9 3 (lf9 v2) (lf9 v3))) (br9 6 (br9 5 (lf9 v4) (lf9 v5)) (br9 7 (lf9 v6) (br9 8 (lf9 v7) (lf9 v8))))) (br9 13 (br9 11 (br9 10 (lf9 v9) (lf9 v10)) (br9 12 (lf9 v11) (lf9 v12))) (br9 15 (br9 14 (lf9 v13) (lf9 v14)) (br9 16 (lf9 v22) (br9 17 (lf9 v23) (lf9 v24)))))) (br9 27 (br9 22 (br9 20 (br9 19 (lf9 v25) (lf9 v26)) (br9 21 (lf9 v27) (lf9 v28))) (br9 24 (br9 23 (lf9 v29) (lf9 v30)) (br9 25 (lf9 v31) (br9 26 (lf9 v32) (lf9 v33))))) (br9 31 (br9 29 (br9 28 (lf9 v34) (lf9 v35)) (br9 30 (lf9 v36) (lf9 v37))) (br9 33 (br9 32 (lf9 v38) (lf9 v39)) (br9 34 pp (br9 35 pp (lf9 v48))))))) pp) (br9 16 (br9 8 (br9 4 (br9 2 (br9 1 ff (lf9 g15)) (br9 3 (lf9 g16) (lf9 g17))) (br9 6 (br9 5 (lf9 g18) (lf9 g19)) (br9 7 (lf9 g20) (lf9 g21)))) (br9 12 (br9 10 (br9 9 (lf9 g40) (lf9 g41)) (br9 11 (lf9 g42) (lf9 g43))) (br9 14 (br9 13 (lf9 g44) (lf9 g45)) (br9 15 (lf9 g46) (lf9 g47))))) ff) gg .null .null ++ []) rfl rfl
  exact kk r H locs (cells + 0) (slots + 0) _ ⟨(br9 36 (br9 18 (br9 9 (br9 4 (br9 2 (br9 1 (lf9 v0) (lf9 v1)) (br9 3 (lf9 v2) (lf9 v3))) (br9 6 (br9 5 (lf9 v4) (lf9 v5)) (br9 7 (lf9 v6) (br9 8 (lf9 v7) (lf9 v8))))) (br9 13 (br9 11 (br9 10 (lf9 v9) (lf9 v10)) (br9 12 (lf9 v11) (lf9 v12))) (br9 15 (br9 14 (lf9 v13) (lf9 v14)) (br9 16 (lf9 v22) (br9 17 (lf9 v23) (lf9 v24)))))) (br9 27 (br9 22 (br9 20 (br9 19 (lf9 v25) (lf9 v26)) (br9 21 (lf9 v27) (lf9 v28))) (br9 24 (br9 23 (lf9 v29) (lf9 v30)) (br9 25 (lf9 v31) (br9 26 (lf9 v32) (lf9 v33))))) (br9 31 (br9 29 (br9 28 (lf9 v34) (lf9 v35)) (br9 30 (lf9 v36) (lf9 v37))) (br9 33 (br9 32 (lf9 v38) (lf9 v39)) (br9 34 pp (br9 35 pp (lf9 v48))))))) pp), (br9 16 (br9 8 (br9 4 (br9 2 (br9 1 ff (lf9 g15)) (br9 3 (lf9 g16) (lf9 g17))) (br9 6 (br9 5 (lf9 g18) (lf9 g19)) (br9 7 (lf9 g20) (lf9 g21)))) (br9 12 (br9 10 (br9 9 (lf9 g40) (lf9 g41)) (br9 11 (lf9 g42) (lf9 g43))) (br9 14 (br9 13 (lf9 g44) (lf9 g45)) (br9 15 (lf9 g46) (lf9 g47))))) ff), gg, .null, .null, [], (ivG_t 36 (ivG_b 18 (ivG_b 9 (ivG_b 4 (ivG_b 2 (ivG_b 1 (ivG_l 0 bv0) (ivG_l 1 (iv_top v1))) (ivG_b 3 (ivG_l 2 (iv_top v2)) (ivG_l 3 (iv_top v3)))) (ivG_b 6 (ivG_b 5 (ivG_l 4 (iv_top v4)) (ivG_l 5 bv5)) (ivG_b 7 (ivG_l 6 bv6) (ivG_b 8 (ivG_l 7 bv7) (ivG_l 8 (iv_top v8)))))) (ivG_b 13 (ivG_b 11 (ivG_b 10 (ivG_l 9 (iv_top v9)) (ivG_l 10 bv10)) (ivG_b 12 (ivG_l 11 bv11) (ivG_l 12 bv12))) (ivG_b 15 (ivG_b 14 (ivG_l 13 bv13) (ivG_l 14 bv14)) (ivG_b 16 (ivG_l 15 (iv_top v22)) (ivG_b 17 (ivG_l 16 (iv_top v23)) (ivG_l 17 bv24)))))) (ivG_b 27 (ivG_b 22 (ivG_b 20 (ivG_b 19 (ivG_l 18 (iv_top v25)) (ivG_l 19 bv26)) (ivG_b 21 (ivG_l 20 bv27) (ivG_l 21 (iv_top v28)))) (ivG_b 24 (ivG_b 23 (ivG_l 22 (iv_top v29)) (ivG_l 23 bv30)) (ivG_b 25 (ivG_l 24 bv31) (ivG_b 26 (ivG_l 25 bv32) (ivG_l 26 (iv_top v33)))))) (ivG_b 31 (ivG_b 29 (ivG_b 28 (ivG_l 27 (iv_top v34)) (ivG_l 28 bv35)) (ivG_b 30 (ivG_l 29 bv36) (ivG_l 30 bv37))) (ivG_b 33 (ivG_b 32 (ivG_l 31 bv38) (ivG_l 32 bv39)) (ivG_b 34 (ivG_p hp) (ivG_b 35 (ivG_p hp) (ivG_l 35 bv48))))))) hp), (show v0 = (coP a1 τ) 0 from by rw [g_0, ht0]; first | done | rfl), (show v22 = (coP a1 τ) 1 from by rw [g_1, ht0, ht1, coW_cg ht3 (by rw [← ht0]; exact (hp 0).2)]; first | done | rfl), (show v23 = (coP a1 τ) 2 from by rw [g_2, ht0, ht2, coA_cg ht3 (by rw [← ht0]; exact (hp 0).2)]; first | done | rfl), (by rw [tauT_c]; exact ht3), ht4, Or.inl ⟨rfl, rfl, rfl, hc⟩, rfl⟩ hP hD hS
set_option maxHeartbeats 4000000 in
set_option maxRecDepth 100000 in
theorem cx_1_a {p : Program} {e : Env} {s : State} {m : MethodId} {below : List Frame} {meth : Method} {c : Code} {l : Launch} {b Lk : Nat} {xs : Nat → Int32} {V : GV} {y : Nat → Nat} {τ : Nat → Int32} {H : Heap} {locs : List Loc} {cells slots : Nat} {wz : va_W} {ls : Array Slot} (G : LCx p s m meth c b Lk xs V) (a1 : Int32) {pp : Nat → Int32} {ff : Nat → Nat → Int32} {gg : Nat → Nat → Int64} {n L : Nat} {Yw : Nat → Nat} {wa wb : Nat} {qq : Nat → Int32} {ee : Nat → Nat → Int32} {o11 : Value} {fr : va_W} {fm : Nat} (hp : ivT tX pp) (ht0 : pp 0 = τ 0) (ht1 : pp 15 = τ 1) (ht2 : pp 16 = τ 2) (ht3 : BTs (ff 0) (tauT τ)) (ht4 : (∀ j, iv (-128) 127 ((ff 0) j))) (hW : WFa n L qq ee) (hF : RFo V o11 fr fm) (hT : PTn cells slots n fm (qq 0))  (hP : va_P V.1 vwCl (wB V y pp ff gg (.ref (Yw 0)) o11 ++ (wY V y n L Yw wa wb qq ee ++ fr) ++ wz) H) (hD : va_D (AAs s) (wB V y pp ff gg (.ref (Yw 0)) o11 ++ (wY V y n L Yw wa wb qq ee ++ fr) ++ wz)) (hS : va_S (AAs s) s.heap H locs) (hlz : ls.size = 4) (kk : (∀ (r : Int32) (H : Heap) (locs : List Loc) (cells slots : Nat) (wx : va_W), KX V y cells slots (coP a1 τ) wx → va_P V.1 vwCl (wx ++ wz) H → va_D (AAs s) (wx ++ wz) → va_S (AAs s) s.heap H locs → W p l e room_1 s m #[Value.ref b] below meth c H locs cells slots (lw_Z below #[Value.ref b] s) (F0 m 296 ls [.int r]))) : W p l e room_1 s m #[Value.ref b] below meth c H locs cells slots (lw_Z below #[Value.ref b] s) (F0 m 293 ls [.int a1, .ref (y 0)]) := by
  obtain ⟨hn, hL, hw_q0, hw_q5, hw_q6, hw_q14, hw_q16, hw_tYw1, hw_tYw4, hw_tYw5, hw_tYw6, hw_tYw7, hw_WA, hw_WB, hw_WC⟩ := id hW
  rw [as4] at hP hD
  refine cSI (X := wB V y pp ff gg (.ref (Yw 0)) o11 ++ wY V y n L Yw wa wb qq ee) (pl := fr ++ wz) (rest := []) G (k_X9_coast_1 l V n L Yw y a1 (pp 0) o11 (pp 1) (pp 2) (pp 3) (ff 0) (pp 4) (pp 5) (pp 6) (pp 7) (pp 8) (pp 9) (pp 10) (pp 11) (pp 12) (pp 13) (pp 14) (ff 1) (ff 2) (ff 3) (ff 4) (ff 5) (ff 6) (ff 7) (pp 15) (pp 16) (pp 17) (pp 18) (pp 19) (pp 20) (pp 21) (pp 22) (pp 23) (pp 24) (pp 25) (pp 26) (pp 27) (pp 28) (pp 29) (pp 30) (pp 31) (pp 32) (ff 8) (ff 9) (ff 10) (ff 11) (ff 12) (ff 13) (ff 14) (ff 15) (pp 35) (qq 0) wa (qq 5) (qq 6) wb (qq 14) (qq 15) (qq 16) (ee 0) (ee 1) (ee 3) (ee 5) hn hL (hp 0) ht4 (hp 5) (hp 6) (hp 7) (hp 10) (hp 11) (hp 12) (hp 13) (hp 14) (hp 17) (hp 19) (hp 20) (hp 23) (hp 24) (hp 25) (hp 28) (hp 29) (hp 30) (hp 31) (hp 32) (hp 35) hw_q0 hw_q5 hw_q6 hw_q14 hw_q16 hw_tYw1 hw_tYw4 hw_tYw6 hw_WA hw_WB hw_WC) mt_X9_coast q_2_90 ⟨Nat.le_of_ble_eq_true rfl, Nat.le_of_ble_eq_true rfl⟩ hP hD hS [0, 1, 2, 3, 4, 5, 6, 7, 8, 9, 10, 11, 12, 13, 14, 15, 16, 17, 18, 19, 20, 26, 59, 60, 61, 63, 65] [0, 0, 0, 0, 0, 0, 0, 0, 0, 0, 0, 0, 0, 0, 0, 0, 0, 0, 0, 0, 0, 5, 32, 0, 0, 1, 1] (by decide) (by decide +kernel) rfl 0 rfl rfl rfl rfl hlz rfl (Nat.le_of_ble_eq_true rfl) dL_law_293 (PTn_room hT hw_q0) (fun r w H locs hw hPD hS => ?_)
  refine Exists.elim hw (fun v0 hw => ?_)
  refine Exists.elim hw (fun v1 hw => ?_)
  refine Exists.elim hw (fun v2 hw => ?_)
  refine Exists.elim hw (fun v3 hw => ?_)
  refine Exists.elim hw (fun v4 hw => ?_)
  refine Exists.elim hw (fun v5 hw => ?_)
  refine Exists.elim hw (fun v6 hw => ?_)
  refine Exists.elim hw (fun v7 hw => ?_)
  refine Exists.elim hw (fun v8 hw => ?_)
  refine Exists.elim hw (fun v9 hw => ?_)
  refine Exists.elim hw (fun v10 hw => ?_)
  refine Exists.elim hw (fun v11 hw => ?_)
  refine Exists.elim hw (fun v12 hw => ?_)
  refine Exists.elim hw (fun v13 hw => ?_)
  refine Exists.elim hw (fun v14 hw => ?_)
  refine Exists.elim hw (fun g15 hw => ?_)
  refine Exists.elim hw (fun g16 hw => ?_)
  refine Exists.elim hw (fun g17 hw => ?_)
  refine Exists.elim hw (fun g18 hw => ?_)
  refine Exists.elim hw (fun g19 hw => ?_)
  refine Exists.elim hw (fun g20 hw => ?_)
  refine Exists.elim hw (fun g21 hw => ?_)
  refine Exists.elim hw (fun v22 hw => ?_)
  refine Exists.elim hw (fun v23 hw => ?_)
  refine Exists.elim hw (fun v24 hw => ?_)
  refine Exists.elim hw (fun v25 hw => ?_)
  refine Exists.elim hw (fun v26 hw => ?_)
  refine Exists.elim hw (fun v27 hw => ?_)
  refine Exists.elim hw (fun v28 hw => ?_)
  refine Exists.elim hw (fun v29 hw => ?_)
  refine Exists.elim hw (fun v30 hw => ?_)
  refine Exists.elim hw (fun v31 hw => ?_)
  refine Exists.elim hw (fun v32 hw => ?_)
  refine Exists.elim hw (fun v33 hw => ?_)
  refine Exists.elim hw (fun v34 hw => ?_)
  refine Exists.elim hw (fun v35 hw => ?_)
  refine Exists.elim hw (fun v36 hw => ?_)
  refine Exists.elim hw (fun v37 hw => ?_)
  refine Exists.elim hw (fun v38 hw => ?_)
  refine Exists.elim hw (fun v39 hw => ?_)
  refine Exists.elim hw (fun g40 hw => ?_)
  refine Exists.elim hw (fun g41 hw => ?_)
  refine Exists.elim hw (fun g42 hw => ?_)
  refine Exists.elim hw (fun g43 hw => ?_)
  refine Exists.elim hw (fun g44 hw => ?_)
  refine Exists.elim hw (fun g45 hw => ?_)
  refine Exists.elim hw (fun g46 hw => ?_)
  refine Exists.elim hw (fun g47 hw => ?_)
  refine Exists.elim hw (fun v48 hw => ?_)
  refine Exists.elim hw (fun v49 hw => ?_)
  refine Exists.elim hw (fun v50 hw => ?_)
  refine Exists.elim hw (fun g51 hw => ?_)
  refine And.elim (fun bv0 hw => ?_) hw
  refine And.elim (fun bv5 hw => ?_) hw
  refine And.elim (fun bv6 hw => ?_) hw
  refine And.elim (fun bv7 hw => ?_) hw
  refine And.elim (fun bv10 hw => ?_) hw
  refine And.elim (fun bv11 hw => ?_) hw
  refine And.elim (fun bv12 hw => ?_) hw
  refine And.elim (fun bv13 hw => ?_) hw
  refine And.elim (fun bv14 hw => ?_) hw
  refine And.elim (fun bv24 hw => ?_) hw
  refine And.elim (fun bv26 hw => ?_) hw
  refine And.elim (fun bv27 hw => ?_) hw
  refine And.elim (fun bv30 hw => ?_) hw
  refine And.elim (fun bv31 hw => ?_) hw
  refine And.elim (fun bv32 hw => ?_) hw
  refine And.elim (fun bv35 hw => ?_) hw
  refine And.elim (fun bv36 hw => ?_) hw
  refine And.elim (fun bv37 hw => ?_) hw
  refine And.elim (fun bv38 hw => ?_) hw
  refine And.elim (fun bv39 hw => ?_) hw
  refine And.elim (fun bv48 hw => ?_) hw
  refine And.elim (fun bv49 hw => ?_) hw
  refine And.elim (fun bv50 hw => ?_) hw
  refine And.elim (fun bg51 hw => ?_) hw
  refine And.elim (fun ef hw => ?_) hw
  refine And.elim (fun g_0 hw => ?_) hw
  refine And.elim (fun g_1 hw => ?_) hw
  refine And.elim (fun g_2 hw => ?_) hw
  refine And.elim (fun g_3 hw => ?_) hw
  refine And.elim (fun g_4 hw => ?_) hw
  refine And.elim (fun g_5 hw => ?_) hw
  subst hw
  obtain ⟨hP, hD⟩ := hPD (wB V y (br9 36 (br9 18 (br9 9 (br9 4 (br9 2 (br9 1 (lf9 v0) (lf9 v1)) (br9 3 (lf9 v2) (lf9 v3))) (br9 6 (br9 5 (lf9 v4) (lf9 v5)) (br9 7 (lf9 v6) (br9 8 (lf9 v7) (lf9 v8))))) (br9 13 (br9 11 (br9 10 (lf9 v9) (lf9 v10)) (br9 12 (lf9 v11) (lf9 v12))) (br9 15 (br9 14 (lf9 v13) (lf9 v14)) (br9 16 (lf9 v22) (br9 17 (lf9 v23) (lf9 v24)))))) (br9 27 (br9 22 (br9 20 (br9 19 (lf9 v25) (lf9 v26)) (br9 21 (lf9 v27) (lf9 v28))) (br9 24 (br9 23 (lf9 v29) (lf9 v30)) (br9 25 (lf9 v31) (br9 26 (lf9 v32) (lf9 v33))))) (br9 31 (br9 29 (br9 28 (lf9 v34) (lf9 v35)) (br9 30 (lf9 v36) (lf9 v37))) (br9 33 (br9 32 (lf9 v38) (lf9 v39)) (br9 34 pp (br9 35 pp (lf9 v48))))))) pp) (br9 16 (br9 8 (br9 4 (br9 2 (br9 1 ff (lf9 g15)) (br9 3 (lf9 g16) (lf9 g17))) (br9 6 (br9 5 (lf9 g18) (lf9 g19)) (br9 7 (lf9 g20) (lf9 g21)))) (br9 12 (br9 10 (br9 9 (lf9 g40) (lf9 g41)) (br9 11 (lf9 g42) (lf9 g43))) (br9 14 (br9 13 (lf9 g44) (lf9 g45)) (br9 15 (lf9 g46) (lf9 g47))))) ff) gg (.ref (Yw 0)) o11 ++ wY V y n L Yw wa wb (up9 (up9 qq 5 v49) 16 v50) (up9 ee 3 g51)) rfl rfl
  rw [← as4] at hP hD
  exact kk r H locs (cells + 0) (slots + 0) _ ⟨(br9 36 (br9 18 (br9 9 (br9 4 (br9 2 (br9 1 (lf9 v0) (lf9 v1)) (br9 3 (lf9 v2) (lf9 v3))) (br9 6 (br9 5 (lf9 v4) (lf9 v5)) (br9 7 (lf9 v6) (br9 8 (lf9 v7) (lf9 v8))))) (br9 13 (br9 11 (br9 10 (lf9 v9) (lf9 v10)) (br9 12 (lf9 v11) (lf9 v12))) (br9 15 (br9 14 (lf9 v13) (lf9 v14)) (br9 16 (lf9 v22) (br9 17 (lf9 v23) (lf9 v24)))))) (br9 27 (br9 22 (br9 20 (br9 19 (lf9 v25) (lf9 v26)) (br9 21 (lf9 v27) (lf9 v28))) (br9 24 (br9 23 (lf9 v29) (lf9 v30)) (br9 25 (lf9 v31) (br9 26 (lf9 v32) (lf9 v33))))) (br9 31 (br9 29 (br9 28 (lf9 v34) (lf9 v35)) (br9 30 (lf9 v36) (lf9 v37))) (br9 33 (br9 32 (lf9 v38) (lf9 v39)) (br9 34 pp (br9 35 pp (lf9 v48))))))) pp), (br9 16 (br9 8 (br9 4 (br9 2 (br9 1 ff (lf9 g15)) (br9 3 (lf9 g16) (lf9 g17))) (br9 6 (br9 5 (lf9 g18) (lf9 g19)) (br9 7 (lf9 g20) (lf9 g21)))) (br9 12 (br9 10 (br9 9 (lf9 g40) (lf9 g41)) (br9 11 (lf9 g42) (lf9 g43))) (br9 14 (br9 13 (lf9 g44) (lf9 g45)) (br9 15 (lf9 g46) (lf9 g47))))) ff), gg, .ref (Yw 0), o11, _, (ivG_t 36 (ivG_b 18 (ivG_b 9 (ivG_b 4 (ivG_b 2 (ivG_b 1 (ivG_l 0 bv0) (ivG_l 1 (iv_top v1))) (ivG_b 3 (ivG_l 2 (iv_top v2)) (ivG_l 3 (iv_top v3)))) (ivG_b 6 (ivG_b 5 (ivG_l 4 (iv_top v4)) (ivG_l 5 bv5)) (ivG_b 7 (ivG_l 6 bv6) (ivG_b 8 (ivG_l 7 bv7) (ivG_l 8 (iv_top v8)))))) (ivG_b 13 (ivG_b 11 (ivG_b 10 (ivG_l 9 (iv_top v9)) (ivG_l 10 bv10)) (ivG_b 12 (ivG_l 11 bv11) (ivG_l 12 bv12))) (ivG_b 15 (ivG_b 14 (ivG_l 13 bv13) (ivG_l 14 bv14)) (ivG_b 16 (ivG_l 15 (iv_top v22)) (ivG_b 17 (ivG_l 16 (iv_top v23)) (ivG_l 17 bv24)))))) (ivG_b 27 (ivG_b 22 (ivG_b 20 (ivG_b 19 (ivG_l 18 (iv_top v25)) (ivG_l 19 bv26)) (ivG_b 21 (ivG_l 20 bv27) (ivG_l 21 (iv_top v28)))) (ivG_b 24 (ivG_b 23 (ivG_l 22 (iv_top v29)) (ivG_l 23 bv30)) (ivG_b 25 (ivG_l 24 bv31) (ivG_b 26 (ivG_l 25 bv32) (ivG_l 26 (iv_top v33)))))) (ivG_b 31 (ivG_b 29 (ivG_b 28 (ivG_l 27 (iv_top v34)) (ivG_l 28 bv35)) (ivG_b 30 (ivG_l 29 bv36) (ivG_l 30 bv37))) (ivG_b 33 (ivG_b 32 (ivG_l 31 bv38) (ivG_l 32 bv39)) (ivG_b 34 (ivG_p hp) (ivG_b 35 (ivG_p hp) (ivG_l 35 bv48))))))) hp), (show v0 = (coP a1 τ) 0 from by rw [g_3, ht0]; first | done | rfl), (show v22 = (coP a1 τ) 1 from by rw [g_4, ht0, ht1, coW_cg ht3 (by rw [← ht0]; exact (hp 0).2)]; first | done | rfl), (show v23 = (coP a1 τ) 2 from by rw [g_5, ht0, ht2, coA_cg ht3 (by rw [← ht0]; exact (hp 0).2)]; first | done | rfl), (by rw [tauT_c]; exact ht3), ht4, Or.inr ⟨n, L, Yw, wa, wb, (up9 (up9 qq 5 v49) 16 v50), (up9 ee 3 g51), fr, fm, ⟨hn, hL, hw_q0, bv49, hw_q6, hw_q14, bv50, hw_tYw1, bg51, hw_tYw5, hw_tYw6, hw_tYw7, g_0, g_1, g_2⟩, hF, hT, rfl, rfl⟩, rfl⟩ hP hD hS
set_option maxHeartbeats 4000000 in
set_option maxRecDepth 100000 in
theorem cx_1 {p : Program} {e : Env} {s : State} {m : MethodId} {below : List Frame} {meth : Method} {c : Code} {l : Launch} {b Lk : Nat} {xs : Nat → Int32} {V : GV} {y : Nat → Nat} {τ : Nat → Int32} {H : Heap} {locs : List Loc} {cells slots : Nat} {wz : va_W} {ls : Array Slot} (G : LCx p s m meth c b Lk xs V) (a1 : Int32) {wx : va_W} (kx : KX V y cells slots τ wx) (hP : va_P V.1 vwCl (wx ++ wz) H) (hD : va_D (AAs s) (wx ++ wz)) (hS : va_S (AAs s) s.heap H locs) (hlz : ls.size = 4) (kk : (∀ (r : Int32) (H : Heap) (locs : List Loc) (cells slots : Nat) (wx : va_W), KX V y cells slots (coP a1 τ) wx → va_P V.1 vwCl (wx ++ wz) H → va_D (AAs s) (wx ++ wz) → va_S (AAs s) s.heap H locs → W p l e room_1 s m #[Value.ref b] below meth c H locs cells slots (lw_Z below #[Value.ref b] s) (F0 m 296 ls [.int r]))) : W p l e room_1 s m #[Value.ref b] below meth c H locs cells slots (lw_Z below #[Value.ref b] s) (F0 m 293 ls [.int a1, .ref (y 0)]) := by
  obtain ⟨pp, ff, gg, o10, o11, rest, hp, ht0, ht1, ht2, ht3, ht4, hR, rfl⟩ := kx
  rcases hR with ⟨rfl, rfl, rfl, hc⟩ | ⟨n, L, Yw, wa, wb, qq, ee, fr, fm, hW, hF, hT, rfl, rfl⟩
  · exact cx_1_0 G _ hp ht0 ht1 ht2 ht3 ht4 hc hP hD hS hlz kk
  · exact cx_1_a G _ hp ht0 ht1 ht2 ht3 ht4 hW hF hT hP hD hS hlz kk
theorem q_6_113 : Cond.code yX10_coast prog_12_method_34_code 3 (some FieldType.int) ∈ gw := gw_6 (i := 113) (rfl) rfl
theorem q_6_111 : Cond.instanceMethod yX10_coast ∈ gw := gw_6 (i := 111) (by decide +kernel) rfl
theorem q_6_112 : Cond.selects "BeaconDelayModel" yX10_coast yX10_coast ∈ gw := gw_6 (i := 112) (by decide +kernel) rfl
theorem mt_X10_coast : MtV yX10_coast cX10_coast 3 (some .int) 1 := ⟨⟨q_6_113, q_1_9, by decide +kernel, by decide +kernel, by decide +kernel⟩, q_6_111, q_6_112⟩
theorem q_6_110 : Cond.methodLink "BeaconDelayLaw" 22 yX10_coast ∈ gw := gw_6 (i := 110) (by decide +kernel) rfl
theorem dL_law_303 : decode cL_law 303 = .ok (.invokevirtual 22, 3) := by decide +kernel
set_option maxHeartbeats 4000000 in
set_option maxRecDepth 100000 in
theorem cz_1 {p : Program} {e : Env} {s : State} {m : MethodId} {below : List Frame} {meth : Method} {c : Code} {l : Launch} {b Lk : Nat} {xs : Nat → Int32} {V : GV} {z : Nat → Nat} {τ : Nat → Int32} {H : Heap} {locs : List Loc} {cells slots : Nat} {wx : va_W} {ls : Array Slot} {rest : List Value} (G : LCx p s m meth c b Lk xs V) (a1 : Int32) {wz : va_W} (kz : KZ V z τ wz) (hP : va_P V.1 vwCl (wx ++ wz) H) (hD : va_D (AAs s) (wx ++ wz)) (hS : va_S (AAs s) s.heap H locs) (hcs : cells + 0 ≤ 600000 ∧ slots + 0 ≤ 7302250) (hro : (rest.map fun v => v.category).sum ≤ 8) (hlz : ls.size = 4) (kk : (∀ (r : Int32) (H : Heap) (locs : List Loc) (wz : va_W), KZ V z (coP a1 τ) wz → va_P V.1 vwCl (wx ++ wz) H → va_D (AAs s) (wx ++ wz) → va_S (AAs s) s.heap H locs → W p l e room_1 s m #[Value.ref b] below meth c H locs cells slots (lw_Z below #[Value.ref b] s) (F0 m 306 ls (.int r :: rest)))) : W p l e room_1 s m #[Value.ref b] below meth c H locs cells slots (lw_Z below #[Value.ref b] s) (F0 m 303 ls (.int a1 :: .ref (z 0) :: rest)) := by
  obtain ⟨pz, fz, gz, hp, ht0, ht1, ht2, ht3, hz_tz1, hz_tz3, hz_tz4, hz_tz16, hz_tz17, hz_tz20, hz_tz21, hz_tz24, hz_tz25, hz_tz26, hz_tz27, hz_tz33, hz_tz34, hz_tz37, hz_tz38, hz_RW, rfl⟩ := kz
  replace hP := swP hP
  replace hD := swD hD
  refine cSI (X := wZ V z pz fz gz) (pl := wx) (rest := rest) G (k_X10_coast_0 l V z a1 (pz 0) (pz 5) (pz 6) (pz 7) (pz 8) (pz 9) (pz 10) (pz 11) (pz 12) (pz 13) (pz 14) (pz 18) (pz 19) (pz 22) (pz 23) (pz 29) (fz 0) (fz 2) (fz 3) (hp 5) (hp 6) (hp 7) (hp 8) (hp 10) (hp 11) (hp 12) (hp 13) (hp 14) (hp 18) (hp 22) (hp 29) hz_tz1 hz_tz3 hz_tz4 hz_RW) mt_X10_coast q_6_110 ⟨Nat.le_of_ble_eq_true rfl, Nat.le_of_ble_eq_true rfl⟩ hP hD hS [0, 1, 3, 4] [0, 0, 1, 0] (by decide) (by decide +kernel) rfl 0 rfl rfl rfl rfl hlz rfl hro dL_law_303 hcs (fun r w H locs hw hPD hS => ?_)
  refine Exists.elim hw (fun v0 hw => ?_)
  refine Exists.elim hw (fun v1 hw => ?_)
  refine Exists.elim hw (fun v2 hw => ?_)
  refine Exists.elim hw (fun v3 hw => ?_)
  refine Exists.elim hw (fun v4 hw => ?_)
  refine Exists.elim hw (fun v5 hw => ?_)
  refine Exists.elim hw (fun v6 hw => ?_)
  refine Exists.elim hw (fun v7 hw => ?_)
  refine Exists.elim hw (fun v8 hw => ?_)
  refine Exists.elim hw (fun v9 hw => ?_)
  refine Exists.elim hw (fun v10 hw => ?_)
  refine Exists.elim hw (fun g11 hw => ?_)
  refine Exists.elim hw (fun g12 hw => ?_)
  refine And.elim (fun bv1 hw => ?_) hw
  refine And.elim (fun bv2 hw => ?_) hw
  refine And.elim (fun bv3 hw => ?_) hw
  refine And.elim (fun bv4 hw => ?_) hw
  refine And.elim (fun bv6 hw => ?_) hw
  refine And.elim (fun bv7 hw => ?_) hw
  refine And.elim (fun bv8 hw => ?_) hw
  refine And.elim (fun bv9 hw => ?_) hw
  refine And.elim (fun bv10 hw => ?_) hw
  refine And.elim (fun bg11 hw => ?_) hw
  refine And.elim (fun bg12 hw => ?_) hw
  refine And.elim (fun ef hw => ?_) hw
  refine And.elim (fun g_0 hw => ?_) hw
  refine And.elim (fun g_1 hw => ?_) hw
  refine And.elim (fun g_2 hw => ?_) hw
  refine And.elim (fun g_3 hw => ?_) hw
  subst hw
  obtain ⟨hP, hD⟩ := hPD (wZ V z (br9 15 (br9 7 (br9 3 (br9 1 (lf9 v0) pz) (br9 5 pz (br9 6 (lf9 v1) (lf9 v2)))) (br9 11 (br9 9 (br9 8 (lf9 v3) (lf9 v4)) (br9 10 (lf9 v5) (lf9 v6))) (br9 13 (br9 12 (lf9 v7) (lf9 v8)) (br9 14 (lf9 v9) (lf9 v10))))) pz) (up9 (up9 fz 0 g11) 3 g12) gz) rfl rfl
  replace hP := swP hP
  replace hD := swD hD
  exact kk r H locs _ ⟨(br9 15 (br9 7 (br9 3 (br9 1 (lf9 v0) pz) (br9 5 pz (br9 6 (lf9 v1) (lf9 v2)))) (br9 11 (br9 9 (br9 8 (lf9 v3) (lf9 v4)) (br9 10 (lf9 v5) (lf9 v6))) (br9 13 (br9 12 (lf9 v7) (lf9 v8)) (br9 14 (lf9 v9) (lf9 v10))))) pz), (up9 (up9 fz 0 g11) 3 g12), gz, (ivG_t 15 (ivG_b 7 (ivG_b 3 (ivG_b 1 (ivG_l 0 (iv_top v0)) (ivG_p hp)) (ivG_b 5 (ivG_p hp) (ivG_b 6 (ivG_l 5 bv1) (ivG_l 6 bv2)))) (ivG_b 11 (ivG_b 9 (ivG_b 8 (ivG_l 7 bv3) (ivG_l 8 bv4)) (ivG_b 10 (ivG_l 9 (iv_top v5)) (ivG_l 10 bv6))) (ivG_b 13 (ivG_b 12 (ivG_l 11 bv7) (ivG_l 12 bv8)) (ivG_b 14 (ivG_l 13 bv9) (ivG_l 14 bv10))))) hp), (show v1 = (coP a1 τ) 0 from by rw [g_1, ht0]; first | done | rfl), (show v9 = (coP a1 τ) 1 from by rw [g_2, ht3, ht0, ht1]; first | done | rfl), (show v10 = (coP a1 τ) 2 from by rw [g_3, ht3, ht0, ht2]; first | done | rfl), (by rw [tauT_c]; exact ht3), bg11, hz_tz3, bg12, hz_tz16, hz_tz17, hz_tz20, hz_tz21, hz_tz24, hz_tz25, hz_tz26, hz_tz27, hz_tz33, hz_tz34, hz_tz37, hz_tz38, g_0, rfl⟩ hP hD hS
theorem q_3_117 : Cond.code yX9_fault prog_1_method_6_code 2 (some FieldType.int) ∈ gw := gw_3 (i := 117) (rfl) rfl
theorem q_3_115 : Cond.instanceMethod yX9_fault ∈ gw := gw_3 (i := 115) (by decide +kernel) rfl
theorem q_3_116 : Cond.selects "BeaconDelay" yX9_fault yX9_fault ∈ gw := gw_3 (i := 116) (by decide +kernel) rfl
theorem mt_X9_fault : MtV yX9_fault cX9_fault 2 (some .int) 1 := ⟨⟨q_3_117, q_1_1, by decide +kernel, by decide +kernel, by decide +kernel⟩, q_3_115, q_3_116⟩
theorem q_3_114 : Cond.methodLink "BeaconDelayLaw" 23 yX9_fault ∈ gw := gw_3 (i := 114) (by decide +kernel) rfl
theorem dL_law_316 : decode cL_law 316 = .ok (.invokevirtual 23, 3) := by decide +kernel
set_option maxHeartbeats 4000000 in
set_option maxRecDepth 100000 in
theorem cx_2_s {p : Program} {e : Env} {s : State} {m : MethodId} {below : List Frame} {meth : Method} {c : Code} {l : Launch} {b Lk : Nat} {xs : Nat → Int32} {V : GV} {y : Nat → Nat} {τ : Nat → Int32} {H : Heap} {locs : List Loc} {cells slots : Nat} {wz : va_W} {ls : Array Slot} (G : LCx p s m meth c b Lk xs V) (a1 : Int32) {pp : Nat → Int32} {ff : Nat → Nat → Int32} {gg : Nat → Nat → Int64} {o10 o11 : Value} {rest : va_W} (hp : ivT tX pp) (ht0 : pp 0 = τ 0) (ht1 : pp 15 = τ 1) (ht2 : pp 16 = τ 2) (ht3 : BTs (ff 0) (tauT τ)) (ht4 : (∀ j, iv (-128) 127 ((ff 0) j))) (hR : RRo V y cells slots o10 o11 rest)  (hP : va_P V.1 vwCl (wB V y pp ff gg o10 o11 ++ rest ++ wz) H) (hD : va_D (AAs s) (wB V y pp ff gg o10 o11 ++ rest ++ wz)) (hS : va_S (AAs s) s.heap H locs) (hlz : ls.size = 4) (kk : (∀ (r : Int32) (H : Heap) (locs : List Loc) (cells slots : Nat) (wx : va_W), KX V y cells slots τ wx → r = faF a1 (τ 1) (τ 2) → va_P V.1 vwCl (wx ++ wz) H → va_D (AAs s) (wx ++ wz) → va_S (AAs s) s.heap H locs → W p l e room_1 s m #[Value.ref b] below meth c H locs cells slots (lw_Z below #[Value.ref b] s) (F0 m 319 ls [.int r]))) : W p l e room_1 s m #[Value.ref b] below meth c H locs cells slots (lw_Z below #[Value.ref b] s) (F0 m 316 ls [.int a1, .ref (y 0)]) := by
  rw [as3] at hP hD
  refine cSI (X := wB V y pp ff gg o10 o11) (pl := rest ++ wz) (rest := []) G (k_X9_fault_0 l V y a1 (pp 0) o10 o11 (pp 1) (pp 2) (pp 3) (pp 15) (pp 16) (pp 17) (pp 18) (pp 19) (pp 20) (pp 21) (hp 0) (hp 17) (hp 19) (hp 20)) mt_X9_fault q_3_114 ⟨Nat.le_of_ble_eq_true rfl, Nat.le_of_ble_eq_true rfl⟩ hP hD hS [0, 10] [0, 9] (by decide) (by decide +kernel) rfl 0 rfl rfl rfl rfl hlz rfl (Nat.le_of_ble_eq_true rfl) dL_law_316 hR.room (fun r w H locs hw hPD hS => ?_)
  refine And.elim (fun ef hw => ?_) hw
  subst hw
  obtain ⟨hP, hD⟩ := hPD (wB V y pp ff gg o10 o11) rfl rfl
  rw [← as3] at hP hD
  exact kk r H locs (cells + 0) (slots + 0) _ ⟨pp, ff, gg, o10, o11, rest, hp, ht0, ht1, ht2, ht3, ht4, hR, rfl⟩ (ef.trans (by rw [ht1, ht2])) hP hD hS
set_option maxHeartbeats 4000000 in
set_option maxRecDepth 100000 in
theorem cx_2 {p : Program} {e : Env} {s : State} {m : MethodId} {below : List Frame} {meth : Method} {c : Code} {l : Launch} {b Lk : Nat} {xs : Nat → Int32} {V : GV} {y : Nat → Nat} {τ : Nat → Int32} {H : Heap} {locs : List Loc} {cells slots : Nat} {wz : va_W} {ls : Array Slot} (G : LCx p s m meth c b Lk xs V) (a1 : Int32) {wx : va_W} (kx : KX V y cells slots τ wx) (hP : va_P V.1 vwCl (wx ++ wz) H) (hD : va_D (AAs s) (wx ++ wz)) (hS : va_S (AAs s) s.heap H locs) (hlz : ls.size = 4) (kk : (∀ (r : Int32) (H : Heap) (locs : List Loc) (cells slots : Nat) (wx : va_W), KX V y cells slots τ wx → r = faF a1 (τ 1) (τ 2) → va_P V.1 vwCl (wx ++ wz) H → va_D (AAs s) (wx ++ wz) → va_S (AAs s) s.heap H locs → W p l e room_1 s m #[Value.ref b] below meth c H locs cells slots (lw_Z below #[Value.ref b] s) (F0 m 319 ls [.int r]))) : W p l e room_1 s m #[Value.ref b] below meth c H locs cells slots (lw_Z below #[Value.ref b] s) (F0 m 316 ls [.int a1, .ref (y 0)]) := by
  obtain ⟨pp, ff, gg, o10, o11, rest, hp, ht0, ht1, ht2, ht3, ht4, hR, rfl⟩ := kx
  exact cx_2_s G _ hp ht0 ht1 ht2 ht3 ht4 hR hP hD hS hlz kk
theorem q_6_230 : Cond.code yX10_fault prog_12_method_35_code 2 (some FieldType.int) ∈ gw := gw_6 (i := 230) (rfl) rfl
theorem q_6_228 : Cond.instanceMethod yX10_fault ∈ gw := gw_6 (i := 228) (by decide +kernel) rfl
theorem q_6_229 : Cond.selects "BeaconDelayModel" yX10_fault yX10_fault ∈ gw := gw_6 (i := 229) (by decide +kernel) rfl
theorem mt_X10_fault : MtV yX10_fault cX10_fault 2 (some .int) 1 := ⟨⟨q_6_230, q_1_9, by decide +kernel, by decide +kernel, by decide +kernel⟩, q_6_228, q_6_229⟩
theorem q_6_227 : Cond.methodLink "BeaconDelayLaw" 26 yX10_fault ∈ gw := gw_6 (i := 227) (by decide +kernel) rfl
theorem dL_law_325 : decode cL_law 325 = .ok (.invokevirtual 26, 3) := by decide +kernel
set_option maxHeartbeats 4000000 in
set_option maxRecDepth 100000 in
theorem cz_2 {p : Program} {e : Env} {s : State} {m : MethodId} {below : List Frame} {meth : Method} {c : Code} {l : Launch} {b Lk : Nat} {xs : Nat → Int32} {V : GV} {z : Nat → Nat} {τ : Nat → Int32} {H : Heap} {locs : List Loc} {cells slots : Nat} {wx : va_W} {ls : Array Slot} {rest : List Value} (G : LCx p s m meth c b Lk xs V) (a1 : Int32) {wz : va_W} (kz : KZ V z τ wz) (hP : va_P V.1 vwCl (wx ++ wz) H) (hD : va_D (AAs s) (wx ++ wz)) (hS : va_S (AAs s) s.heap H locs) (hcs : cells + 0 ≤ 600000 ∧ slots + 0 ≤ 7302250) (hro : (rest.map fun v => v.category).sum ≤ 8) (hlz : ls.size = 4) (kk : (∀ (r : Int32) (H : Heap) (locs : List Loc) (wz : va_W), KZ V z τ wz → r = faF a1 (τ 1) (τ 2) → va_P V.1 vwCl (wx ++ wz) H → va_D (AAs s) (wx ++ wz) → va_S (AAs s) s.heap H locs → W p l e room_1 s m #[Value.ref b] below meth c H locs cells slots (lw_Z below #[Value.ref b] s) (F0 m 328 ls (.int r :: rest)))) : W p l e room_1 s m #[Value.ref b] below meth c H locs cells slots (lw_Z below #[Value.ref b] s) (F0 m 325 ls (.int a1 :: .ref (z 0) :: rest)) := by
  obtain ⟨pz, fz, gz, hp, ht0, ht1, ht2, ht3, hz_tz1, hz_tz3, hz_tz4, hz_tz16, hz_tz17, hz_tz20, hz_tz21, hz_tz24, hz_tz25, hz_tz26, hz_tz27, hz_tz33, hz_tz34, hz_tz37, hz_tz38, hz_RW, rfl⟩ := kz
  replace hP := swP hP
  replace hD := swD hD
  refine cSI (X := wZ V z pz fz gz) (pl := wx) (rest := rest) G (k_X10_fault_0 l V z a1 (pz 0) (pz 5) (pz 6) (pz 7) (pz 8) (pz 9) (pz 10) (pz 11) (pz 12) (pz 13) (pz 14) (pz 18) (pz 19) (pz 22) (pz 23) (pz 29) (hp 5) (hp 6) (hp 7) (hp 8) (hp 10) (hp 11) (hp 12) (hp 13) (hp 14) (hp 18) (hp 22) (hp 29)) mt_X10_fault q_6_227 ⟨Nat.le_of_ble_eq_true rfl, Nat.le_of_ble_eq_true rfl⟩ hP hD hS [0] [0] (by decide) (by decide +kernel) rfl 0 rfl rfl rfl rfl hlz rfl hro dL_law_325 hcs (fun r w H locs hw hPD hS => ?_)
  refine Exists.elim hw (fun v0 hw => ?_)
  refine And.elim (fun br hw => ?_) hw
  refine And.elim (fun ef hw => ?_) hw
  subst hw
  obtain ⟨hP, hD⟩ := hPD (wZ V z (up9 pz 0 v0) fz gz) rfl rfl
  replace hP := swP hP
  replace hD := swD hD
  exact kk r H locs _ ⟨(up9 pz 0 v0), fz, gz, (ivUp 0 hp (iv_top v0)), ht0, ht1, ht2, ht3, hz_tz1, hz_tz3, hz_tz4, hz_tz16, hz_tz17, hz_tz20, hz_tz21, hz_tz24, hz_tz25, hz_tz26, hz_tz27, hz_tz33, hz_tz34, hz_tz37, hz_tz38, hz_RW, rfl⟩ (ef.trans (by rw [ht1, ht2])) hP hD hS
theorem q_3_121 : Cond.code yX9_hill prog_1_method_7_code 3 (some FieldType.int) ∈ gw := gw_3 (i := 121) (rfl) rfl
theorem q_3_119 : Cond.instanceMethod yX9_hill ∈ gw := gw_3 (i := 119) (by decide +kernel) rfl
theorem q_3_120 : Cond.selects "BeaconDelay" yX9_hill yX9_hill ∈ gw := gw_3 (i := 120) (by decide +kernel) rfl
theorem mt_X9_hill : MtV yX9_hill cX9_hill 3 (some .int) 2 := ⟨⟨q_3_121, q_1_1, by decide +kernel, by decide +kernel, by decide +kernel⟩, q_3_119, q_3_120⟩
theorem q_3_118 : Cond.methodLink "BeaconDelayLaw" 27 yX9_hill ∈ gw := gw_3 (i := 118) (by decide +kernel) rfl
theorem dL_law_344 : decode cL_law 344 = .ok (.invokevirtual 27, 3) := by decide +kernel
set_option maxHeartbeats 4000000 in
set_option maxRecDepth 100000 in
theorem cx_3_s {p : Program} {e : Env} {s : State} {m : MethodId} {below : List Frame} {meth : Method} {c : Code} {l : Launch} {b Lk : Nat} {xs : Nat → Int32} {V : GV} {y : Nat → Nat} {τ : Nat → Int32} {H : Heap} {locs : List Loc} {cells slots : Nat} {wz : va_W} {ls : Array Slot} (G : LCx p s m meth c b Lk xs V) (a1 : Int32) (a2 : Int32) {pp : Nat → Int32} {ff : Nat → Nat → Int32} {gg : Nat → Nat → Int64} {o10 o11 : Value} {rest : va_W} (hp : ivT tX pp) (ht0 : pp 0 = τ 0) (ht1 : pp 15 = τ 1) (ht2 : pp 16 = τ 2) (ht3 : BTs (ff 0) (tauT τ)) (ht4 : (∀ j, iv (-128) 127 ((ff 0) j))) (hR : RRo V y cells slots o10 o11 rest)  (hP : va_P V.1 vwCl (wB V y pp ff gg o10 o11 ++ rest ++ wz) H) (hD : va_D (AAs s) (wB V y pp ff gg o10 o11 ++ rest ++ wz)) (hS : va_S (AAs s) s.heap H locs) (hlz : ls.size = 4) (kk : (∀ (r : Int32) (H : Heap) (locs : List Loc) (cells slots : Nat) (wx : va_W), KX V y cells slots τ wx → va_P V.1 vwCl (wx ++ wz) H → va_D (AAs s) (wx ++ wz) → va_S (AAs s) s.heap H locs → W p l e room_1 s m #[Value.ref b] below meth c H locs cells slots (lw_Z below #[Value.ref b] s) (F0 m 347 ls [.int r]))) : W p l e room_1 s m #[Value.ref b] below meth c H locs cells slots (lw_Z below #[Value.ref b] s) (F0 m 344 ls [.int a2, .int a1, .ref (y 0)]) := by
  rw [as3] at hP hD
  refine cSI (X := wB V y pp ff gg o10 o11) (pl := rest ++ wz) (rest := []) G (k_X9_hill_0 l V y a1 a2 (pp 0) o10 o11 (pp 1) (pp 2) (pp 3) (pp 4) (pp 5) (pp 6) (pp 7) (pp 8) (pp 9) (pp 10) (pp 11) (pp 12) (pp 13) (pp 14) (ff 1) (ff 2) (hp 0) (hp 5) (hp 6) (hp 7) (hp 10) (hp 11) (hp 12) (hp 13) (hp 14)) mt_X9_hill q_3_118 ⟨Nat.le_of_ble_eq_true rfl, Nat.le_of_ble_eq_true rfl⟩ hP hD hS [0, 2, 3, 4] [0, 1, 0, 0] (by decide) (by decide +kernel) rfl 0 rfl rfl rfl rfl hlz rfl (Nat.le_of_ble_eq_true rfl) dL_law_344 hR.room (fun r w H locs hw hPD hS => ?_)
  subst hw
  obtain ⟨hP, hD⟩ := hPD (wB V y pp ff gg o10 o11) rfl rfl
  rw [← as3] at hP hD
  exact kk r H locs (cells + 0) (slots + 0) _ ⟨pp, ff, gg, o10, o11, rest, hp, ht0, ht1, ht2, ht3, ht4, hR, rfl⟩ hP hD hS
set_option maxHeartbeats 4000000 in
set_option maxRecDepth 100000 in
theorem cx_3 {p : Program} {e : Env} {s : State} {m : MethodId} {below : List Frame} {meth : Method} {c : Code} {l : Launch} {b Lk : Nat} {xs : Nat → Int32} {V : GV} {y : Nat → Nat} {τ : Nat → Int32} {H : Heap} {locs : List Loc} {cells slots : Nat} {wz : va_W} {ls : Array Slot} (G : LCx p s m meth c b Lk xs V) (a1 : Int32) (a2 : Int32) {wx : va_W} (kx : KX V y cells slots τ wx) (hP : va_P V.1 vwCl (wx ++ wz) H) (hD : va_D (AAs s) (wx ++ wz)) (hS : va_S (AAs s) s.heap H locs) (hlz : ls.size = 4) (kk : (∀ (r : Int32) (H : Heap) (locs : List Loc) (cells slots : Nat) (wx : va_W), KX V y cells slots τ wx → va_P V.1 vwCl (wx ++ wz) H → va_D (AAs s) (wx ++ wz) → va_S (AAs s) s.heap H locs → W p l e room_1 s m #[Value.ref b] below meth c H locs cells slots (lw_Z below #[Value.ref b] s) (F0 m 347 ls [.int r]))) : W p l e room_1 s m #[Value.ref b] below meth c H locs cells slots (lw_Z below #[Value.ref b] s) (F0 m 344 ls [.int a2, .int a1, .ref (y 0)]) := by
  obtain ⟨pp, ff, gg, o10, o11, rest, hp, ht0, ht1, ht2, ht3, ht4, hR, rfl⟩ := kx
  exact cx_3_s G _ _ hp ht0 ht1 ht2 ht3 ht4 hR hP hD hS hlz kk
theorem q_6_234 : Cond.code yX10_hill prog_12_method_52_code 3 (some FieldType.int) ∈ gw := gw_6 (i := 234) (rfl) rfl
theorem q_6_232 : Cond.instanceMethod yX10_hill ∈ gw := gw_6 (i := 232) (by decide +kernel) rfl
theorem q_6_233 : Cond.selects "BeaconDelayModel" yX10_hill yX10_hill ∈ gw := gw_6 (i := 233) (by decide +kernel) rfl
theorem mt_X10_hill : MtV yX10_hill cX10_hill 3 (some .int) 2 := ⟨⟨q_6_234, q_1_9, by decide +kernel, by decide +kernel, by decide +kernel⟩, q_6_232, q_6_233⟩
theorem q_6_231 : Cond.methodLink "BeaconDelayLaw" 31 yX10_hill ∈ gw := gw_6 (i := 231) (by decide +kernel) rfl
theorem dL_law_359 : decode cL_law 359 = .ok (.invokevirtual 31, 3) := by decide +kernel
set_option maxHeartbeats 4000000 in
set_option maxRecDepth 100000 in
theorem cz_3 {p : Program} {e : Env} {s : State} {m : MethodId} {below : List Frame} {meth : Method} {c : Code} {l : Launch} {b Lk : Nat} {xs : Nat → Int32} {V : GV} {z : Nat → Nat} {τ : Nat → Int32} {H : Heap} {locs : List Loc} {cells slots : Nat} {wx : va_W} {ls : Array Slot} {rest : List Value} (G : LCx p s m meth c b Lk xs V) (a1 : Int32) (a2 : Int32) {wz : va_W} (kz : KZ V z τ wz) (hP : va_P V.1 vwCl (wx ++ wz) H) (hD : va_D (AAs s) (wx ++ wz)) (hS : va_S (AAs s) s.heap H locs) (hcs : cells + 0 ≤ 600000 ∧ slots + 0 ≤ 7302250) (hro : (rest.map fun v => v.category).sum ≤ 8) (hlz : ls.size = 4) (kk : (∀ (r : Int32) (H : Heap) (locs : List Loc) (wz : va_W), KZ V z τ wz → va_P V.1 vwCl (wx ++ wz) H → va_D (AAs s) (wx ++ wz) → va_S (AAs s) s.heap H locs → W p l e room_1 s m #[Value.ref b] below meth c H locs cells slots (lw_Z below #[Value.ref b] s) (F0 m 362 ls (.int r :: rest)))) : W p l e room_1 s m #[Value.ref b] below meth c H locs cells slots (lw_Z below #[Value.ref b] s) (F0 m 359 ls (.int a2 :: .int a1 :: .ref (z 0) :: rest)) := by
  obtain ⟨pz, fz, gz, hp, ht0, ht1, ht2, ht3, hz_tz1, hz_tz3, hz_tz4, hz_tz16, hz_tz17, hz_tz20, hz_tz21, hz_tz24, hz_tz25, hz_tz26, hz_tz27, hz_tz33, hz_tz34, hz_tz37, hz_tz38, hz_RW, rfl⟩ := kz
  replace hP := swP hP
  replace hD := swD hD
  refine cSI (X := wZ V z pz fz gz) (pl := wx) (rest := rest) G (k_X10_hill_0 l V z a1 a2 (pz 0) (pz 5) (pz 6) (pz 7) (pz 8) (pz 9) (pz 10) (pz 11) (pz 12) (pz 13) (pz 14) (pz 18) (pz 19) (pz 22) (pz 23) (pz 29) (fz 0) (hp 5) (hp 6) (hp 7) (hp 8) (hp 10) (hp 11) (hp 12) (hp 13) (hp 14) (hp 18) (hp 22) (hp 29) hz_tz1) mt_X10_hill q_6_231 ⟨Nat.le_of_ble_eq_true rfl, Nat.le_of_ble_eq_true rfl⟩ hP hD hS [0, 1] [0, 0] (by decide) (by decide +kernel) rfl 0 rfl rfl rfl rfl hlz rfl hro dL_law_359 hcs (fun r w H locs hw hPD hS => ?_)
  refine Exists.elim hw (fun v0 hw => ?_)
  refine And.elim (fun br hw => ?_) hw
  subst hw
  obtain ⟨hP, hD⟩ := hPD (wZ V z (up9 pz 0 v0) fz gz) rfl rfl
  replace hP := swP hP
  replace hD := swD hD
  exact kk r H locs _ ⟨(up9 pz 0 v0), fz, gz, (ivUp 0 hp (iv_top v0)), ht0, ht1, ht2, ht3, hz_tz1, hz_tz3, hz_tz4, hz_tz16, hz_tz17, hz_tz20, hz_tz21, hz_tz24, hz_tz25, hz_tz26, hz_tz27, hz_tz33, hz_tz34, hz_tz37, hz_tz38, hz_RW, rfl⟩ hP hD hS
theorem q_3_136 : Cond.code yX9_village prog_1_method_8_code 2 (some FieldType.int) ∈ gw := gw_3 (i := 136) (rfl) rfl
theorem q_3_134 : Cond.instanceMethod yX9_village ∈ gw := gw_3 (i := 134) (by decide +kernel) rfl
theorem q_3_135 : Cond.selects "BeaconDelay" yX9_village yX9_village ∈ gw := gw_3 (i := 135) (by decide +kernel) rfl
theorem mt_X9_village : MtV yX9_village cX9_village 2 (some .int) 1 := ⟨⟨q_3_136, q_1_1, by decide +kernel, by decide +kernel, by decide +kernel⟩, q_3_134, q_3_135⟩
theorem q_3_133 : Cond.methodLink "BeaconDelayLaw" 32 yX9_village ∈ gw := gw_3 (i := 133) (by decide +kernel) rfl
theorem dL_law_372 : decode cL_law 372 = .ok (.invokevirtual 32, 3) := by decide +kernel
set_option maxHeartbeats 4000000 in
set_option maxRecDepth 100000 in
theorem cx_4_s {p : Program} {e : Env} {s : State} {m : MethodId} {below : List Frame} {meth : Method} {c : Code} {l : Launch} {b Lk : Nat} {xs : Nat → Int32} {V : GV} {y : Nat → Nat} {τ : Nat → Int32} {H : Heap} {locs : List Loc} {cells slots : Nat} {wz : va_W} {ls : Array Slot} (G : LCx p s m meth c b Lk xs V) (a1 : Int32) {pp : Nat → Int32} {ff : Nat → Nat → Int32} {gg : Nat → Nat → Int64} {o10 o11 : Value} {rest : va_W} (hp : ivT tX pp) (ht0 : pp 0 = τ 0) (ht1 : pp 15 = τ 1) (ht2 : pp 16 = τ 2) (ht3 : BTs (ff 0) (tauT τ)) (ht4 : (∀ j, iv (-128) 127 ((ff 0) j))) (hR : RRo V y cells slots o10 o11 rest)  (hP : va_P V.1 vwCl (wB V y pp ff gg o10 o11 ++ rest ++ wz) H) (hD : va_D (AAs s) (wB V y pp ff gg o10 o11 ++ rest ++ wz)) (hS : va_S (AAs s) s.heap H locs) (hlz : ls.size = 4) (kk : (∀ (r : Int32) (H : Heap) (locs : List Loc) (cells slots : Nat) (wx : va_W), KX V y cells slots τ wx → va_P V.1 vwCl (wx ++ wz) H → va_D (AAs s) (wx ++ wz) → va_S (AAs s) s.heap H locs → W p l e room_1 s m #[Value.ref b] below meth c H locs cells slots (lw_Z below #[Value.ref b] s) (F0 m 375 ls [.int r]))) : W p l e room_1 s m #[Value.ref b] below meth c H locs cells slots (lw_Z below #[Value.ref b] s) (F0 m 372 ls [.int a1, .ref (y 0)]) := by
  rw [as3] at hP hD
  refine cSI (X := wB V y pp ff gg o10 o11) (pl := rest ++ wz) (rest := []) G (k_X9_village_0 l V y a1 (pp 0) o10 o11 (pp 1) (pp 2) (pp 3) (pp 4) (pp 5) (pp 6) (pp 7) (pp 8) (pp 9) (pp 10) (pp 11) (pp 12) (pp 13) (pp 14) (ff 3) (hp 0) (hp 5) (hp 6) (hp 7) (hp 10) (hp 11) (hp 12) (hp 13) (hp 14)) mt_X9_village q_3_133 ⟨Nat.le_of_ble_eq_true rfl, Nat.le_of_ble_eq_true rfl⟩ hP hD hS [0, 2, 5] [0, 1, 2] (by decide) (by decide +kernel) rfl 0 rfl rfl rfl rfl hlz rfl (Nat.le_of_ble_eq_true rfl) dL_law_372 hR.room (fun r w H locs hw hPD hS => ?_)
  subst hw
  obtain ⟨hP, hD⟩ := hPD (wB V y pp ff gg o10 o11) rfl rfl
  rw [← as3] at hP hD
  exact kk r H locs (cells + 0) (slots + 0) _ ⟨pp, ff, gg, o10, o11, rest, hp, ht0, ht1, ht2, ht3, ht4, hR, rfl⟩ hP hD hS
set_option maxHeartbeats 4000000 in
set_option maxRecDepth 100000 in
theorem cx_4 {p : Program} {e : Env} {s : State} {m : MethodId} {below : List Frame} {meth : Method} {c : Code} {l : Launch} {b Lk : Nat} {xs : Nat → Int32} {V : GV} {y : Nat → Nat} {τ : Nat → Int32} {H : Heap} {locs : List Loc} {cells slots : Nat} {wz : va_W} {ls : Array Slot} (G : LCx p s m meth c b Lk xs V) (a1 : Int32) {wx : va_W} (kx : KX V y cells slots τ wx) (hP : va_P V.1 vwCl (wx ++ wz) H) (hD : va_D (AAs s) (wx ++ wz)) (hS : va_S (AAs s) s.heap H locs) (hlz : ls.size = 4) (kk : (∀ (r : Int32) (H : Heap) (locs : List Loc) (cells slots : Nat) (wx : va_W), KX V y cells slots τ wx → va_P V.1 vwCl (wx ++ wz) H → va_D (AAs s) (wx ++ wz) → va_S (AAs s) s.heap H locs → W p l e room_1 s m #[Value.ref b] below meth c H locs cells slots (lw_Z below #[Value.ref b] s) (F0 m 375 ls [.int r]))) : W p l e room_1 s m #[Value.ref b] below meth c H locs cells slots (lw_Z below #[Value.ref b] s) (F0 m 372 ls [.int a1, .ref (y 0)]) := by
  obtain ⟨pp, ff, gg, o10, o11, rest, hp, ht0, ht1, ht2, ht3, ht4, hR, rfl⟩ := kx
  exact cx_4_s G _ hp ht0 ht1 ht2 ht3 ht4 hR hP hD hS hlz kk
theorem q_7_2 : Cond.code yX10_village prog_12_method_53_code 2 (some FieldType.int) ∈ gw := gw_7 (i := 2) (rfl) rfl
theorem q_7_0 : Cond.instanceMethod yX10_village ∈ gw := gw_7 (i := 0) (by decide +kernel) rfl
theorem q_7_1 : Cond.selects "BeaconDelayModel" yX10_village yX10_village ∈ gw := gw_7 (i := 1) (by decide +kernel) rfl
theorem mt_X10_village : MtV yX10_village cX10_village 2 (some .int) 1 := ⟨⟨q_7_2, q_1_9, by decide +kernel, by decide +kernel, by decide +kernel⟩, q_7_0, q_7_1⟩
theorem q_6_239 : Cond.methodLink "BeaconDelayLaw" 35 yX10_village ∈ gw := gw_6 (i := 239) (by decide +kernel) rfl
theorem dL_law_382 : decode cL_law 382 = .ok (.invokevirtual 35, 3) := by decide +kernel
set_option maxHeartbeats 4000000 in
set_option maxRecDepth 100000 in
theorem cz_4 {p : Program} {e : Env} {s : State} {m : MethodId} {below : List Frame} {meth : Method} {c : Code} {l : Launch} {b Lk : Nat} {xs : Nat → Int32} {V : GV} {z : Nat → Nat} {τ : Nat → Int32} {H : Heap} {locs : List Loc} {cells slots : Nat} {wx : va_W} {ls : Array Slot} {rest : List Value} (G : LCx p s m meth c b Lk xs V) (a1 : Int32) {wz : va_W} (kz : KZ V z τ wz) (hP : va_P V.1 vwCl (wx ++ wz) H) (hD : va_D (AAs s) (wx ++ wz)) (hS : va_S (AAs s) s.heap H locs) (hcs : cells + 0 ≤ 600000 ∧ slots + 0 ≤ 7302250) (hro : (rest.map fun v => v.category).sum ≤ 8) (hlz : ls.size = 4) (kk : (∀ (r : Int32) (H : Heap) (locs : List Loc) (wz : va_W), KZ V z τ wz → va_P V.1 vwCl (wx ++ wz) H → va_D (AAs s) (wx ++ wz) → va_S (AAs s) s.heap H locs → W p l e room_1 s m #[Value.ref b] below meth c H locs cells slots (lw_Z below #[Value.ref b] s) (F0 m 385 ls (.int r :: rest)))) : W p l e room_1 s m #[Value.ref b] below meth c H locs cells slots (lw_Z below #[Value.ref b] s) (F0 m 382 ls (.int a1 :: .ref (z 0) :: rest)) := by
  obtain ⟨pz, fz, gz, hp, ht0, ht1, ht2, ht3, hz_tz1, hz_tz3, hz_tz4, hz_tz16, hz_tz17, hz_tz20, hz_tz21, hz_tz24, hz_tz25, hz_tz26, hz_tz27, hz_tz33, hz_tz34, hz_tz37, hz_tz38, hz_RW, rfl⟩ := kz
  replace hP := swP hP
  replace hD := swD hD
  refine cSI (X := wZ V z pz fz gz) (pl := wx) (rest := rest) G (k_X10_village_0 l V z a1 (pz 0) (pz 5) (pz 6) (pz 7) (pz 8) (pz 9) (pz 10) (pz 11) (pz 12) (pz 13) (pz 14) (pz 18) (pz 19) (pz 22) (pz 23) (pz 29) (fz 0) (hp 5) (hp 6) (hp 7) (hp 8) (hp 10) (hp 11) (hp 12) (hp 13) (hp 14) (hp 18) (hp 22) (hp 29) hz_tz1) mt_X10_village q_6_239 ⟨Nat.le_of_ble_eq_true rfl, Nat.le_of_ble_eq_true rfl⟩ hP hD hS [0, 1] [0, 0] (by decide) (by decide +kernel) rfl 0 rfl rfl rfl rfl hlz rfl hro dL_law_382 hcs (fun r w H locs hw hPD hS => ?_)
  refine Exists.elim hw (fun v0 hw => ?_)
  refine And.elim (fun br hw => ?_) hw
  subst hw
  obtain ⟨hP, hD⟩ := hPD (wZ V z (up9 pz 0 v0) fz gz) rfl rfl
  replace hP := swP hP
  replace hD := swD hD
  exact kk r H locs _ ⟨(up9 pz 0 v0), fz, gz, (ivUp 0 hp (iv_top v0)), ht0, ht1, ht2, ht3, hz_tz1, hz_tz3, hz_tz4, hz_tz16, hz_tz17, hz_tz20, hz_tz21, hz_tz24, hz_tz25, hz_tz26, hz_tz27, hz_tz33, hz_tz34, hz_tz37, hz_tz38, hz_RW, rfl⟩ hP hD hS
theorem q_3_140 : Cond.code yX9_takes prog_1_method_9_code 3 (some FieldType.int) ∈ gw := gw_3 (i := 140) (rfl) rfl
theorem q_3_138 : Cond.instanceMethod yX9_takes ∈ gw := gw_3 (i := 138) (by decide +kernel) rfl
theorem q_3_139 : Cond.selects "BeaconDelay" yX9_takes yX9_takes ∈ gw := gw_3 (i := 139) (by decide +kernel) rfl
theorem mt_X9_takes : MtV yX9_takes cX9_takes 3 (some .int) 2 := ⟨⟨q_3_140, q_1_1, by decide +kernel, by decide +kernel, by decide +kernel⟩, q_3_138, q_3_139⟩
theorem q_3_137 : Cond.methodLink "BeaconDelayLaw" 36 yX9_takes ∈ gw := gw_3 (i := 137) (by decide +kernel) rfl
theorem dL_law_400 : decode cL_law 400 = .ok (.invokevirtual 36, 3) := by decide +kernel
set_option maxHeartbeats 4000000 in
set_option maxRecDepth 100000 in
theorem cx_5_s {p : Program} {e : Env} {s : State} {m : MethodId} {below : List Frame} {meth : Method} {c : Code} {l : Launch} {b Lk : Nat} {xs : Nat → Int32} {V : GV} {y : Nat → Nat} {τ : Nat → Int32} {H : Heap} {locs : List Loc} {cells slots : Nat} {wz : va_W} {ls : Array Slot} (G : LCx p s m meth c b Lk xs V) (a1 : Int32) (a2 : Int32) {pp : Nat → Int32} {ff : Nat → Nat → Int32} {gg : Nat → Nat → Int64} {o10 o11 : Value} {rest : va_W} (hp : ivT tX pp) (ht0 : pp 0 = τ 0) (ht1 : pp 15 = τ 1) (ht2 : pp 16 = τ 2) (ht3 : BTs (ff 0) (tauT τ)) (ht4 : (∀ j, iv (-128) 127 ((ff 0) j))) (hR : RRo V y cells slots o10 o11 rest)  (hP : va_P V.1 vwCl (wB V y pp ff gg o10 o11 ++ rest ++ wz) H) (hD : va_D (AAs s) (wB V y pp ff gg o10 o11 ++ rest ++ wz)) (hS : va_S (AAs s) s.heap H locs) (hlz : ls.size = 4) (kk : (∀ (r : Int32) (H : Heap) (locs : List Loc) (cells slots : Nat) (wx : va_W), KX V y cells slots τ wx → va_P V.1 vwCl (wx ++ wz) H → va_D (AAs s) (wx ++ wz) → va_S (AAs s) s.heap H locs → W p l e room_1 s m #[Value.ref b] below meth c H locs cells slots (lw_Z below #[Value.ref b] s) (F0 m 403 ls [.int r]))) : W p l e room_1 s m #[Value.ref b] below meth c H locs cells slots (lw_Z below #[Value.ref b] s) (F0 m 400 ls [.int a2, .int a1, .ref (y 0)]) := by
  rw [as3] at hP hD
  refine cSI (X := wB V y pp ff gg o10 o11) (pl := rest ++ wz) (rest := []) G (k_X9_takes_0 l V y a1 a2 (pp 0) o10 o11 (pp 1) (pp 2) (pp 3) (pp 4) (pp 5) (pp 6) (pp 7) (pp 8) (pp 9) (pp 10) (pp 11) (pp 12) (pp 13) (pp 14) (ff 1) (ff 7) (ff 15) (ff 16) (ff 17) (hp 0) (hp 5) (hp 6) (hp 7) (hp 10) (hp 11) (hp 12) (hp 13) (hp 14)) mt_X9_takes q_3_137 ⟨Nat.le_of_ble_eq_true rfl, Nat.le_of_ble_eq_true rfl⟩ hP hD hS [0, 2, 3, 9, 19, 20, 21, 22] [0, 1, 0, 5, 9, 0, 0, 0] (by decide) (by decide +kernel) rfl 0 rfl rfl rfl rfl hlz rfl (Nat.le_of_ble_eq_true rfl) dL_law_400 hR.room (fun r w H locs hw hPD hS => ?_)
  refine Exists.elim hw (fun g0 hw => ?_)
  refine Exists.elim hw (fun g1 hw => ?_)
  refine Exists.elim hw (fun g2 hw => ?_)
  subst hw
  obtain ⟨hP, hD⟩ := hPD (wB V y pp (up9 (up9 (up9 ff 15 g0) 16 g1) 17 g2) gg o10 o11) rfl rfl
  rw [← as3] at hP hD
  exact kk r H locs (cells + 0) (slots + 0) _ ⟨pp, (up9 (up9 (up9 ff 15 g0) 16 g1) 17 g2), gg, o10, o11, rest, hp, ht0, ht1, ht2, ht3, ht4, hR, rfl⟩ hP hD hS
set_option maxHeartbeats 4000000 in
set_option maxRecDepth 100000 in
theorem cx_5 {p : Program} {e : Env} {s : State} {m : MethodId} {below : List Frame} {meth : Method} {c : Code} {l : Launch} {b Lk : Nat} {xs : Nat → Int32} {V : GV} {y : Nat → Nat} {τ : Nat → Int32} {H : Heap} {locs : List Loc} {cells slots : Nat} {wz : va_W} {ls : Array Slot} (G : LCx p s m meth c b Lk xs V) (a1 : Int32) (a2 : Int32) {wx : va_W} (kx : KX V y cells slots τ wx) (hP : va_P V.1 vwCl (wx ++ wz) H) (hD : va_D (AAs s) (wx ++ wz)) (hS : va_S (AAs s) s.heap H locs) (hlz : ls.size = 4) (kk : (∀ (r : Int32) (H : Heap) (locs : List Loc) (cells slots : Nat) (wx : va_W), KX V y cells slots τ wx → va_P V.1 vwCl (wx ++ wz) H → va_D (AAs s) (wx ++ wz) → va_S (AAs s) s.heap H locs → W p l e room_1 s m #[Value.ref b] below meth c H locs cells slots (lw_Z below #[Value.ref b] s) (F0 m 403 ls [.int r]))) : W p l e room_1 s m #[Value.ref b] below meth c H locs cells slots (lw_Z below #[Value.ref b] s) (F0 m 400 ls [.int a2, .int a1, .ref (y 0)]) := by
  obtain ⟨pp, ff, gg, o10, o11, rest, hp, ht0, ht1, ht2, ht3, ht4, hR, rfl⟩ := kx
  exact cx_5_s G _ _ hp ht0 ht1 ht2 ht3 ht4 hR hP hD hS hlz kk
theorem q_7_6 : Cond.code yX10_takes prog_12_method_54_code 3 (some FieldType.int) ∈ gw := gw_7 (i := 6) (rfl) rfl
theorem q_7_4 : Cond.instanceMethod yX10_takes ∈ gw := gw_7 (i := 4) (by decide +kernel) rfl
theorem q_7_5 : Cond.selects "BeaconDelayModel" yX10_takes yX10_takes ∈ gw := gw_7 (i := 5) (by decide +kernel) rfl
theorem mt_X10_takes : MtV yX10_takes cX10_takes 3 (some .int) 2 := ⟨⟨q_7_6, q_1_9, by decide +kernel, by decide +kernel, by decide +kernel⟩, q_7_4, q_7_5⟩
theorem q_7_3 : Cond.methodLink "BeaconDelayLaw" 39 yX10_takes ∈ gw := gw_7 (i := 3) (by decide +kernel) rfl
theorem dL_law_415 : decode cL_law 415 = .ok (.invokevirtual 39, 3) := by decide +kernel
set_option maxHeartbeats 4000000 in
set_option maxRecDepth 100000 in
theorem cz_5 {p : Program} {e : Env} {s : State} {m : MethodId} {below : List Frame} {meth : Method} {c : Code} {l : Launch} {b Lk : Nat} {xs : Nat → Int32} {V : GV} {z : Nat → Nat} {τ : Nat → Int32} {H : Heap} {locs : List Loc} {cells slots : Nat} {wx : va_W} {ls : Array Slot} {rest : List Value} (G : LCx p s m meth c b Lk xs V) (a1 : Int32) (a2 : Int32) {wz : va_W} (kz : KZ V z τ wz) (hP : va_P V.1 vwCl (wx ++ wz) H) (hD : va_D (AAs s) (wx ++ wz)) (hS : va_S (AAs s) s.heap H locs) (hcs : cells + 0 ≤ 600000 ∧ slots + 0 ≤ 7302250) (hro : (rest.map fun v => v.category).sum ≤ 8) (hlz : ls.size = 4) (kk : (∀ (r : Int32) (H : Heap) (locs : List Loc) (wz : va_W), KZ V z τ wz → va_P V.1 vwCl (wx ++ wz) H → va_D (AAs s) (wx ++ wz) → va_S (AAs s) s.heap H locs → W p l e room_1 s m #[Value.ref b] below meth c H locs cells slots (lw_Z below #[Value.ref b] s) (F0 m 418 ls (.int r :: rest)))) : W p l e room_1 s m #[Value.ref b] below meth c H locs cells slots (lw_Z below #[Value.ref b] s) (F0 m 415 ls (.int a2 :: .int a1 :: .ref (z 0) :: rest)) := by
  obtain ⟨pz, fz, gz, hp, ht0, ht1, ht2, ht3, hz_tz1, hz_tz3, hz_tz4, hz_tz16, hz_tz17, hz_tz20, hz_tz21, hz_tz24, hz_tz25, hz_tz26, hz_tz27, hz_tz33, hz_tz34, hz_tz37, hz_tz38, hz_RW, rfl⟩ := kz
  replace hP := swP hP
  replace hD := swD hD
  refine cSI (X := wZ V z pz fz gz) (pl := wx) (rest := rest) G (k_X10_takes_0 l V z a1 a2 (pz 0) (pz 5) (pz 6) (pz 7) (pz 8) (pz 9) (pz 10) (pz 11) (pz 12) (pz 13) (pz 14) (pz 18) (pz 19) (pz 22) (pz 23) (pz 29) (fz 0) (fz 4) (fz 5) (hp 5) (hp 6) (hp 7) (hp 8) (hp 10) (hp 11) (hp 12) (hp 13) (hp 14) (hp 18) (hp 22) (hp 29) hz_tz1 hz_tz16 hz_RW) mt_X10_takes q_7_3 ⟨Nat.le_of_ble_eq_true rfl, Nat.le_of_ble_eq_true rfl⟩ hP hD hS [0, 1, 5, 6] [0, 0, 3, 0] (by decide) (by decide +kernel) rfl 0 rfl rfl rfl rfl hlz rfl hro dL_law_415 hcs (fun r w H locs hw hPD hS => ?_)
  refine Exists.elim hw (fun v0 hw => ?_)
  refine Exists.elim hw (fun g1 hw => ?_)
  refine Exists.elim hw (fun g2 hw => ?_)
  refine And.elim (fun bg2 hw => ?_) hw
  refine And.elim (fun br hw => ?_) hw
  refine And.elim (fun g_0 hw => ?_) hw
  subst hw
  obtain ⟨hP, hD⟩ := hPD (wZ V z (up9 pz 0 v0) (up9 (up9 fz 4 g1) 5 g2) gz) rfl rfl
  replace hP := swP hP
  replace hD := swD hD
  exact kk r H locs _ ⟨(up9 pz 0 v0), (up9 (up9 fz 4 g1) 5 g2), gz, (ivUp 0 hp (iv_top v0)), ht0, ht1, ht2, ht3, hz_tz1, hz_tz3, hz_tz4, bg2, hz_tz17, hz_tz20, hz_tz21, hz_tz24, hz_tz25, hz_tz26, hz_tz27, hz_tz33, hz_tz34, hz_tz37, hz_tz38, g_0, rfl⟩ hP hD hS
theorem q_3_172 : Cond.code yX9_by prog_1_method_10_code 3 (some FieldType.int) ∈ gw := gw_3 (i := 172) (rfl) rfl
theorem q_3_170 : Cond.instanceMethod yX9_by ∈ gw := gw_3 (i := 170) (by decide +kernel) rfl
theorem q_3_171 : Cond.selects "BeaconDelay" yX9_by yX9_by ∈ gw := gw_3 (i := 171) (by decide +kernel) rfl
theorem mt_X9_by : MtV yX9_by cX9_by 3 (some .int) 2 := ⟨⟨q_3_172, q_1_1, by decide +kernel, by decide +kernel, by decide +kernel⟩, q_3_170, q_3_171⟩
theorem q_3_169 : Cond.methodLink "BeaconDelayLaw" 40 yX9_by ∈ gw := gw_3 (i := 169) (by decide +kernel) rfl
theorem dL_law_433 : decode cL_law 433 = .ok (.invokevirtual 40, 3) := by decide +kernel
set_option maxHeartbeats 4000000 in
set_option maxRecDepth 100000 in
theorem cx_6_s {p : Program} {e : Env} {s : State} {m : MethodId} {below : List Frame} {meth : Method} {c : Code} {l : Launch} {b Lk : Nat} {xs : Nat → Int32} {V : GV} {y : Nat → Nat} {τ : Nat → Int32} {H : Heap} {locs : List Loc} {cells slots : Nat} {wz : va_W} {ls : Array Slot} (G : LCx p s m meth c b Lk xs V) (a1 : Int32) (a2 : Int32) {pp : Nat → Int32} {ff : Nat → Nat → Int32} {gg : Nat → Nat → Int64} {o10 o11 : Value} {rest : va_W} (hp : ivT tX pp) (ht0 : pp 0 = τ 0) (ht1 : pp 15 = τ 1) (ht2 : pp 16 = τ 2) (ht3 : BTs (ff 0) (tauT τ)) (ht4 : (∀ j, iv (-128) 127 ((ff 0) j))) (hR : RRo V y cells slots o10 o11 rest)  (hP : va_P V.1 vwCl (wB V y pp ff gg o10 o11 ++ rest ++ wz) H) (hD : va_D (AAs s) (wB V y pp ff gg o10 o11 ++ rest ++ wz)) (hS : va_S (AAs s) s.heap H locs) (hlz : ls.size = 4) (kk : (∀ (r : Int32) (H : Heap) (locs : List Loc) (cells slots : Nat) (wx : va_W), KX V y cells slots τ wx → va_P V.1 vwCl (wx ++ wz) H → va_D (AAs s) (wx ++ wz) → va_S (AAs s) s.heap H locs → W p l e room_1 s m #[Value.ref b] below meth c H locs cells slots (lw_Z below #[Value.ref b] s) (F0 m 436 ls [.int r]))) : W p l e room_1 s m #[Value.ref b] below meth c H locs cells slots (lw_Z below #[Value.ref b] s) (F0 m 433 ls [.int a2, .int a1, .ref (y 0)]) := by
  rw [as3] at hP hD
  refine cSI (X := wB V y pp ff gg o10 o11) (pl := rest ++ wz) (rest := []) G (k_X9_by_0 l V y a1 a2 (pp 0) o10 o11 (pp 1) (pp 2) (pp 3) (pp 4) (pp 5) (pp 6) (pp 7) (pp 8) (pp 9) (pp 10) (pp 11) (pp 12) (pp 13) (pp 14) (ff 1) (ff 7) (ff 15) (ff 16) (ff 17) (hp 0) (hp 5) (hp 6) (hp 7) (hp 10) (hp 11) (hp 12) (hp 13) (hp 14)) mt_X9_by q_3_169 ⟨Nat.le_of_ble_eq_true rfl, Nat.le_of_ble_eq_true rfl⟩ hP hD hS [0, 2, 3, 9, 19, 20, 21, 22] [0, 1, 0, 5, 9, 0, 0, 0] (by decide) (by decide +kernel) rfl 0 rfl rfl rfl rfl hlz rfl (Nat.le_of_ble_eq_true rfl) dL_law_433 hR.room (fun r w H locs hw hPD hS => ?_)
  refine Exists.elim hw (fun g0 hw => ?_)
  refine Exists.elim hw (fun g1 hw => ?_)
  refine Exists.elim hw (fun g2 hw => ?_)
  subst hw
  obtain ⟨hP, hD⟩ := hPD (wB V y pp (up9 (up9 (up9 ff 15 g0) 16 g1) 17 g2) gg o10 o11) rfl rfl
  rw [← as3] at hP hD
  exact kk r H locs (cells + 0) (slots + 0) _ ⟨pp, (up9 (up9 (up9 ff 15 g0) 16 g1) 17 g2), gg, o10, o11, rest, hp, ht0, ht1, ht2, ht3, ht4, hR, rfl⟩ hP hD hS
set_option maxHeartbeats 4000000 in
set_option maxRecDepth 100000 in
theorem cx_6 {p : Program} {e : Env} {s : State} {m : MethodId} {below : List Frame} {meth : Method} {c : Code} {l : Launch} {b Lk : Nat} {xs : Nat → Int32} {V : GV} {y : Nat → Nat} {τ : Nat → Int32} {H : Heap} {locs : List Loc} {cells slots : Nat} {wz : va_W} {ls : Array Slot} (G : LCx p s m meth c b Lk xs V) (a1 : Int32) (a2 : Int32) {wx : va_W} (kx : KX V y cells slots τ wx) (hP : va_P V.1 vwCl (wx ++ wz) H) (hD : va_D (AAs s) (wx ++ wz)) (hS : va_S (AAs s) s.heap H locs) (hlz : ls.size = 4) (kk : (∀ (r : Int32) (H : Heap) (locs : List Loc) (cells slots : Nat) (wx : va_W), KX V y cells slots τ wx → va_P V.1 vwCl (wx ++ wz) H → va_D (AAs s) (wx ++ wz) → va_S (AAs s) s.heap H locs → W p l e room_1 s m #[Value.ref b] below meth c H locs cells slots (lw_Z below #[Value.ref b] s) (F0 m 436 ls [.int r]))) : W p l e room_1 s m #[Value.ref b] below meth c H locs cells slots (lw_Z below #[Value.ref b] s) (F0 m 433 ls [.int a2, .int a1, .ref (y 0)]) := by
  obtain ⟨pp, ff, gg, o10, o11, rest, hp, ht0, ht1, ht2, ht3, ht4, hR, rfl⟩ := kx
  exact cx_6_s G _ _ hp ht0 ht1 ht2 ht3 ht4 hR hP hD hS hlz kk
theorem q_7_55 : Cond.code yX10_by prog_12_method_55_code 3 (some FieldType.int) ∈ gw := gw_7 (i := 55) (rfl) rfl
theorem q_7_53 : Cond.instanceMethod yX10_by ∈ gw := gw_7 (i := 53) (by decide +kernel) rfl
theorem q_7_54 : Cond.selects "BeaconDelayModel" yX10_by yX10_by ∈ gw := gw_7 (i := 54) (by decide +kernel) rfl
theorem mt_X10_by : MtV yX10_by cX10_by 3 (some .int) 2 := ⟨⟨q_7_55, q_1_9, by decide +kernel, by decide +kernel, by decide +kernel⟩, q_7_53, q_7_54⟩
theorem q_7_52 : Cond.methodLink "BeaconDelayLaw" 43 yX10_by ∈ gw := gw_7 (i := 52) (by decide +kernel) rfl
theorem dL_law_448 : decode cL_law 448 = .ok (.invokevirtual 43, 3) := by decide +kernel
set_option maxHeartbeats 4000000 in
set_option maxRecDepth 100000 in
theorem cz_6 {p : Program} {e : Env} {s : State} {m : MethodId} {below : List Frame} {meth : Method} {c : Code} {l : Launch} {b Lk : Nat} {xs : Nat → Int32} {V : GV} {z : Nat → Nat} {τ : Nat → Int32} {H : Heap} {locs : List Loc} {cells slots : Nat} {wx : va_W} {ls : Array Slot} {rest : List Value} (G : LCx p s m meth c b Lk xs V) (a1 : Int32) (a2 : Int32) {wz : va_W} (kz : KZ V z τ wz) (hP : va_P V.1 vwCl (wx ++ wz) H) (hD : va_D (AAs s) (wx ++ wz)) (hS : va_S (AAs s) s.heap H locs) (hcs : cells + 0 ≤ 600000 ∧ slots + 0 ≤ 7302250) (hro : (rest.map fun v => v.category).sum ≤ 8) (hlz : ls.size = 4) (kk : (∀ (r : Int32) (H : Heap) (locs : List Loc) (wz : va_W), KZ V z τ wz → va_P V.1 vwCl (wx ++ wz) H → va_D (AAs s) (wx ++ wz) → va_S (AAs s) s.heap H locs → W p l e room_1 s m #[Value.ref b] below meth c H locs cells slots (lw_Z below #[Value.ref b] s) (F0 m 451 ls (.int r :: rest)))) : W p l e room_1 s m #[Value.ref b] below meth c H locs cells slots (lw_Z below #[Value.ref b] s) (F0 m 448 ls (.int a2 :: .int a1 :: .ref (z 0) :: rest)) := by
  obtain ⟨pz, fz, gz, hp, ht0, ht1, ht2, ht3, hz_tz1, hz_tz3, hz_tz4, hz_tz16, hz_tz17, hz_tz20, hz_tz21, hz_tz24, hz_tz25, hz_tz26, hz_tz27, hz_tz33, hz_tz34, hz_tz37, hz_tz38, hz_RW, rfl⟩ := kz
  replace hP := swP hP
  replace hD := swD hD
  refine cSI (X := wZ V z pz fz gz) (pl := wx) (rest := rest) G (k_X10_by_0 l V z a1 a2 (pz 0) (pz 5) (pz 6) (pz 7) (pz 8) (pz 9) (pz 10) (pz 11) (pz 12) (pz 13) (pz 14) (pz 18) (pz 19) (pz 22) (pz 23) (pz 29) (fz 0) (fz 4) (fz 5) (hp 5) (hp 6) (hp 7) (hp 8) (hp 10) (hp 11) (hp 12) (hp 13) (hp 14) (hp 18) (hp 22) (hp 29) hz_tz1 hz_tz16 hz_RW) mt_X10_by q_7_52 ⟨Nat.le_of_ble_eq_true rfl, Nat.le_of_ble_eq_true rfl⟩ hP hD hS [0, 1, 5, 6] [0, 0, 3, 0] (by decide) (by decide +kernel) rfl 0 rfl rfl rfl rfl hlz rfl hro dL_law_448 hcs (fun r w H locs hw hPD hS => ?_)
  refine Exists.elim hw (fun v0 hw => ?_)
  refine Exists.elim hw (fun g1 hw => ?_)
  refine Exists.elim hw (fun g2 hw => ?_)
  refine And.elim (fun bg2 hw => ?_) hw
  refine And.elim (fun br hw => ?_) hw
  refine And.elim (fun g_0 hw => ?_) hw
  subst hw
  obtain ⟨hP, hD⟩ := hPD (wZ V z (up9 pz 0 v0) (up9 (up9 fz 4 g1) 5 g2) gz) rfl rfl
  replace hP := swP hP
  replace hD := swD hD
  exact kk r H locs _ ⟨(up9 pz 0 v0), (up9 (up9 fz 4 g1) 5 g2), gz, (ivUp 0 hp (iv_top v0)), ht0, ht1, ht2, ht3, hz_tz1, hz_tz3, hz_tz4, bg2, hz_tz17, hz_tz20, hz_tz21, hz_tz24, hz_tz25, hz_tz26, hz_tz27, hz_tz33, hz_tz34, hz_tz37, hz_tz38, g_0, rfl⟩ hP hD hS
theorem q_3_176 : Cond.code yX9_night prog_1_method_18_code 2 (some FieldType.int) ∈ gw := gw_3 (i := 176) (rfl) rfl
theorem q_3_174 : Cond.instanceMethod yX9_night ∈ gw := gw_3 (i := 174) (by decide +kernel) rfl
theorem q_3_175 : Cond.selects "BeaconDelay" yX9_night yX9_night ∈ gw := gw_3 (i := 175) (by decide +kernel) rfl
theorem mt_X9_night : MtV yX9_night cX9_night 2 (some .int) 1 := ⟨⟨q_3_176, q_1_1, by decide +kernel, by decide +kernel, by decide +kernel⟩, q_3_174, q_3_175⟩
theorem q_3_173 : Cond.methodLink "BeaconDelayLaw" 44 yX9_night ∈ gw := gw_3 (i := 173) (by decide +kernel) rfl
theorem dL_law_461 : decode cL_law 461 = .ok (.invokevirtual 44, 3) := by decide +kernel
set_option maxHeartbeats 4000000 in
set_option maxRecDepth 100000 in
theorem cx_7_s {p : Program} {e : Env} {s : State} {m : MethodId} {below : List Frame} {meth : Method} {c : Code} {l : Launch} {b Lk : Nat} {xs : Nat → Int32} {V : GV} {y : Nat → Nat} {τ : Nat → Int32} {H : Heap} {locs : List Loc} {cells slots : Nat} {wz : va_W} {ls : Array Slot} (G : LCx p s m meth c b Lk xs V) (a1 : Int32) {pp : Nat → Int32} {ff : Nat → Nat → Int32} {gg : Nat → Nat → Int64} {o10 o11 : Value} {rest : va_W} (hp : ivT tX pp) (ht0 : pp 0 = τ 0) (ht1 : pp 15 = τ 1) (ht2 : pp 16 = τ 2) (ht3 : BTs (ff 0) (tauT τ)) (ht4 : (∀ j, iv (-128) 127 ((ff 0) j))) (hR : RRo V y cells slots o10 o11 rest)  (hP : va_P V.1 vwCl (wB V y pp ff gg o10 o11 ++ rest ++ wz) H) (hD : va_D (AAs s) (wB V y pp ff gg o10 o11 ++ rest ++ wz)) (hS : va_S (AAs s) s.heap H locs) (hlz : ls.size = 4) (kk : (∀ (r : Int32) (H : Heap) (locs : List Loc) (cells slots : Nat) (wx : va_W), KX V y cells slots τ wx → va_P V.1 vwCl (wx ++ wz) H → va_D (AAs s) (wx ++ wz) → va_S (AAs s) s.heap H locs → W p l e room_1 s m #[Value.ref b] below meth c H locs cells slots (lw_Z below #[Value.ref b] s) (F0 m 464 ls [.int r]))) : W p l e room_1 s m #[Value.ref b] below meth c H locs cells slots (lw_Z below #[Value.ref b] s) (F0 m 461 ls [.int a1, .ref (y 0)]) := by
  rw [as3] at hP hD
  refine cSI (X := wB V y pp ff gg o10 o11) (pl := rest ++ wz) (rest := []) G (k_X9_night_0 l V y a1 (pp 0) o10 o11 (pp 1) (pp 2) (pp 3) (pp 4) (pp 5) (pp 6) (pp 7) (pp 8) (pp 9) (pp 10) (pp 11) (pp 12) (pp 13) (pp 14) (ff 1) (ff 7) (ff 15) (ff 16) (ff 17) (pp 35) (ff 20) (ff 21) (ff 22) (hp 0) (hp 5) (hp 6) (hp 7) (hp 10) (hp 11) (hp 12) (hp 13) (hp 14) (hp 35)) mt_X9_night q_3_173 ⟨Nat.le_of_ble_eq_true rfl, Nat.le_of_ble_eq_true rfl⟩ hP hD hS [0, 2, 3, 9, 19, 20, 21, 22, 26, 27, 28, 29] [0, 1, 0, 5, 9, 0, 0, 0, 3, 0, 0, 0] (by decide) (by decide +kernel) rfl 0 rfl rfl rfl rfl hlz rfl (Nat.le_of_ble_eq_true rfl) dL_law_461 hR.room (fun r w H locs hw hPD hS => ?_)
  refine Exists.elim hw (fun v0 hw => ?_)
  refine Exists.elim hw (fun v1 hw => ?_)
  refine Exists.elim hw (fun v2 hw => ?_)
  refine Exists.elim hw (fun g3 hw => ?_)
  refine Exists.elim hw (fun g4 hw => ?_)
  refine Exists.elim hw (fun g5 hw => ?_)
  refine Exists.elim hw (fun v6 hw => ?_)
  refine Exists.elim hw (fun g7 hw => ?_)
  refine Exists.elim hw (fun g8 hw => ?_)
  refine Exists.elim hw (fun g9 hw => ?_)
  refine And.elim (fun bv6 hw => ?_) hw
  subst hw
  obtain ⟨hP, hD⟩ := hPD (wB V y (up9 (up9 (up9 (up9 pp 1 v0) 2 v1) 3 v2) 35 v6) (br9 23 (br9 11 ff (br9 17 (br9 14 ff (br9 15 ff (br9 16 (lf9 g3) (lf9 g4)))) (br9 20 (br9 18 (lf9 g5) ff) (br9 21 (lf9 g7) (br9 22 (lf9 g8) (lf9 g9)))))) ff) gg o10 o11) rfl rfl
  rw [← as3] at hP hD
  exact kk r H locs (cells + 0) (slots + 0) _ ⟨(up9 (up9 (up9 (up9 pp 1 v0) 2 v1) 3 v2) 35 v6), (br9 23 (br9 11 ff (br9 17 (br9 14 ff (br9 15 ff (br9 16 (lf9 g3) (lf9 g4)))) (br9 20 (br9 18 (lf9 g5) ff) (br9 21 (lf9 g7) (br9 22 (lf9 g8) (lf9 g9)))))) ff), gg, o10, o11, rest, (ivUp 35 (ivUp 3 (ivUp 2 (ivUp 1 hp (iv_top v0)) (iv_top v1)) (iv_top v2)) bv6), ht0, ht1, ht2, ht3, ht4, hR, rfl⟩ hP hD hS
set_option maxHeartbeats 4000000 in
set_option maxRecDepth 100000 in
theorem cx_7 {p : Program} {e : Env} {s : State} {m : MethodId} {below : List Frame} {meth : Method} {c : Code} {l : Launch} {b Lk : Nat} {xs : Nat → Int32} {V : GV} {y : Nat → Nat} {τ : Nat → Int32} {H : Heap} {locs : List Loc} {cells slots : Nat} {wz : va_W} {ls : Array Slot} (G : LCx p s m meth c b Lk xs V) (a1 : Int32) {wx : va_W} (kx : KX V y cells slots τ wx) (hP : va_P V.1 vwCl (wx ++ wz) H) (hD : va_D (AAs s) (wx ++ wz)) (hS : va_S (AAs s) s.heap H locs) (hlz : ls.size = 4) (kk : (∀ (r : Int32) (H : Heap) (locs : List Loc) (cells slots : Nat) (wx : va_W), KX V y cells slots τ wx → va_P V.1 vwCl (wx ++ wz) H → va_D (AAs s) (wx ++ wz) → va_S (AAs s) s.heap H locs → W p l e room_1 s m #[Value.ref b] below meth c H locs cells slots (lw_Z below #[Value.ref b] s) (F0 m 464 ls [.int r]))) : W p l e room_1 s m #[Value.ref b] below meth c H locs cells slots (lw_Z below #[Value.ref b] s) (F0 m 461 ls [.int a1, .ref (y 0)]) := by
  obtain ⟨pp, ff, gg, o10, o11, rest, hp, ht0, ht1, ht2, ht3, ht4, hR, rfl⟩ := kx
  exact cx_7_s G _ hp ht0 ht1 ht2 ht3 ht4 hR hP hD hS hlz kk
theorem q_7_59 : Cond.code yX10_night prog_12_method_60_code 2 (some FieldType.int) ∈ gw := gw_7 (i := 59) (rfl) rfl
theorem q_7_57 : Cond.instanceMethod yX10_night ∈ gw := gw_7 (i := 57) (by decide +kernel) rfl
theorem q_7_58 : Cond.selects "BeaconDelayModel" yX10_night yX10_night ∈ gw := gw_7 (i := 58) (by decide +kernel) rfl
theorem mt_X10_night : MtV yX10_night cX10_night 2 (some .int) 1 := ⟨⟨q_7_59, q_1_9, by decide +kernel, by decide +kernel, by decide +kernel⟩, q_7_57, q_7_58⟩
theorem q_7_56 : Cond.methodLink "BeaconDelayLaw" 47 yX10_night ∈ gw := gw_7 (i := 56) (by decide +kernel) rfl
theorem dL_law_471 : decode cL_law 471 = .ok (.invokevirtual 47, 3) := by decide +kernel
set_option maxHeartbeats 4000000 in
set_option maxRecDepth 100000 in
theorem cz_7 {p : Program} {e : Env} {s : State} {m : MethodId} {below : List Frame} {meth : Method} {c : Code} {l : Launch} {b Lk : Nat} {xs : Nat → Int32} {V : GV} {z : Nat → Nat} {τ : Nat → Int32} {H : Heap} {locs : List Loc} {cells slots : Nat} {wx : va_W} {ls : Array Slot} {rest : List Value} (G : LCx p s m meth c b Lk xs V) (a1 : Int32) {wz : va_W} (kz : KZ V z τ wz) (hP : va_P V.1 vwCl (wx ++ wz) H) (hD : va_D (AAs s) (wx ++ wz)) (hS : va_S (AAs s) s.heap H locs) (hcs : cells + 0 ≤ 600000 ∧ slots + 0 ≤ 7302250) (hro : (rest.map fun v => v.category).sum ≤ 8) (hlz : ls.size = 4) (kk : (∀ (r : Int32) (H : Heap) (locs : List Loc) (wz : va_W), KZ V z τ wz → va_P V.1 vwCl (wx ++ wz) H → va_D (AAs s) (wx ++ wz) → va_S (AAs s) s.heap H locs → W p l e room_1 s m #[Value.ref b] below meth c H locs cells slots (lw_Z below #[Value.ref b] s) (F0 m 474 ls (.int r :: rest)))) : W p l e room_1 s m #[Value.ref b] below meth c H locs cells slots (lw_Z below #[Value.ref b] s) (F0 m 471 ls (.int a1 :: .ref (z 0) :: rest)) := by
  obtain ⟨pz, fz, gz, hp, ht0, ht1, ht2, ht3, hz_tz1, hz_tz3, hz_tz4, hz_tz16, hz_tz17, hz_tz20, hz_tz21, hz_tz24, hz_tz25, hz_tz26, hz_tz27, hz_tz33, hz_tz34, hz_tz37, hz_tz38, hz_RW, rfl⟩ := kz
  replace hP := swP hP
  replace hD := swD hD
  refine cSI (X := wZ V z pz fz gz) (pl := wx) (rest := rest) G (k_X10_night_0 l V z a1 (pz 0) (pz 5) (pz 6) (pz 7) (pz 8) (pz 9) (pz 10) (pz 11) (pz 12) (pz 13) (pz 14) (pz 18) (pz 19) (pz 22) (pz 23) (pz 29) (fz 0) (fz 4) (fz 5) (fz 6) (hp 5) (hp 6) (hp 7) (hp 8) (hp 10) (hp 11) (hp 12) (hp 13) (hp 14) (hp 18) (hp 22) (hp 29) hz_tz1 hz_tz16 hz_tz17 hz_RW) mt_X10_night q_7_56 ⟨Nat.le_of_ble_eq_true rfl, Nat.le_of_ble_eq_true rfl⟩ hP hD hS [0, 1, 5, 6, 7] [0, 0, 3, 0, 0] (by decide) (by decide +kernel) rfl 0 rfl rfl rfl rfl hlz rfl hro dL_law_471 hcs (fun r w H locs hw hPD hS => ?_)
  refine Exists.elim hw (fun v0 hw => ?_)
  refine Exists.elim hw (fun g1 hw => ?_)
  refine Exists.elim hw (fun g2 hw => ?_)
  refine Exists.elim hw (fun g3 hw => ?_)
  refine Exists.elim hw (fun g4 hw => ?_)
  refine And.elim (fun bg1 hw => ?_) hw
  refine And.elim (fun bg3 hw => ?_) hw
  refine And.elim (fun bg4 hw => ?_) hw
  refine And.elim (fun br hw => ?_) hw
  refine And.elim (fun g_0 hw => ?_) hw
  subst hw
  obtain ⟨hP, hD⟩ := hPD (wZ V z (up9 pz 0 v0) (up9 (up9 (up9 (up9 fz 0 g1) 4 g2) 5 g3) 6 g4) gz) rfl rfl
  replace hP := swP hP
  replace hD := swD hD
  exact kk r H locs _ ⟨(up9 pz 0 v0), (up9 (up9 (up9 (up9 fz 0 g1) 4 g2) 5 g3) 6 g4), gz, (ivUp 0 hp (iv_top v0)), ht0, ht1, ht2, ht3, bg1, hz_tz3, hz_tz4, bg3, bg4, hz_tz20, hz_tz21, hz_tz24, hz_tz25, hz_tz26, hz_tz27, hz_tz33, hz_tz34, hz_tz37, hz_tz38, g_0, rfl⟩ hP hD hS
theorem q_3_207 : Cond.code yX9_nights prog_1_method_19_code 3 (some FieldType.int) ∈ gw := gw_3 (i := 207) (rfl) rfl
theorem q_3_205 : Cond.instanceMethod yX9_nights ∈ gw := gw_3 (i := 205) (by decide +kernel) rfl
theorem q_3_206 : Cond.selects "BeaconDelay" yX9_nights yX9_nights ∈ gw := gw_3 (i := 206) (by decide +kernel) rfl
theorem mt_X9_nights : MtV yX9_nights cX9_nights 3 (some .int) 1 := ⟨⟨q_3_207, q_1_1, by decide +kernel, by decide +kernel, by decide +kernel⟩, q_3_205, q_3_206⟩
theorem q_3_204 : Cond.methodLink "BeaconDelayLaw" 48 yX9_nights ∈ gw := gw_3 (i := 204) (by decide +kernel) rfl
theorem dL_law_484 : decode cL_law 484 = .ok (.invokevirtual 48, 3) := by decide +kernel
set_option maxHeartbeats 4000000 in
set_option maxRecDepth 100000 in
theorem cx_8_s {p : Program} {e : Env} {s : State} {m : MethodId} {below : List Frame} {meth : Method} {c : Code} {l : Launch} {b Lk : Nat} {xs : Nat → Int32} {V : GV} {y : Nat → Nat} {τ : Nat → Int32} {H : Heap} {locs : List Loc} {cells slots : Nat} {wz : va_W} {ls : Array Slot} (G : LCx p s m meth c b Lk xs V) (a1 : Int32) {pp : Nat → Int32} {ff : Nat → Nat → Int32} {gg : Nat → Nat → Int64} {o10 o11 : Value} {rest : va_W} (hp : ivT tX pp) (ht0 : pp 0 = τ 0) (ht1 : pp 15 = τ 1) (ht2 : pp 16 = τ 2) (ht3 : BTs (ff 0) (tauT τ)) (ht4 : (∀ j, iv (-128) 127 ((ff 0) j))) (hR : RRo V y cells slots o10 o11 rest)  (hP : va_P V.1 vwCl (wB V y pp ff gg o10 o11 ++ rest ++ wz) H) (hD : va_D (AAs s) (wB V y pp ff gg o10 o11 ++ rest ++ wz)) (hS : va_S (AAs s) s.heap H locs) (hlz : ls.size = 4) (kk : (∀ (r : Int32) (H : Heap) (locs : List Loc) (cells slots : Nat) (wx : va_W), KX V y cells slots τ wx → va_P V.1 vwCl (wx ++ wz) H → va_D (AAs s) (wx ++ wz) → va_S (AAs s) s.heap H locs → W p l e room_1 s m #[Value.ref b] below meth c H locs cells slots (lw_Z below #[Value.ref b] s) (F0 m 487 ls [.int r]))) : W p l e room_1 s m #[Value.ref b] below meth c H locs cells slots (lw_Z below #[Value.ref b] s) (F0 m 484 ls [.int a1, .ref (y 0)]) := by
  rw [as3] at hP hD
  refine cSI (X := wB V y pp ff gg o10 o11) (pl := rest ++ wz) (rest := []) G (k_X9_nights_0 l V y a1 (pp 0) o10 o11 (pp 1) (pp 2) (pp 3) (pp 4) (pp 5) (pp 6) (pp 7) (pp 8) (pp 9) (pp 10) (pp 11) (pp 12) (pp 13) (pp 14) (ff 1) (ff 7) (ff 15) (ff 16) (ff 17) (pp 35) (ff 20) (ff 21) (ff 22) (hp 0) (hp 5) (hp 6) (hp 7) (hp 10) (hp 11) (hp 12) (hp 13) (hp 14) (hp 35)) mt_X9_nights q_3_204 ⟨Nat.le_of_ble_eq_true rfl, Nat.le_of_ble_eq_true rfl⟩ hP hD hS [0, 2, 3, 9, 19, 20, 21, 22, 26, 27, 28, 29] [0, 1, 0, 5, 9, 0, 0, 0, 3, 0, 0, 0] (by decide) (by decide +kernel) rfl 0 rfl rfl rfl rfl hlz rfl (Nat.le_of_ble_eq_true rfl) dL_law_484 hR.room (fun r w H locs hw hPD hS => ?_)
  refine Exists.elim hw (fun v0 hw => ?_)
  refine Exists.elim hw (fun v1 hw => ?_)
  refine Exists.elim hw (fun v2 hw => ?_)
  refine Exists.elim hw (fun g3 hw => ?_)
  refine Exists.elim hw (fun g4 hw => ?_)
  refine Exists.elim hw (fun g5 hw => ?_)
  refine Exists.elim hw (fun v6 hw => ?_)
  refine Exists.elim hw (fun g7 hw => ?_)
  refine Exists.elim hw (fun g8 hw => ?_)
  refine Exists.elim hw (fun g9 hw => ?_)
  refine And.elim (fun bv6 hw => ?_) hw
  subst hw
  obtain ⟨hP, hD⟩ := hPD (wB V y (up9 (up9 (up9 (up9 pp 1 v0) 2 v1) 3 v2) 35 v6) (br9 23 (br9 11 ff (br9 17 (br9 14 ff (br9 15 ff (br9 16 (lf9 g3) (lf9 g4)))) (br9 20 (br9 18 (lf9 g5) ff) (br9 21 (lf9 g7) (br9 22 (lf9 g8) (lf9 g9)))))) ff) gg o10 o11) rfl rfl
  rw [← as3] at hP hD
  exact kk r H locs (cells + 0) (slots + 0) _ ⟨(up9 (up9 (up9 (up9 pp 1 v0) 2 v1) 3 v2) 35 v6), (br9 23 (br9 11 ff (br9 17 (br9 14 ff (br9 15 ff (br9 16 (lf9 g3) (lf9 g4)))) (br9 20 (br9 18 (lf9 g5) ff) (br9 21 (lf9 g7) (br9 22 (lf9 g8) (lf9 g9)))))) ff), gg, o10, o11, rest, (ivUp 35 (ivUp 3 (ivUp 2 (ivUp 1 hp (iv_top v0)) (iv_top v1)) (iv_top v2)) bv6), ht0, ht1, ht2, ht3, ht4, hR, rfl⟩ hP hD hS
set_option maxHeartbeats 4000000 in
set_option maxRecDepth 100000 in
theorem cx_8 {p : Program} {e : Env} {s : State} {m : MethodId} {below : List Frame} {meth : Method} {c : Code} {l : Launch} {b Lk : Nat} {xs : Nat → Int32} {V : GV} {y : Nat → Nat} {τ : Nat → Int32} {H : Heap} {locs : List Loc} {cells slots : Nat} {wz : va_W} {ls : Array Slot} (G : LCx p s m meth c b Lk xs V) (a1 : Int32) {wx : va_W} (kx : KX V y cells slots τ wx) (hP : va_P V.1 vwCl (wx ++ wz) H) (hD : va_D (AAs s) (wx ++ wz)) (hS : va_S (AAs s) s.heap H locs) (hlz : ls.size = 4) (kk : (∀ (r : Int32) (H : Heap) (locs : List Loc) (cells slots : Nat) (wx : va_W), KX V y cells slots τ wx → va_P V.1 vwCl (wx ++ wz) H → va_D (AAs s) (wx ++ wz) → va_S (AAs s) s.heap H locs → W p l e room_1 s m #[Value.ref b] below meth c H locs cells slots (lw_Z below #[Value.ref b] s) (F0 m 487 ls [.int r]))) : W p l e room_1 s m #[Value.ref b] below meth c H locs cells slots (lw_Z below #[Value.ref b] s) (F0 m 484 ls [.int a1, .ref (y 0)]) := by
  obtain ⟨pp, ff, gg, o10, o11, rest, hp, ht0, ht1, ht2, ht3, ht4, hR, rfl⟩ := kx
  exact cx_8_s G _ hp ht0 ht1 ht2 ht3 ht4 hR hP hD hS hlz kk
theorem q_7_79 : Cond.code yX10_nights prog_12_method_61_code 3 (some FieldType.int) ∈ gw := gw_7 (i := 79) (rfl) rfl
theorem q_7_77 : Cond.instanceMethod yX10_nights ∈ gw := gw_7 (i := 77) (by decide +kernel) rfl
theorem q_7_78 : Cond.selects "BeaconDelayModel" yX10_nights yX10_nights ∈ gw := gw_7 (i := 78) (by decide +kernel) rfl
theorem mt_X10_nights : MtV yX10_nights cX10_nights 3 (some .int) 1 := ⟨⟨q_7_79, q_1_9, by decide +kernel, by decide +kernel, by decide +kernel⟩, q_7_77, q_7_78⟩
theorem q_7_76 : Cond.methodLink "BeaconDelayLaw" 51 yX10_nights ∈ gw := gw_7 (i := 76) (by decide +kernel) rfl
theorem dL_law_494 : decode cL_law 494 = .ok (.invokevirtual 51, 3) := by decide +kernel
set_option maxHeartbeats 4000000 in
set_option maxRecDepth 100000 in
theorem cz_8 {p : Program} {e : Env} {s : State} {m : MethodId} {below : List Frame} {meth : Method} {c : Code} {l : Launch} {b Lk : Nat} {xs : Nat → Int32} {V : GV} {z : Nat → Nat} {τ : Nat → Int32} {H : Heap} {locs : List Loc} {cells slots : Nat} {wx : va_W} {ls : Array Slot} {rest : List Value} (G : LCx p s m meth c b Lk xs V) (a1 : Int32) {wz : va_W} (kz : KZ V z τ wz) (hP : va_P V.1 vwCl (wx ++ wz) H) (hD : va_D (AAs s) (wx ++ wz)) (hS : va_S (AAs s) s.heap H locs) (hcs : cells + 0 ≤ 600000 ∧ slots + 0 ≤ 7302250) (hro : (rest.map fun v => v.category).sum ≤ 8) (hlz : ls.size = 4) (kk : (∀ (r : Int32) (H : Heap) (locs : List Loc) (wz : va_W), KZ V z τ wz → va_P V.1 vwCl (wx ++ wz) H → va_D (AAs s) (wx ++ wz) → va_S (AAs s) s.heap H locs → W p l e room_1 s m #[Value.ref b] below meth c H locs cells slots (lw_Z below #[Value.ref b] s) (F0 m 497 ls (.int r :: rest)))) : W p l e room_1 s m #[Value.ref b] below meth c H locs cells slots (lw_Z below #[Value.ref b] s) (F0 m 494 ls (.int a1 :: .ref (z 0) :: rest)) := by
  obtain ⟨pz, fz, gz, hp, ht0, ht1, ht2, ht3, hz_tz1, hz_tz3, hz_tz4, hz_tz16, hz_tz17, hz_tz20, hz_tz21, hz_tz24, hz_tz25, hz_tz26, hz_tz27, hz_tz33, hz_tz34, hz_tz37, hz_tz38, hz_RW, rfl⟩ := kz
  replace hP := swP hP
  replace hD := swD hD
  refine cSI (X := wZ V z pz fz gz) (pl := wx) (rest := rest) G (k_X10_nights_0 l V z a1 (pz 0) (pz 5) (pz 6) (pz 7) (pz 8) (pz 9) (pz 10) (pz 11) (pz 12) (pz 13) (pz 14) (pz 18) (pz 19) (pz 22) (pz 23) (pz 29) (fz 0) (fz 4) (fz 5) (fz 6) (hp 5) (hp 6) (hp 7) (hp 8) (hp 10) (hp 11) (hp 12) (hp 13) (hp 14) (hp 18) (hp 22) (hp 29) hz_tz1 hz_tz16 hz_tz17 hz_RW) mt_X10_nights q_7_76 ⟨Nat.le_of_ble_eq_true rfl, Nat.le_of_ble_eq_true rfl⟩ hP hD hS [0, 1, 5, 6, 7] [0, 0, 3, 0, 0] (by decide) (by decide +kernel) rfl 0 rfl rfl rfl rfl hlz rfl hro dL_law_494 hcs (fun r w H locs hw hPD hS => ?_)
  refine Exists.elim hw (fun v0 hw => ?_)
  refine Exists.elim hw (fun g1 hw => ?_)
  refine Exists.elim hw (fun g2 hw => ?_)
  refine Exists.elim hw (fun g3 hw => ?_)
  refine Exists.elim hw (fun g4 hw => ?_)
  refine And.elim (fun bg1 hw => ?_) hw
  refine And.elim (fun bg3 hw => ?_) hw
  refine And.elim (fun bg4 hw => ?_) hw
  refine And.elim (fun br hw => ?_) hw
  refine And.elim (fun g_0 hw => ?_) hw
  subst hw
  obtain ⟨hP, hD⟩ := hPD (wZ V z (up9 pz 0 v0) (up9 (up9 (up9 (up9 fz 0 g1) 4 g2) 5 g3) 6 g4) gz) rfl rfl
  replace hP := swP hP
  replace hD := swD hD
  exact kk r H locs _ ⟨(up9 pz 0 v0), (up9 (up9 (up9 (up9 fz 0 g1) 4 g2) 5 g3) 6 g4), gz, (ivUp 0 hp (iv_top v0)), ht0, ht1, ht2, ht3, bg1, hz_tz3, hz_tz4, bg3, bg4, hz_tz20, hz_tz21, hz_tz24, hz_tz25, hz_tz26, hz_tz27, hz_tz33, hz_tz34, hz_tz37, hz_tz38, g_0, rfl⟩ hP hD hS
theorem q_3_211 : Cond.code yX9_steal prog_1_method_20_code 3 (some FieldType.int) ∈ gw := gw_3 (i := 211) (rfl) rfl
theorem q_3_209 : Cond.instanceMethod yX9_steal ∈ gw := gw_3 (i := 209) (by decide +kernel) rfl
theorem q_3_210 : Cond.selects "BeaconDelay" yX9_steal yX9_steal ∈ gw := gw_3 (i := 210) (by decide +kernel) rfl
theorem mt_X9_steal : MtV yX9_steal cX9_steal 3 (some .int) 1 := ⟨⟨q_3_211, q_1_1, by decide +kernel, by decide +kernel, by decide +kernel⟩, q_3_209, q_3_210⟩
theorem q_3_208 : Cond.methodLink "BeaconDelayLaw" 52 yX9_steal ∈ gw := gw_3 (i := 208) (by decide +kernel) rfl
theorem dL_law_507 : decode cL_law 507 = .ok (.invokevirtual 52, 3) := by decide +kernel
set_option maxHeartbeats 4000000 in
set_option maxRecDepth 100000 in
theorem cx_9_s {p : Program} {e : Env} {s : State} {m : MethodId} {below : List Frame} {meth : Method} {c : Code} {l : Launch} {b Lk : Nat} {xs : Nat → Int32} {V : GV} {y : Nat → Nat} {τ : Nat → Int32} {H : Heap} {locs : List Loc} {cells slots : Nat} {wz : va_W} {ls : Array Slot} (G : LCx p s m meth c b Lk xs V) (a1 : Int32) {pp : Nat → Int32} {ff : Nat → Nat → Int32} {gg : Nat → Nat → Int64} {o10 o11 : Value} {rest : va_W} (hp : ivT tX pp) (ht0 : pp 0 = τ 0) (ht1 : pp 15 = τ 1) (ht2 : pp 16 = τ 2) (ht3 : BTs (ff 0) (tauT τ)) (ht4 : (∀ j, iv (-128) 127 ((ff 0) j))) (hR : RRo V y cells slots o10 o11 rest)  (hP : va_P V.1 vwCl (wB V y pp ff gg o10 o11 ++ rest ++ wz) H) (hD : va_D (AAs s) (wB V y pp ff gg o10 o11 ++ rest ++ wz)) (hS : va_S (AAs s) s.heap H locs) (hlz : ls.size = 4) (kk : (∀ (r : Int32) (H : Heap) (locs : List Loc) (cells slots : Nat) (wx : va_W), KX V y cells slots τ wx → va_P V.1 vwCl (wx ++ wz) H → va_D (AAs s) (wx ++ wz) → va_S (AAs s) s.heap H locs → W p l e room_1 s m #[Value.ref b] below meth c H locs cells slots (lw_Z below #[Value.ref b] s) (F0 m 510 ls [.int r]))) : W p l e room_1 s m #[Value.ref b] below meth c H locs cells slots (lw_Z below #[Value.ref b] s) (F0 m 507 ls [.int a1, .ref (y 0)]) := by
  rw [as3] at hP hD
  refine cSI (X := wB V y pp ff gg o10 o11) (pl := rest ++ wz) (rest := []) G (k_X9_steal_0 l V y a1 (pp 0) o10 o11 (pp 1) (pp 2) (pp 3) (pp 4) (pp 5) (pp 6) (pp 7) (pp 8) (pp 9) (pp 10) (pp 11) (pp 12) (pp 13) (pp 14) (pp 35) (ff 20) (ff 21) (ff 22) (hp 0) (hp 5) (hp 6) (hp 7) (hp 10) (hp 11) (hp 12) (hp 13) (hp 14) (hp 35)) mt_X9_steal q_3_208 ⟨Nat.le_of_ble_eq_true rfl, Nat.le_of_ble_eq_true rfl⟩ hP hD hS [0, 2, 26, 27, 28, 29] [0, 1, 23, 0, 0, 0] (by decide) (by decide +kernel) rfl 0 rfl rfl rfl rfl hlz rfl (Nat.le_of_ble_eq_true rfl) dL_law_507 hR.room (fun r w H locs hw hPD hS => ?_)
  refine Exists.elim hw (fun v0 hw => ?_)
  refine Exists.elim hw (fun v1 hw => ?_)
  refine Exists.elim hw (fun g2 hw => ?_)
  refine Exists.elim hw (fun g3 hw => ?_)
  refine Exists.elim hw (fun g4 hw => ?_)
  refine And.elim (fun bv1 hw => ?_) hw
  subst hw
  obtain ⟨hP, hD⟩ := hPD (wB V y (up9 (up9 pp 1 v0) 35 v1) (up9 (up9 (up9 ff 20 g2) 21 g3) 22 g4) gg o10 o11) rfl rfl
  rw [← as3] at hP hD
  exact kk r H locs (cells + 0) (slots + 0) _ ⟨(up9 (up9 pp 1 v0) 35 v1), (up9 (up9 (up9 ff 20 g2) 21 g3) 22 g4), gg, o10, o11, rest, (ivUp 35 (ivUp 1 hp (iv_top v0)) bv1), ht0, ht1, ht2, ht3, ht4, hR, rfl⟩ hP hD hS
set_option maxHeartbeats 4000000 in
set_option maxRecDepth 100000 in
theorem cx_9 {p : Program} {e : Env} {s : State} {m : MethodId} {below : List Frame} {meth : Method} {c : Code} {l : Launch} {b Lk : Nat} {xs : Nat → Int32} {V : GV} {y : Nat → Nat} {τ : Nat → Int32} {H : Heap} {locs : List Loc} {cells slots : Nat} {wz : va_W} {ls : Array Slot} (G : LCx p s m meth c b Lk xs V) (a1 : Int32) {wx : va_W} (kx : KX V y cells slots τ wx) (hP : va_P V.1 vwCl (wx ++ wz) H) (hD : va_D (AAs s) (wx ++ wz)) (hS : va_S (AAs s) s.heap H locs) (hlz : ls.size = 4) (kk : (∀ (r : Int32) (H : Heap) (locs : List Loc) (cells slots : Nat) (wx : va_W), KX V y cells slots τ wx → va_P V.1 vwCl (wx ++ wz) H → va_D (AAs s) (wx ++ wz) → va_S (AAs s) s.heap H locs → W p l e room_1 s m #[Value.ref b] below meth c H locs cells slots (lw_Z below #[Value.ref b] s) (F0 m 510 ls [.int r]))) : W p l e room_1 s m #[Value.ref b] below meth c H locs cells slots (lw_Z below #[Value.ref b] s) (F0 m 507 ls [.int a1, .ref (y 0)]) := by
  obtain ⟨pp, ff, gg, o10, o11, rest, hp, ht0, ht1, ht2, ht3, ht4, hR, rfl⟩ := kx
  exact cx_9_s G _ hp ht0 ht1 ht2 ht3 ht4 hR hP hD hS hlz kk
theorem q_7_84 : Cond.code yX10_steal prog_12_method_64_code 3 (some FieldType.int) ∈ gw := gw_7 (i := 84) (rfl) rfl
theorem q_7_82 : Cond.instanceMethod yX10_steal ∈ gw := gw_7 (i := 82) (by decide +kernel) rfl
theorem q_7_83 : Cond.selects "BeaconDelayModel" yX10_steal yX10_steal ∈ gw := gw_7 (i := 83) (by decide +kernel) rfl
theorem mt_X10_steal : MtV yX10_steal cX10_steal 3 (some .int) 1 := ⟨⟨q_7_84, q_1_9, by decide +kernel, by decide +kernel, by decide +kernel⟩, q_7_82, q_7_83⟩
theorem q_7_81 : Cond.methodLink "BeaconDelayLaw" 55 yX10_steal ∈ gw := gw_7 (i := 81) (by decide +kernel) rfl
theorem dL_law_517 : decode cL_law 517 = .ok (.invokevirtual 55, 3) := by decide +kernel
set_option maxHeartbeats 4000000 in
set_option maxRecDepth 100000 in
theorem cz_9 {p : Program} {e : Env} {s : State} {m : MethodId} {below : List Frame} {meth : Method} {c : Code} {l : Launch} {b Lk : Nat} {xs : Nat → Int32} {V : GV} {z : Nat → Nat} {τ : Nat → Int32} {H : Heap} {locs : List Loc} {cells slots : Nat} {wx : va_W} {ls : Array Slot} {rest : List Value} (G : LCx p s m meth c b Lk xs V) (a1 : Int32) {wz : va_W} (kz : KZ V z τ wz) (hP : va_P V.1 vwCl (wx ++ wz) H) (hD : va_D (AAs s) (wx ++ wz)) (hS : va_S (AAs s) s.heap H locs) (hcs : cells + 0 ≤ 600000 ∧ slots + 0 ≤ 7302250) (hro : (rest.map fun v => v.category).sum ≤ 8) (hlz : ls.size = 4) (kk : (∀ (r : Int32) (H : Heap) (locs : List Loc) (wz : va_W), KZ V z τ wz → va_P V.1 vwCl (wx ++ wz) H → va_D (AAs s) (wx ++ wz) → va_S (AAs s) s.heap H locs → W p l e room_1 s m #[Value.ref b] below meth c H locs cells slots (lw_Z below #[Value.ref b] s) (F0 m 520 ls (.int r :: rest)))) : W p l e room_1 s m #[Value.ref b] below meth c H locs cells slots (lw_Z below #[Value.ref b] s) (F0 m 517 ls (.int a1 :: .ref (z 0) :: rest)) := by
  obtain ⟨pz, fz, gz, hp, ht0, ht1, ht2, ht3, hz_tz1, hz_tz3, hz_tz4, hz_tz16, hz_tz17, hz_tz20, hz_tz21, hz_tz24, hz_tz25, hz_tz26, hz_tz27, hz_tz33, hz_tz34, hz_tz37, hz_tz38, hz_RW, rfl⟩ := kz
  replace hP := swP hP
  replace hD := swD hD
  refine cSI (X := wZ V z pz fz gz) (pl := wx) (rest := rest) G (k_X10_steal_0 l V z a1 (pz 0) (pz 5) (pz 6) (pz 7) (pz 8) (pz 9) (pz 10) (pz 11) (pz 12) (pz 13) (pz 14) (pz 18) (pz 19) (pz 22) (pz 23) (pz 29) (fz 0) (fz 6) (hp 5) (hp 6) (hp 7) (hp 8) (hp 10) (hp 11) (hp 12) (hp 13) (hp 14) (hp 18) (hp 22) (hp 29) hz_tz1 hz_tz17 hz_RW) mt_X10_steal q_7_81 ⟨Nat.le_of_ble_eq_true rfl, Nat.le_of_ble_eq_true rfl⟩ hP hD hS [0, 1, 7] [0, 0, 5] (by decide) (by decide +kernel) rfl 0 rfl rfl rfl rfl hlz rfl hro dL_law_517 hcs (fun r w H locs hw hPD hS => ?_)
  refine Exists.elim hw (fun v0 hw => ?_)
  refine Exists.elim hw (fun g1 hw => ?_)
  refine Exists.elim hw (fun g2 hw => ?_)
  refine And.elim (fun bg1 hw => ?_) hw
  refine And.elim (fun bg2 hw => ?_) hw
  refine And.elim (fun br hw => ?_) hw
  refine And.elim (fun g_0 hw => ?_) hw
  subst hw
  obtain ⟨hP, hD⟩ := hPD (wZ V z (up9 pz 0 v0) (up9 (up9 fz 0 g1) 6 g2) gz) rfl rfl
  replace hP := swP hP
  replace hD := swD hD
  exact kk r H locs _ ⟨(up9 pz 0 v0), (up9 (up9 fz 0 g1) 6 g2), gz, (ivUp 0 hp (iv_top v0)), ht0, ht1, ht2, ht3, bg1, hz_tz3, hz_tz4, hz_tz16, bg2, hz_tz20, hz_tz21, hz_tz24, hz_tz25, hz_tz26, hz_tz27, hz_tz33, hz_tz34, hz_tz37, hz_tz38, g_0, rfl⟩ hP hD hS
theorem q_3_215 : Cond.code yX9_weather prog_1_method_21_code 3 (some FieldType.int) ∈ gw := gw_3 (i := 215) (rfl) rfl
theorem q_3_213 : Cond.instanceMethod yX9_weather ∈ gw := gw_3 (i := 213) (by decide +kernel) rfl
theorem q_3_214 : Cond.selects "BeaconDelay" yX9_weather yX9_weather ∈ gw := gw_3 (i := 214) (by decide +kernel) rfl
theorem mt_X9_weather : MtV yX9_weather cX9_weather 3 (some .int) 1 := ⟨⟨q_3_215, q_1_1, by decide +kernel, by decide +kernel, by decide +kernel⟩, q_3_213, q_3_214⟩
theorem q_3_212 : Cond.methodLink "BeaconDelayLaw" 56 yX9_weather ∈ gw := gw_3 (i := 212) (by decide +kernel) rfl
theorem dL_law_530 : decode cL_law 530 = .ok (.invokevirtual 56, 3) := by decide +kernel
set_option maxHeartbeats 4000000 in
set_option maxRecDepth 100000 in
theorem cx_10_s {p : Program} {e : Env} {s : State} {m : MethodId} {below : List Frame} {meth : Method} {c : Code} {l : Launch} {b Lk : Nat} {xs : Nat → Int32} {V : GV} {y : Nat → Nat} {τ : Nat → Int32} {H : Heap} {locs : List Loc} {cells slots : Nat} {wz : va_W} {ls : Array Slot} (G : LCx p s m meth c b Lk xs V) (a1 : Int32) {pp : Nat → Int32} {ff : Nat → Nat → Int32} {gg : Nat → Nat → Int64} {o10 o11 : Value} {rest : va_W} (hp : ivT tX pp) (ht0 : pp 0 = τ 0) (ht1 : pp 15 = τ 1) (ht2 : pp 16 = τ 2) (ht3 : BTs (ff 0) (tauT τ)) (ht4 : (∀ j, iv (-128) 127 ((ff 0) j))) (hR : RRo V y cells slots o10 o11 rest)  (hP : va_P V.1 vwCl (wB V y pp ff gg o10 o11 ++ rest ++ wz) H) (hD : va_D (AAs s) (wB V y pp ff gg o10 o11 ++ rest ++ wz)) (hS : va_S (AAs s) s.heap H locs) (hlz : ls.size = 4) (kk : (∀ (r : Int32) (H : Heap) (locs : List Loc) (cells slots : Nat) (wx : va_W), KX V y cells slots τ wx → va_P V.1 vwCl (wx ++ wz) H → va_D (AAs s) (wx ++ wz) → va_S (AAs s) s.heap H locs → W p l e room_1 s m #[Value.ref b] below meth c H locs cells slots (lw_Z below #[Value.ref b] s) (F0 m 533 ls [.int r]))) : W p l e room_1 s m #[Value.ref b] below meth c H locs cells slots (lw_Z below #[Value.ref b] s) (F0 m 530 ls [.int a1, .ref (y 0)]) := by
  rw [as3] at hP hD
  refine cSI (X := wB V y pp ff gg o10 o11) (pl := rest ++ wz) (rest := []) G (k_X9_weather_0 l V y a1 (pp 0) o10 o11 (pp 1) (pp 2) (pp 3) (pp 35) (ff 20) (ff 21) (ff 22) (hp 0) (hp 35)) mt_X9_weather q_3_212 ⟨Nat.le_of_ble_eq_true rfl, Nat.le_of_ble_eq_true rfl⟩ hP hD hS [0, 26, 27, 28, 29] [0, 25, 0, 0, 0] (by decide) (by decide +kernel) rfl 0 rfl rfl rfl rfl hlz rfl (Nat.le_of_ble_eq_true rfl) dL_law_530 hR.room (fun r w H locs hw hPD hS => ?_)
  refine Exists.elim hw (fun v0 hw => ?_)
  refine Exists.elim hw (fun v1 hw => ?_)
  refine Exists.elim hw (fun g2 hw => ?_)
  refine Exists.elim hw (fun g3 hw => ?_)
  refine Exists.elim hw (fun g4 hw => ?_)
  refine And.elim (fun bv1 hw => ?_) hw
  subst hw
  obtain ⟨hP, hD⟩ := hPD (wB V y (up9 (up9 pp 2 v0) 35 v1) (up9 (up9 (up9 ff 20 g2) 21 g3) 22 g4) gg o10 o11) rfl rfl
  rw [← as3] at hP hD
  exact kk r H locs (cells + 0) (slots + 0) _ ⟨(up9 (up9 pp 2 v0) 35 v1), (up9 (up9 (up9 ff 20 g2) 21 g3) 22 g4), gg, o10, o11, rest, (ivUp 35 (ivUp 2 hp (iv_top v0)) bv1), ht0, ht1, ht2, ht3, ht4, hR, rfl⟩ hP hD hS
set_option maxHeartbeats 4000000 in
set_option maxRecDepth 100000 in
theorem cx_10 {p : Program} {e : Env} {s : State} {m : MethodId} {below : List Frame} {meth : Method} {c : Code} {l : Launch} {b Lk : Nat} {xs : Nat → Int32} {V : GV} {y : Nat → Nat} {τ : Nat → Int32} {H : Heap} {locs : List Loc} {cells slots : Nat} {wz : va_W} {ls : Array Slot} (G : LCx p s m meth c b Lk xs V) (a1 : Int32) {wx : va_W} (kx : KX V y cells slots τ wx) (hP : va_P V.1 vwCl (wx ++ wz) H) (hD : va_D (AAs s) (wx ++ wz)) (hS : va_S (AAs s) s.heap H locs) (hlz : ls.size = 4) (kk : (∀ (r : Int32) (H : Heap) (locs : List Loc) (cells slots : Nat) (wx : va_W), KX V y cells slots τ wx → va_P V.1 vwCl (wx ++ wz) H → va_D (AAs s) (wx ++ wz) → va_S (AAs s) s.heap H locs → W p l e room_1 s m #[Value.ref b] below meth c H locs cells slots (lw_Z below #[Value.ref b] s) (F0 m 533 ls [.int r]))) : W p l e room_1 s m #[Value.ref b] below meth c H locs cells slots (lw_Z below #[Value.ref b] s) (F0 m 530 ls [.int a1, .ref (y 0)]) := by
  obtain ⟨pp, ff, gg, o10, o11, rest, hp, ht0, ht1, ht2, ht3, ht4, hR, rfl⟩ := kx
  exact cx_10_s G _ hp ht0 ht1 ht2 ht3 ht4 hR hP hD hS hlz kk
theorem q_7_96 : Cond.code yX10_weather prog_12_method_65_code 2 (some FieldType.int) ∈ gw := gw_7 (i := 96) (rfl) rfl
theorem q_7_94 : Cond.instanceMethod yX10_weather ∈ gw := gw_7 (i := 94) (by decide +kernel) rfl
theorem q_7_95 : Cond.selects "BeaconDelayModel" yX10_weather yX10_weather ∈ gw := gw_7 (i := 95) (by decide +kernel) rfl
theorem mt_X10_weather : MtV yX10_weather cX10_weather 2 (some .int) 1 := ⟨⟨q_7_96, q_1_9, by decide +kernel, by decide +kernel, by decide +kernel⟩, q_7_94, q_7_95⟩
theorem q_7_93 : Cond.methodLink "BeaconDelayLaw" 59 yX10_weather ∈ gw := gw_7 (i := 93) (by decide +kernel) rfl
theorem dL_law_540 : decode cL_law 540 = .ok (.invokevirtual 59, 3) := by decide +kernel
set_option maxHeartbeats 4000000 in
set_option maxRecDepth 100000 in
theorem cz_10 {p : Program} {e : Env} {s : State} {m : MethodId} {below : List Frame} {meth : Method} {c : Code} {l : Launch} {b Lk : Nat} {xs : Nat → Int32} {V : GV} {z : Nat → Nat} {τ : Nat → Int32} {H : Heap} {locs : List Loc} {cells slots : Nat} {wx : va_W} {ls : Array Slot} {rest : List Value} (G : LCx p s m meth c b Lk xs V) (a1 : Int32) {wz : va_W} (kz : KZ V z τ wz) (hP : va_P V.1 vwCl (wx ++ wz) H) (hD : va_D (AAs s) (wx ++ wz)) (hS : va_S (AAs s) s.heap H locs) (hcs : cells + 0 ≤ 600000 ∧ slots + 0 ≤ 7302250) (hro : (rest.map fun v => v.category).sum ≤ 8) (hlz : ls.size = 4) (kk : (∀ (r : Int32) (H : Heap) (locs : List Loc) (wz : va_W), KZ V z τ wz → va_P V.1 vwCl (wx ++ wz) H → va_D (AAs s) (wx ++ wz) → va_S (AAs s) s.heap H locs → W p l e room_1 s m #[Value.ref b] below meth c H locs cells slots (lw_Z below #[Value.ref b] s) (F0 m 543 ls (.int r :: rest)))) : W p l e room_1 s m #[Value.ref b] below meth c H locs cells slots (lw_Z below #[Value.ref b] s) (F0 m 540 ls (.int a1 :: .ref (z 0) :: rest)) := by
  obtain ⟨pz, fz, gz, hp, ht0, ht1, ht2, ht3, hz_tz1, hz_tz3, hz_tz4, hz_tz16, hz_tz17, hz_tz20, hz_tz21, hz_tz24, hz_tz25, hz_tz26, hz_tz27, hz_tz33, hz_tz34, hz_tz37, hz_tz38, hz_RW, rfl⟩ := kz
  replace hP := swP hP
  replace hD := swD hD
  refine cSI (X := wZ V z pz fz gz) (pl := wx) (rest := rest) G (k_X10_weather_0 l V z a1 (pz 0) (pz 5) (pz 6) (pz 7) (pz 8) (pz 9) (pz 10) (pz 11) (pz 12) (pz 13) (pz 14) (pz 18) (pz 19) (pz 22) (pz 23) (pz 29) (fz 0) (fz 6) (hp 5) (hp 6) (hp 7) (hp 8) (hp 10) (hp 11) (hp 12) (hp 13) (hp 14) (hp 18) (hp 22) (hp 29) hz_tz1 hz_tz17 hz_RW) mt_X10_weather q_7_93 ⟨Nat.le_of_ble_eq_true rfl, Nat.le_of_ble_eq_true rfl⟩ hP hD hS [0, 1, 7] [0, 0, 5] (by decide) (by decide +kernel) rfl 0 rfl rfl rfl rfl hlz rfl hro dL_law_540 hcs (fun r w H locs hw hPD hS => ?_)
  refine Exists.elim hw (fun v0 hw => ?_)
  refine Exists.elim hw (fun g1 hw => ?_)
  refine Exists.elim hw (fun g2 hw => ?_)
  refine And.elim (fun bg1 hw => ?_) hw
  refine And.elim (fun bg2 hw => ?_) hw
  refine And.elim (fun br hw => ?_) hw
  refine And.elim (fun g_0 hw => ?_) hw
  subst hw
  obtain ⟨hP, hD⟩ := hPD (wZ V z (up9 pz 0 v0) (up9 (up9 fz 0 g1) 6 g2) gz) rfl rfl
  replace hP := swP hP
  replace hD := swD hD
  exact kk r H locs _ ⟨(up9 pz 0 v0), (up9 (up9 fz 0 g1) 6 g2), gz, (ivUp 0 hp (iv_top v0)), ht0, ht1, ht2, ht3, bg1, hz_tz3, hz_tz4, hz_tz16, bg2, hz_tz20, hz_tz21, hz_tz24, hz_tz25, hz_tz26, hz_tz27, hz_tz33, hz_tz34, hz_tz37, hz_tz38, g_0, rfl⟩ hP hD hS
theorem q_3_219 : Cond.code yX9_undo prog_1_method_22_code 2 (some FieldType.int) ∈ gw := gw_3 (i := 219) (rfl) rfl
theorem q_3_217 : Cond.instanceMethod yX9_undo ∈ gw := gw_3 (i := 217) (by decide +kernel) rfl
theorem q_3_218 : Cond.selects "BeaconDelay" yX9_undo yX9_undo ∈ gw := gw_3 (i := 218) (by decide +kernel) rfl
theorem mt_X9_undo : MtV yX9_undo cX9_undo 2 (some .int) 1 := ⟨⟨q_3_219, q_1_1, by decide +kernel, by decide +kernel, by decide +kernel⟩, q_3_217, q_3_218⟩
theorem q_3_216 : Cond.methodLink "BeaconDelayLaw" 60 yX9_undo ∈ gw := gw_3 (i := 216) (by decide +kernel) rfl
theorem dL_law_553 : decode cL_law 553 = .ok (.invokevirtual 60, 3) := by decide +kernel
set_option maxHeartbeats 4000000 in
set_option maxRecDepth 100000 in
theorem cx_11_s {p : Program} {e : Env} {s : State} {m : MethodId} {below : List Frame} {meth : Method} {c : Code} {l : Launch} {b Lk : Nat} {xs : Nat → Int32} {V : GV} {y : Nat → Nat} {τ : Nat → Int32} {H : Heap} {locs : List Loc} {cells slots : Nat} {wz : va_W} {ls : Array Slot} (G : LCx p s m meth c b Lk xs V) (a1 : Int32) {pp : Nat → Int32} {ff : Nat → Nat → Int32} {gg : Nat → Nat → Int64} {o10 o11 : Value} {rest : va_W} (hp : ivT tX pp) (ht0 : pp 0 = τ 0) (ht1 : pp 15 = τ 1) (ht2 : pp 16 = τ 2) (ht3 : BTs (ff 0) (tauT τ)) (ht4 : (∀ j, iv (-128) 127 ((ff 0) j))) (hR : RRo V y cells slots o10 o11 rest)  (hP : va_P V.1 vwCl (wB V y pp ff gg o10 o11 ++ rest ++ wz) H) (hD : va_D (AAs s) (wB V y pp ff gg o10 o11 ++ rest ++ wz)) (hS : va_S (AAs s) s.heap H locs) (hlz : ls.size = 4) (kk : (∀ (r : Int32) (H : Heap) (locs : List Loc) (cells slots : Nat) (wx : va_W), KX V y cells slots τ wx → va_P V.1 vwCl (wx ++ wz) H → va_D (AAs s) (wx ++ wz) → va_S (AAs s) s.heap H locs → W p l e room_1 s m #[Value.ref b] below meth c H locs cells slots (lw_Z below #[Value.ref b] s) (F0 m 556 ls [.int r]))) : W p l e room_1 s m #[Value.ref b] below meth c H locs cells slots (lw_Z below #[Value.ref b] s) (F0 m 553 ls [.int a1, .ref (y 0)]) := by
  rw [as3] at hP hD
  refine cSI (X := wB V y pp ff gg o10 o11) (pl := rest ++ wz) (rest := []) G (k_X9_undo_0 l V y a1 (pp 0) o10 o11 (pp 1) (pp 2) (pp 3) (pp 35) (ff 20) (ff 21) (ff 22) (hp 0) (hp 35)) mt_X9_undo q_3_216 ⟨Nat.le_of_ble_eq_true rfl, Nat.le_of_ble_eq_true rfl⟩ hP hD hS [0, 26, 27, 28, 29] [0, 25, 0, 0, 0] (by decide) (by decide +kernel) rfl 0 rfl rfl rfl rfl hlz rfl (Nat.le_of_ble_eq_true rfl) dL_law_553 hR.room (fun r w H locs hw hPD hS => ?_)
  refine Exists.elim hw (fun v0 hw => ?_)
  refine Exists.elim hw (fun v1 hw => ?_)
  refine Exists.elim hw (fun v2 hw => ?_)
  refine Exists.elim hw (fun v3 hw => ?_)
  refine And.elim (fun bv3 hw => ?_) hw
  refine And.elim (fun br hw => ?_) hw
  subst hw
  obtain ⟨hP, hD⟩ := hPD (wB V y (up9 (up9 (up9 (up9 pp 1 v0) 2 v1) 3 v2) 35 v3) ff gg o10 o11) rfl rfl
  rw [← as3] at hP hD
  exact kk r H locs (cells + 0) (slots + 0) _ ⟨(up9 (up9 (up9 (up9 pp 1 v0) 2 v1) 3 v2) 35 v3), ff, gg, o10, o11, rest, (ivUp 35 (ivUp 3 (ivUp 2 (ivUp 1 hp (iv_top v0)) (iv_top v1)) (iv_top v2)) bv3), ht0, ht1, ht2, ht3, ht4, hR, rfl⟩ hP hD hS
set_option maxHeartbeats 4000000 in
set_option maxRecDepth 100000 in
theorem cx_11 {p : Program} {e : Env} {s : State} {m : MethodId} {below : List Frame} {meth : Method} {c : Code} {l : Launch} {b Lk : Nat} {xs : Nat → Int32} {V : GV} {y : Nat → Nat} {τ : Nat → Int32} {H : Heap} {locs : List Loc} {cells slots : Nat} {wz : va_W} {ls : Array Slot} (G : LCx p s m meth c b Lk xs V) (a1 : Int32) {wx : va_W} (kx : KX V y cells slots τ wx) (hP : va_P V.1 vwCl (wx ++ wz) H) (hD : va_D (AAs s) (wx ++ wz)) (hS : va_S (AAs s) s.heap H locs) (hlz : ls.size = 4) (kk : (∀ (r : Int32) (H : Heap) (locs : List Loc) (cells slots : Nat) (wx : va_W), KX V y cells slots τ wx → va_P V.1 vwCl (wx ++ wz) H → va_D (AAs s) (wx ++ wz) → va_S (AAs s) s.heap H locs → W p l e room_1 s m #[Value.ref b] below meth c H locs cells slots (lw_Z below #[Value.ref b] s) (F0 m 556 ls [.int r]))) : W p l e room_1 s m #[Value.ref b] below meth c H locs cells slots (lw_Z below #[Value.ref b] s) (F0 m 553 ls [.int a1, .ref (y 0)]) := by
  obtain ⟨pp, ff, gg, o10, o11, rest, hp, ht0, ht1, ht2, ht3, ht4, hR, rfl⟩ := kx
  exact cx_11_s G _ hp ht0 ht1 ht2 ht3 ht4 hR hP hD hS hlz kk
theorem q_7_101 : Cond.code yX10_undo prog_12_method_66_code 3 (some FieldType.int) ∈ gw := gw_7 (i := 101) (rfl) rfl
theorem q_7_99 : Cond.instanceMethod yX10_undo ∈ gw := gw_7 (i := 99) (by decide +kernel) rfl
theorem q_7_100 : Cond.selects "BeaconDelayModel" yX10_undo yX10_undo ∈ gw := gw_7 (i := 100) (by decide +kernel) rfl
theorem mt_X10_undo : MtV yX10_undo cX10_undo 3 (some .int) 1 := ⟨⟨q_7_101, q_1_9, by decide +kernel, by decide +kernel, by decide +kernel⟩, q_7_99, q_7_100⟩
theorem q_7_98 : Cond.methodLink "BeaconDelayLaw" 63 yX10_undo ∈ gw := gw_7 (i := 98) (by decide +kernel) rfl
theorem dL_law_563 : decode cL_law 563 = .ok (.invokevirtual 63, 3) := by decide +kernel
set_option maxHeartbeats 4000000 in
set_option maxRecDepth 100000 in
theorem cz_11 {p : Program} {e : Env} {s : State} {m : MethodId} {below : List Frame} {meth : Method} {c : Code} {l : Launch} {b Lk : Nat} {xs : Nat → Int32} {V : GV} {z : Nat → Nat} {τ : Nat → Int32} {H : Heap} {locs : List Loc} {cells slots : Nat} {wx : va_W} {ls : Array Slot} {rest : List Value} (G : LCx p s m meth c b Lk xs V) (a1 : Int32) {wz : va_W} (kz : KZ V z τ wz) (hP : va_P V.1 vwCl (wx ++ wz) H) (hD : va_D (AAs s) (wx ++ wz)) (hS : va_S (AAs s) s.heap H locs) (hcs : cells + 0 ≤ 600000 ∧ slots + 0 ≤ 7302250) (hro : (rest.map fun v => v.category).sum ≤ 8) (hlz : ls.size = 4) (kk : (∀ (r : Int32) (H : Heap) (locs : List Loc) (wz : va_W), KZ V z τ wz → va_P V.1 vwCl (wx ++ wz) H → va_D (AAs s) (wx ++ wz) → va_S (AAs s) s.heap H locs → W p l e room_1 s m #[Value.ref b] below meth c H locs cells slots (lw_Z below #[Value.ref b] s) (F0 m 566 ls (.int r :: rest)))) : W p l e room_1 s m #[Value.ref b] below meth c H locs cells slots (lw_Z below #[Value.ref b] s) (F0 m 563 ls (.int a1 :: .ref (z 0) :: rest)) := by
  obtain ⟨pz, fz, gz, hp, ht0, ht1, ht2, ht3, hz_tz1, hz_tz3, hz_tz4, hz_tz16, hz_tz17, hz_tz20, hz_tz21, hz_tz24, hz_tz25, hz_tz26, hz_tz27, hz_tz33, hz_tz34, hz_tz37, hz_tz38, hz_RW, rfl⟩ := kz
  replace hP := swP hP
  replace hD := swD hD
  refine cSI (X := wZ V z pz fz gz) (pl := wx) (rest := rest) G (k_X10_undo_0 l V z a1 (pz 0) (pz 5) (pz 6) (pz 7) (pz 8) (pz 9) (pz 10) (pz 11) (pz 12) (pz 13) (pz 14) (pz 18) (pz 19) (pz 22) (pz 23) (pz 29) (fz 0) (hp 5) (hp 6) (hp 7) (hp 8) (hp 10) (hp 11) (hp 12) (hp 13) (hp 14) (hp 18) (hp 22) (hp 29) hz_tz1 hz_RW) mt_X10_undo q_7_98 ⟨Nat.le_of_ble_eq_true rfl, Nat.le_of_ble_eq_true rfl⟩ hP hD hS [0, 1] [0, 0] (by decide) (by decide +kernel) rfl 0 rfl rfl rfl rfl hlz rfl hro dL_law_563 hcs (fun r w H locs hw hPD hS => ?_)
  refine Exists.elim hw (fun v0 hw => ?_)
  refine Exists.elim hw (fun g1 hw => ?_)
  refine And.elim (fun bg1 hw => ?_) hw
  refine And.elim (fun br hw => ?_) hw
  refine And.elim (fun g_0 hw => ?_) hw
  subst hw
  obtain ⟨hP, hD⟩ := hPD (wZ V z (up9 pz 0 v0) (up9 fz 0 g1) gz) rfl rfl
  replace hP := swP hP
  replace hD := swD hD
  exact kk r H locs _ ⟨(up9 pz 0 v0), (up9 fz 0 g1), gz, (ivUp 0 hp (iv_top v0)), ht0, ht1, ht2, ht3, bg1, hz_tz3, hz_tz4, hz_tz16, hz_tz17, hz_tz20, hz_tz21, hz_tz24, hz_tz25, hz_tz26, hz_tz27, hz_tz33, hz_tz34, hz_tz37, hz_tz38, g_0, rfl⟩ hP hD hS
theorem q_3_227 : Cond.code yX9_judge prog_1_method_28_code 11 (some FieldType.int) ∈ gw := gw_3 (i := 227) (rfl) rfl
theorem q_3_225 : Cond.instanceMethod yX9_judge ∈ gw := gw_3 (i := 225) (by decide +kernel) rfl
theorem q_3_226 : Cond.selects "BeaconDelay" yX9_judge yX9_judge ∈ gw := gw_3 (i := 226) (by decide +kernel) rfl
theorem mt_X9_judge : MtV yX9_judge cX9_judge 11 (some .int) 2 := ⟨⟨q_3_227, q_1_1, by decide +kernel, by decide +kernel, by decide +kernel⟩, q_3_225, q_3_226⟩
theorem q_3_224 : Cond.methodLink "BeaconDelayLaw" 64 yX9_judge ∈ gw := gw_3 (i := 224) (by decide +kernel) rfl
theorem dL_law_581 : decode cL_law 581 = .ok (.invokevirtual 64, 3) := by decide +kernel
set_option maxHeartbeats 4000000 in
set_option maxRecDepth 100000 in
theorem cx_12_s {p : Program} {e : Env} {s : State} {m : MethodId} {below : List Frame} {meth : Method} {c : Code} {l : Launch} {b Lk : Nat} {xs : Nat → Int32} {V : GV} {y : Nat → Nat} {τ : Nat → Int32} {H : Heap} {locs : List Loc} {cells slots : Nat} {wz : va_W} {ls : Array Slot} (G : LCx p s m meth c b Lk xs V) (a1 : Int32) (a2 : Int32) {pp : Nat → Int32} {ff : Nat → Nat → Int32} {gg : Nat → Nat → Int64} {o10 o11 : Value} {rest : va_W} (hp : ivT tX pp) (ht0 : pp 0 = τ 0) (ht1 : pp 15 = τ 1) (ht2 : pp 16 = τ 2) (ht3 : BTs (ff 0) (tauT τ)) (ht4 : (∀ j, iv (-128) 127 ((ff 0) j))) (hR : RRo V y cells slots o10 o11 rest)  (hP : va_P V.1 vwCl (wB V y pp ff gg o10 o11 ++ rest ++ wz) H) (hD : va_D (AAs s) (wB V y pp ff gg o10 o11 ++ rest ++ wz)) (hS : va_S (AAs s) s.heap H locs) (hlz : ls.size = 4) (kk : (∀ (r : Int32) (H : Heap) (locs : List Loc) (cells slots : Nat) (wx : va_W), KX V y cells slots τ wx → va_P V.1 vwCl (wx ++ wz) H → va_D (AAs s) (wx ++ wz) → va_S (AAs s) s.heap H locs → W p l e room_1 s m #[Value.ref b] below meth c H locs cells slots (lw_Z below #[Value.ref b] s) (F0 m 584 ls [.int r]))) : W p l e room_1 s m #[Value.ref b] below meth c H locs cells slots (lw_Z below #[Value.ref b] s) (F0 m 581 ls [.int a2, .int a1, .ref (y 0)]) := by
  rw [as3] at hP hD
  refine cSI (X := wB V y pp ff gg o10 o11) (pl := rest ++ wz) (rest := []) G (k_X9_judge_0 l V y a1 a2 (pp 0) o10 o11 (pp 1) (pp 2) (pp 3) (pp 4) (pp 5) (pp 6) (pp 7) (pp 8) (pp 9) (pp 10) (pp 11) (pp 12) (pp 13) (pp 14) (ff 1) (ff 7) (ff 15) (ff 16) (ff 17) (pp 36) (pp 37) (gg 0) (pp 38) (pp 39) (gg 1) (pp 40) (pp 41) (gg 2) (pp 42) (pp 43) (gg 3) (hp 0) (hp 5) (hp 6) (hp 7) (hp 10) (hp 11) (hp 12) (hp 13) (hp 14) (hp 36) (hp 38) (hp 40) (hp 42)) mt_X9_judge q_3_224 ⟨Nat.le_of_ble_eq_true rfl, Nat.le_of_ble_eq_true rfl⟩ hP hD hS [0, 2, 3, 9, 19, 20, 21, 22, 30, 33, 34, 35, 36, 37, 38, 39, 40] [0, 1, 0, 5, 9, 0, 0, 0, 7, 2, 0, 0, 0, 0, 0, 0, 0] (by decide) (by decide +kernel) rfl 0 rfl rfl rfl rfl hlz rfl (Nat.le_of_ble_eq_true rfl) dL_law_581 hR.room (fun r w H locs hw hPD hS => ?_)
  refine Exists.elim hw (fun v0 hw => ?_)
  refine Exists.elim hw (fun v1 hw => ?_)
  refine Exists.elim hw (fun v2 hw => ?_)
  refine Exists.elim hw (fun g3 hw => ?_)
  refine Exists.elim hw (fun g4 hw => ?_)
  refine Exists.elim hw (fun g5 hw => ?_)
  subst hw
  obtain ⟨hP, hD⟩ := hPD (wB V y (up9 (up9 (up9 pp 1 v0) 2 v1) 3 v2) (up9 (up9 (up9 ff 15 g3) 16 g4) 17 g5) gg o10 o11) rfl rfl
  rw [← as3] at hP hD
  exact kk r H locs (cells + 0) (slots + 0) _ ⟨(up9 (up9 (up9 pp 1 v0) 2 v1) 3 v2), (up9 (up9 (up9 ff 15 g3) 16 g4) 17 g5), gg, o10, o11, rest, (ivUp 3 (ivUp 2 (ivUp 1 hp (iv_top v0)) (iv_top v1)) (iv_top v2)), ht0, ht1, ht2, ht3, ht4, hR, rfl⟩ hP hD hS
set_option maxHeartbeats 4000000 in
set_option maxRecDepth 100000 in
theorem cx_12 {p : Program} {e : Env} {s : State} {m : MethodId} {below : List Frame} {meth : Method} {c : Code} {l : Launch} {b Lk : Nat} {xs : Nat → Int32} {V : GV} {y : Nat → Nat} {τ : Nat → Int32} {H : Heap} {locs : List Loc} {cells slots : Nat} {wz : va_W} {ls : Array Slot} (G : LCx p s m meth c b Lk xs V) (a1 : Int32) (a2 : Int32) {wx : va_W} (kx : KX V y cells slots τ wx) (hP : va_P V.1 vwCl (wx ++ wz) H) (hD : va_D (AAs s) (wx ++ wz)) (hS : va_S (AAs s) s.heap H locs) (hlz : ls.size = 4) (kk : (∀ (r : Int32) (H : Heap) (locs : List Loc) (cells slots : Nat) (wx : va_W), KX V y cells slots τ wx → va_P V.1 vwCl (wx ++ wz) H → va_D (AAs s) (wx ++ wz) → va_S (AAs s) s.heap H locs → W p l e room_1 s m #[Value.ref b] below meth c H locs cells slots (lw_Z below #[Value.ref b] s) (F0 m 584 ls [.int r]))) : W p l e room_1 s m #[Value.ref b] below meth c H locs cells slots (lw_Z below #[Value.ref b] s) (F0 m 581 ls [.int a2, .int a1, .ref (y 0)]) := by
  obtain ⟨pp, ff, gg, o10, o11, rest, hp, ht0, ht1, ht2, ht3, ht4, hR, rfl⟩ := kx
  exact cx_12_s G _ _ hp ht0 ht1 ht2 ht3 ht4 hR hP hD hS hlz kk
theorem q_7_106 : Cond.code yX10_judge prog_12_method_71_code 6 (some FieldType.int) ∈ gw := gw_7 (i := 106) (rfl) rfl
theorem q_7_104 : Cond.instanceMethod yX10_judge ∈ gw := gw_7 (i := 104) (by decide +kernel) rfl
theorem q_7_105 : Cond.selects "BeaconDelayModel" yX10_judge yX10_judge ∈ gw := gw_7 (i := 105) (by decide +kernel) rfl
theorem mt_X10_judge : MtV yX10_judge cX10_judge 6 (some .int) 2 := ⟨⟨q_7_106, q_1_9, by decide +kernel, by decide +kernel, by decide +kernel⟩, q_7_104, q_7_105⟩
theorem q_7_103 : Cond.methodLink "BeaconDelayLaw" 67 yX10_judge ∈ gw := gw_7 (i := 103) (by decide +kernel) rfl
theorem dL_law_596 : decode cL_law 596 = .ok (.invokevirtual 67, 3) := by decide +kernel
set_option maxHeartbeats 4000000 in
set_option maxRecDepth 100000 in
theorem cz_12 {p : Program} {e : Env} {s : State} {m : MethodId} {below : List Frame} {meth : Method} {c : Code} {l : Launch} {b Lk : Nat} {xs : Nat → Int32} {V : GV} {z : Nat → Nat} {τ : Nat → Int32} {H : Heap} {locs : List Loc} {cells slots : Nat} {wx : va_W} {ls : Array Slot} {rest : List Value} (G : LCx p s m meth c b Lk xs V) (a1 : Int32) (a2 : Int32) {wz : va_W} (kz : KZ V z τ wz) (hP : va_P V.1 vwCl (wx ++ wz) H) (hD : va_D (AAs s) (wx ++ wz)) (hS : va_S (AAs s) s.heap H locs) (hcs : cells + 0 ≤ 600000 ∧ slots + 0 ≤ 7302250) (hro : (rest.map fun v => v.category).sum ≤ 8) (hlz : ls.size = 4) (kk : (∀ (r : Int32) (H : Heap) (locs : List Loc) (wz : va_W), KZ V z τ wz → va_P V.1 vwCl (wx ++ wz) H → va_D (AAs s) (wx ++ wz) → va_S (AAs s) s.heap H locs → W p l e room_1 s m #[Value.ref b] below meth c H locs cells slots (lw_Z below #[Value.ref b] s) (F0 m 599 ls (.int r :: rest)))) : W p l e room_1 s m #[Value.ref b] below meth c H locs cells slots (lw_Z below #[Value.ref b] s) (F0 m 596 ls (.int a2 :: .int a1 :: .ref (z 0) :: rest)) := by
  obtain ⟨pz, fz, gz, hp, ht0, ht1, ht2, ht3, hz_tz1, hz_tz3, hz_tz4, hz_tz16, hz_tz17, hz_tz20, hz_tz21, hz_tz24, hz_tz25, hz_tz26, hz_tz27, hz_tz33, hz_tz34, hz_tz37, hz_tz38, hz_RW, rfl⟩ := kz
  replace hP := swP hP
  replace hD := swD hD
  refine cSI (X := wZ V z pz fz gz) (pl := wx) (rest := rest) G (k_X10_judge_0 l V z a1 a2 (pz 0) (pz 5) (pz 6) (pz 7) (pz 8) (pz 9) (pz 10) (pz 11) (pz 12) (pz 13) (pz 14) (pz 18) (pz 19) (pz 22) (pz 23) (pz 29) (fz 0) (fz 4) (fz 5) (fz 6) (fz 18) (fz 19) (gz 3) (hp 5) (hp 6) (hp 7) (hp 8) (hp 10) (hp 11) (hp 12) (hp 13) (hp 14) (hp 18) (hp 22) (hp 29) hz_tz1 hz_tz16 hz_tz17 hz_tz37 hz_tz38 hz_RW) mt_X10_judge q_7_103 ⟨Nat.le_of_ble_eq_true rfl, Nat.le_of_ble_eq_true rfl⟩ hP hD hS [0, 1, 5, 6, 7, 22, 23, 24] [0, 0, 3, 0, 0, 14, 0, 0] (by decide) (by decide +kernel) rfl 0 rfl rfl rfl rfl hlz rfl hro dL_law_596 hcs (fun r w H locs hw hPD hS => ?_)
  refine Exists.elim hw (fun v0 hw => ?_)
  refine Exists.elim hw (fun v1 hw => ?_)
  refine Exists.elim hw (fun g2 hw => ?_)
  refine Exists.elim hw (fun g3 hw => ?_)
  refine Exists.elim hw (fun g4 hw => ?_)
  refine Exists.elim hw (fun g5 hw => ?_)
  refine And.elim (fun bv1 hw => ?_) hw
  refine And.elim (fun bg2 hw => ?_) hw
  refine And.elim (fun bg4 hw => ?_) hw
  refine And.elim (fun bg5 hw => ?_) hw
  refine And.elim (fun g_0 hw => ?_) hw
  subst hw
  obtain ⟨hP, hD⟩ := hPD (wZ V z (up9 (up9 pz 0 v0) 18 v1) (up9 (up9 (up9 (up9 fz 0 g2) 4 g3) 5 g4) 6 g5) gz) rfl rfl
  replace hP := swP hP
  replace hD := swD hD
  exact kk r H locs _ ⟨(up9 (up9 pz 0 v0) 18 v1), (up9 (up9 (up9 (up9 fz 0 g2) 4 g3) 5 g4) 6 g5), gz, (ivUp 18 (ivUp 0 hp (iv_top v0)) bv1), ht0, ht1, ht2, ht3, bg2, hz_tz3, hz_tz4, bg4, bg5, hz_tz20, hz_tz21, hz_tz24, hz_tz25, hz_tz26, hz_tz27, hz_tz33, hz_tz34, hz_tz37, hz_tz38, g_0, rfl⟩ hP hD hS
theorem q_4_5 : Cond.code yX9_perform prog_1_method_29_code 6 (some FieldType.int) ∈ gw := gw_4 (i := 5) (rfl) rfl
theorem q_4_3 : Cond.instanceMethod yX9_perform ∈ gw := gw_4 (i := 3) (by decide +kernel) rfl
theorem q_4_4 : Cond.selects "BeaconDelay" yX9_perform yX9_perform ∈ gw := gw_4 (i := 4) (by decide +kernel) rfl
theorem mt_X9_perform : MtV yX9_perform cX9_perform 6 (some .int) 1 := ⟨⟨q_4_5, q_1_1, by decide +kernel, by decide +kernel, by decide +kernel⟩, q_4_3, q_4_4⟩
theorem q_4_2 : Cond.methodLink "BeaconDelayLaw" 68 yX9_perform ∈ gw := gw_4 (i := 2) (by decide +kernel) rfl
theorem dL_law_609 : decode cL_law 609 = .ok (.invokevirtual 68, 3) := by decide +kernel
set_option maxHeartbeats 4000000 in
set_option maxRecDepth 100000 in
theorem cx_13_s {p : Program} {e : Env} {s : State} {m : MethodId} {below : List Frame} {meth : Method} {c : Code} {l : Launch} {b Lk : Nat} {xs : Nat → Int32} {V : GV} {y : Nat → Nat} {τ : Nat → Int32} {H : Heap} {locs : List Loc} {cells slots : Nat} {wz : va_W} {ls : Array Slot} (G : LCx p s m meth c b Lk xs V) (a1 : Int32) {pp : Nat → Int32} {ff : Nat → Nat → Int32} {gg : Nat → Nat → Int64} {o10 o11 : Value} {rest : va_W} (hp : ivT tX pp) (ht0 : pp 0 = τ 0) (ht1 : pp 15 = τ 1) (ht2 : pp 16 = τ 2) (ht3 : BTs (ff 0) (tauT τ)) (ht4 : (∀ j, iv (-128) 127 ((ff 0) j))) (hR : RRo V y cells slots o10 o11 rest)  (hP : va_P V.1 vwCl (wB V y pp ff gg o10 o11 ++ rest ++ wz) H) (hD : va_D (AAs s) (wB V y pp ff gg o10 o11 ++ rest ++ wz)) (hS : va_S (AAs s) s.heap H locs) (hlz : ls.size = 4) (kk : (∀ (r : Int32) (H : Heap) (locs : List Loc) (cells slots : Nat) (wx : va_W), KX V y cells slots τ wx → va_P V.1 vwCl (wx ++ wz) H → va_D (AAs s) (wx ++ wz) → va_S (AAs s) s.heap H locs → W p l e room_1 s m #[Value.ref b] below meth c H locs cells slots (lw_Z below #[Value.ref b] s) (F0 m 612 ls [.int r]))) : W p l e room_1 s m #[Value.ref b] below meth c H locs cells slots (lw_Z below #[Value.ref b] s) (F0 m 609 ls [.int a1, .ref (y 0)]) := by
  rw [as3] at hP hD
  refine cSI (X := wB V y pp ff gg o10 o11) (pl := rest ++ wz) (rest := []) G (k_X9_perform_0 l V y a1 (pp 0) o10 o11 (pp 1) (pp 2) (pp 3) (pp 4) (pp 5) (pp 6) (pp 7) (pp 8) (pp 9) (pp 10) (pp 11) (pp 12) (pp 13) (pp 14) (ff 1) (ff 7) (ff 15) (ff 16) (ff 17) (pp 35) (ff 20) (ff 21) (ff 22) (pp 36) (pp 37) (gg 0) (pp 38) (pp 39) (gg 1) (pp 40) (pp 41) (gg 2) (pp 42) (pp 43) (gg 3) (hp 0) (hp 5) (hp 6) (hp 7) (hp 10) (hp 11) (hp 12) (hp 13) (hp 14) (hp 35) (hp 36) (hp 38) (hp 40) (hp 42)) mt_X9_perform q_4_2 ⟨Nat.le_of_ble_eq_true rfl, Nat.le_of_ble_eq_true rfl⟩ hP hD hS [0, 2, 3, 9, 19, 20, 21, 22, 26, 27, 28, 29, 30, 33, 34, 35, 36, 37, 38, 39, 40] [0, 1, 0, 5, 9, 0, 0, 0, 3, 0, 0, 0, 0, 2, 0, 0, 0, 0, 0, 0, 0] (by decide) (by decide +kernel) rfl 0 rfl rfl rfl rfl hlz rfl (Nat.le_of_ble_eq_true rfl) dL_law_609 hR.room (fun r w H locs hw hPD hS => ?_)
  refine Exists.elim hw (fun v0 hw => ?_)
  refine Exists.elim hw (fun v1 hw => ?_)
  refine Exists.elim hw (fun v2 hw => ?_)
  refine Exists.elim hw (fun g3 hw => ?_)
  refine Exists.elim hw (fun g4 hw => ?_)
  refine Exists.elim hw (fun g5 hw => ?_)
  refine Exists.elim hw (fun v6 hw => ?_)
  refine Exists.elim hw (fun g7 hw => ?_)
  refine Exists.elim hw (fun g8 hw => ?_)
  refine Exists.elim hw (fun g9 hw => ?_)
  refine And.elim (fun bv6 hw => ?_) hw
  refine And.elim (fun br hw => ?_) hw
  subst hw
  obtain ⟨hP, hD⟩ := hPD (wB V y (up9 (up9 (up9 (up9 pp 1 v0) 2 v1) 3 v2) 35 v6) (br9 23 (br9 11 ff (br9 17 (br9 14 ff (br9 15 ff (br9 16 (lf9 g3) (lf9 g4)))) (br9 20 (br9 18 (lf9 g5) ff) (br9 21 (lf9 g7) (br9 22 (lf9 g8) (lf9 g9)))))) ff) gg o10 o11) rfl rfl
  rw [← as3] at hP hD
  exact kk r H locs (cells + 0) (slots + 0) _ ⟨(up9 (up9 (up9 (up9 pp 1 v0) 2 v1) 3 v2) 35 v6), (br9 23 (br9 11 ff (br9 17 (br9 14 ff (br9 15 ff (br9 16 (lf9 g3) (lf9 g4)))) (br9 20 (br9 18 (lf9 g5) ff) (br9 21 (lf9 g7) (br9 22 (lf9 g8) (lf9 g9)))))) ff), gg, o10, o11, rest, (ivUp 35 (ivUp 3 (ivUp 2 (ivUp 1 hp (iv_top v0)) (iv_top v1)) (iv_top v2)) bv6), ht0, ht1, ht2, ht3, ht4, hR, rfl⟩ hP hD hS
set_option maxHeartbeats 4000000 in
set_option maxRecDepth 100000 in
theorem cx_13 {p : Program} {e : Env} {s : State} {m : MethodId} {below : List Frame} {meth : Method} {c : Code} {l : Launch} {b Lk : Nat} {xs : Nat → Int32} {V : GV} {y : Nat → Nat} {τ : Nat → Int32} {H : Heap} {locs : List Loc} {cells slots : Nat} {wz : va_W} {ls : Array Slot} (G : LCx p s m meth c b Lk xs V) (a1 : Int32) {wx : va_W} (kx : KX V y cells slots τ wx) (hP : va_P V.1 vwCl (wx ++ wz) H) (hD : va_D (AAs s) (wx ++ wz)) (hS : va_S (AAs s) s.heap H locs) (hlz : ls.size = 4) (kk : (∀ (r : Int32) (H : Heap) (locs : List Loc) (cells slots : Nat) (wx : va_W), KX V y cells slots τ wx → va_P V.1 vwCl (wx ++ wz) H → va_D (AAs s) (wx ++ wz) → va_S (AAs s) s.heap H locs → W p l e room_1 s m #[Value.ref b] below meth c H locs cells slots (lw_Z below #[Value.ref b] s) (F0 m 612 ls [.int r]))) : W p l e room_1 s m #[Value.ref b] below meth c H locs cells slots (lw_Z below #[Value.ref b] s) (F0 m 609 ls [.int a1, .ref (y 0)]) := by
  obtain ⟨pp, ff, gg, o10, o11, rest, hp, ht0, ht1, ht2, ht3, ht4, hR, rfl⟩ := kx
  exact cx_13_s G _ hp ht0 ht1 ht2 ht3 ht4 hR hP hD hS hlz kk
theorem q_7_138 : Cond.code yX10_perform prog_12_method_72_code 4 (some FieldType.int) ∈ gw := gw_7 (i := 138) (rfl) rfl
theorem q_7_136 : Cond.instanceMethod yX10_perform ∈ gw := gw_7 (i := 136) (by decide +kernel) rfl
theorem q_7_137 : Cond.selects "BeaconDelayModel" yX10_perform yX10_perform ∈ gw := gw_7 (i := 137) (by decide +kernel) rfl
theorem mt_X10_perform : MtV yX10_perform cX10_perform 4 (some .int) 1 := ⟨⟨q_7_138, q_1_9, by decide +kernel, by decide +kernel, by decide +kernel⟩, q_7_136, q_7_137⟩
theorem q_7_135 : Cond.methodLink "BeaconDelayLaw" 71 yX10_perform ∈ gw := gw_7 (i := 135) (by decide +kernel) rfl
theorem dL_law_619 : decode cL_law 619 = .ok (.invokevirtual 71, 3) := by decide +kernel
set_option maxHeartbeats 4000000 in
set_option maxRecDepth 100000 in
theorem cz_13 {p : Program} {e : Env} {s : State} {m : MethodId} {below : List Frame} {meth : Method} {c : Code} {l : Launch} {b Lk : Nat} {xs : Nat → Int32} {V : GV} {z : Nat → Nat} {τ : Nat → Int32} {H : Heap} {locs : List Loc} {cells slots : Nat} {wx : va_W} {ls : Array Slot} {rest : List Value} (G : LCx p s m meth c b Lk xs V) (a1 : Int32) {wz : va_W} (kz : KZ V z τ wz) (hP : va_P V.1 vwCl (wx ++ wz) H) (hD : va_D (AAs s) (wx ++ wz)) (hS : va_S (AAs s) s.heap H locs) (hcs : cells + 0 ≤ 600000 ∧ slots + 0 ≤ 7302250) (hro : (rest.map fun v => v.category).sum ≤ 8) (hlz : ls.size = 4) (kk : (∀ (r : Int32) (H : Heap) (locs : List Loc) (wz : va_W), KZ V z τ wz → va_P V.1 vwCl (wx ++ wz) H → va_D (AAs s) (wx ++ wz) → va_S (AAs s) s.heap H locs → W p l e room_1 s m #[Value.ref b] below meth c H locs cells slots (lw_Z below #[Value.ref b] s) (F0 m 622 ls (.int r :: rest)))) : W p l e room_1 s m #[Value.ref b] below meth c H locs cells slots (lw_Z below #[Value.ref b] s) (F0 m 619 ls (.int a1 :: .ref (z 0) :: rest)) := by
  obtain ⟨pz, fz, gz, hp, ht0, ht1, ht2, ht3, hz_tz1, hz_tz3, hz_tz4, hz_tz16, hz_tz17, hz_tz20, hz_tz21, hz_tz24, hz_tz25, hz_tz26, hz_tz27, hz_tz33, hz_tz34, hz_tz37, hz_tz38, hz_RW, rfl⟩ := kz
  replace hP := swP hP
  replace hD := swD hD
  refine cSI (X := wZ V z pz fz gz) (pl := wx) (rest := rest) G (k_X10_perform_0 l V z a1 (pz 0) (pz 5) (pz 6) (pz 7) (pz 8) (pz 9) (pz 10) (pz 11) (pz 12) (pz 13) (pz 14) (pz 18) (pz 19) (pz 22) (pz 23) (pz 29) (fz 0) (fz 4) (fz 5) (fz 6) (fz 18) (fz 19) (gz 3) (hp 5) (hp 6) (hp 7) (hp 8) (hp 10) (hp 11) (hp 12) (hp 13) (hp 14) (hp 18) (hp 22) (hp 29) hz_tz1 hz_tz16 hz_tz17 hz_tz37 hz_tz38 hz_RW) mt_X10_perform q_7_135 ⟨Nat.le_of_ble_eq_true rfl, Nat.le_of_ble_eq_true rfl⟩ hP hD hS [0, 1, 5, 6, 7, 22, 23, 24] [0, 0, 3, 0, 0, 14, 0, 0] (by decide) (by decide +kernel) rfl 0 rfl rfl rfl rfl hlz rfl hro dL_law_619 hcs (fun r w H locs hw hPD hS => ?_)
  refine Exists.elim hw (fun v0 hw => ?_)
  refine Exists.elim hw (fun v1 hw => ?_)
  refine Exists.elim hw (fun g2 hw => ?_)
  refine Exists.elim hw (fun g3 hw => ?_)
  refine Exists.elim hw (fun g4 hw => ?_)
  refine Exists.elim hw (fun g5 hw => ?_)
  refine And.elim (fun bv1 hw => ?_) hw
  refine And.elim (fun bg2 hw => ?_) hw
  refine And.elim (fun bg4 hw => ?_) hw
  refine And.elim (fun bg5 hw => ?_) hw
  refine And.elim (fun br hw => ?_) hw
  refine And.elim (fun g_0 hw => ?_) hw
  subst hw
  obtain ⟨hP, hD⟩ := hPD (wZ V z (up9 (up9 pz 0 v0) 18 v1) (up9 (up9 (up9 (up9 fz 0 g2) 4 g3) 5 g4) 6 g5) gz) rfl rfl
  replace hP := swP hP
  replace hD := swD hD
  exact kk r H locs _ ⟨(up9 (up9 pz 0 v0) 18 v1), (up9 (up9 (up9 (up9 fz 0 g2) 4 g3) 5 g4) 6 g5), gz, (ivUp 18 (ivUp 0 hp (iv_top v0)) bv1), ht0, ht1, ht2, ht3, bg2, hz_tz3, hz_tz4, bg4, bg5, hz_tz20, hz_tz21, hz_tz24, hz_tz25, hz_tz26, hz_tz27, hz_tz33, hz_tz34, hz_tz37, hz_tz38, g_0, rfl⟩ hP hD hS
theorem q_4_9 : Cond.code yX9_century prog_1_method_30_code 11 (some FieldType.int) ∈ gw := gw_4 (i := 9) (rfl) rfl
theorem q_4_7 : Cond.instanceMethod yX9_century ∈ gw := gw_4 (i := 7) (by decide +kernel) rfl
theorem q_4_8 : Cond.selects "BeaconDelay" yX9_century yX9_century ∈ gw := gw_4 (i := 8) (by decide +kernel) rfl
theorem mt_X9_century : MtV yX9_century cX9_century 11 (some .int) 2 := ⟨⟨q_4_9, q_1_1, by decide +kernel, by decide +kernel, by decide +kernel⟩, q_4_7, q_4_8⟩
theorem q_4_6 : Cond.methodLink "BeaconDelayLaw" 72 yX9_century ∈ gw := gw_4 (i := 6) (by decide +kernel) rfl
theorem dL_law_637 : decode cL_law 637 = .ok (.invokevirtual 72, 3) := by decide +kernel
set_option maxHeartbeats 4000000 in
set_option maxRecDepth 100000 in
theorem cx_14_s {p : Program} {e : Env} {s : State} {m : MethodId} {below : List Frame} {meth : Method} {c : Code} {l : Launch} {b Lk : Nat} {xs : Nat → Int32} {V : GV} {y : Nat → Nat} {τ : Nat → Int32} {H : Heap} {locs : List Loc} {cells slots : Nat} {wz : va_W} {ls : Array Slot} (G : LCx p s m meth c b Lk xs V) (a1 : Int32) (a2 : Int32) {pp : Nat → Int32} {ff : Nat → Nat → Int32} {gg : Nat → Nat → Int64} {o10 o11 : Value} {rest : va_W} (hp : ivT tX pp) (ht0 : pp 0 = τ 0) (ht1 : pp 15 = τ 1) (ht2 : pp 16 = τ 2) (ht3 : BTs (ff 0) (tauT τ)) (ht4 : (∀ j, iv (-128) 127 ((ff 0) j))) (hR : RRo V y cells slots o10 o11 rest)  (hP : va_P V.1 vwCl (wB V y pp ff gg o10 o11 ++ rest ++ wz) H) (hD : va_D (AAs s) (wB V y pp ff gg o10 o11 ++ rest ++ wz)) (hS : va_S (AAs s) s.heap H locs) (hlz : ls.size = 4) (kk : (∀ (r : Int32) (H : Heap) (locs : List Loc) (cells slots : Nat) (wx : va_W), KX V y cells slots τ wx → va_P V.1 vwCl (wx ++ wz) H → va_D (AAs s) (wx ++ wz) → va_S (AAs s) s.heap H locs → W p l e room_1 s m #[Value.ref b] below meth c H locs cells slots (lw_Z below #[Value.ref b] s) (F0 m 640 ls [.int r]))) : W p l e room_1 s m #[Value.ref b] below meth c H locs cells slots (lw_Z below #[Value.ref b] s) (F0 m 637 ls [.int a2, .int a1, .ref (y 0)]) := by
  rw [as3] at hP hD
  refine cSI (X := wB V y pp ff gg o10 o11) (pl := rest ++ wz) (rest := []) G (k_X9_century_0 l V y a1 a2 (pp 0) o10 o11 (pp 1) (pp 2) (pp 3) (pp 4) (pp 5) (pp 6) (pp 7) (pp 8) (pp 9) (pp 10) (pp 11) (pp 12) (pp 13) (pp 14) (ff 1) (ff 7) (ff 15) (ff 16) (ff 17) (pp 35) (ff 20) (ff 21) (ff 22) (hp 0) (hp 5) (hp 6) (hp 7) (hp 10) (hp 11) (hp 12) (hp 13) (hp 14) (hp 35)) mt_X9_century q_4_6 ⟨Nat.le_of_ble_eq_true rfl, Nat.le_of_ble_eq_true rfl⟩ hP hD hS [0, 2, 3, 9, 19, 20, 21, 22, 26, 27, 28, 29] [0, 1, 0, 5, 9, 0, 0, 0, 3, 0, 0, 0] (by decide) (by decide +kernel) rfl 0 rfl rfl rfl rfl hlz rfl (Nat.le_of_ble_eq_true rfl) dL_law_637 hR.room (fun r w H locs hw hPD hS => ?_)
  refine Exists.elim hw (fun v0 hw => ?_)
  refine Exists.elim hw (fun v1 hw => ?_)
  refine Exists.elim hw (fun v2 hw => ?_)
  refine Exists.elim hw (fun g3 hw => ?_)
  refine Exists.elim hw (fun g4 hw => ?_)
  refine Exists.elim hw (fun g5 hw => ?_)
  refine Exists.elim hw (fun v6 hw => ?_)
  refine Exists.elim hw (fun g7 hw => ?_)
  refine Exists.elim hw (fun g8 hw => ?_)
  refine Exists.elim hw (fun g9 hw => ?_)
  refine And.elim (fun bv6 hw => ?_) hw
  subst hw
  obtain ⟨hP, hD⟩ := hPD (wB V y (up9 (up9 (up9 (up9 pp 1 v0) 2 v1) 3 v2) 35 v6) (br9 23 (br9 11 ff (br9 17 (br9 14 ff (br9 15 ff (br9 16 (lf9 g3) (lf9 g4)))) (br9 20 (br9 18 (lf9 g5) ff) (br9 21 (lf9 g7) (br9 22 (lf9 g8) (lf9 g9)))))) ff) gg o10 o11) rfl rfl
  rw [← as3] at hP hD
  exact kk r H locs (cells + 0) (slots + 0) _ ⟨(up9 (up9 (up9 (up9 pp 1 v0) 2 v1) 3 v2) 35 v6), (br9 23 (br9 11 ff (br9 17 (br9 14 ff (br9 15 ff (br9 16 (lf9 g3) (lf9 g4)))) (br9 20 (br9 18 (lf9 g5) ff) (br9 21 (lf9 g7) (br9 22 (lf9 g8) (lf9 g9)))))) ff), gg, o10, o11, rest, (ivUp 35 (ivUp 3 (ivUp 2 (ivUp 1 hp (iv_top v0)) (iv_top v1)) (iv_top v2)) bv6), ht0, ht1, ht2, ht3, ht4, hR, rfl⟩ hP hD hS
set_option maxHeartbeats 4000000 in
set_option maxRecDepth 100000 in
theorem cx_14 {p : Program} {e : Env} {s : State} {m : MethodId} {below : List Frame} {meth : Method} {c : Code} {l : Launch} {b Lk : Nat} {xs : Nat → Int32} {V : GV} {y : Nat → Nat} {τ : Nat → Int32} {H : Heap} {locs : List Loc} {cells slots : Nat} {wz : va_W} {ls : Array Slot} (G : LCx p s m meth c b Lk xs V) (a1 : Int32) (a2 : Int32) {wx : va_W} (kx : KX V y cells slots τ wx) (hP : va_P V.1 vwCl (wx ++ wz) H) (hD : va_D (AAs s) (wx ++ wz)) (hS : va_S (AAs s) s.heap H locs) (hlz : ls.size = 4) (kk : (∀ (r : Int32) (H : Heap) (locs : List Loc) (cells slots : Nat) (wx : va_W), KX V y cells slots τ wx → va_P V.1 vwCl (wx ++ wz) H → va_D (AAs s) (wx ++ wz) → va_S (AAs s) s.heap H locs → W p l e room_1 s m #[Value.ref b] below meth c H locs cells slots (lw_Z below #[Value.ref b] s) (F0 m 640 ls [.int r]))) : W p l e room_1 s m #[Value.ref b] below meth c H locs cells slots (lw_Z below #[Value.ref b] s) (F0 m 637 ls [.int a2, .int a1, .ref (y 0)]) := by
  obtain ⟨pp, ff, gg, o10, o11, rest, hp, ht0, ht1, ht2, ht3, ht4, hR, rfl⟩ := kx
  exact cx_14_s G _ _ hp ht0 ht1 ht2 ht3 ht4 hR hP hD hS hlz kk
theorem q_7_142 : Cond.code yX10_century prog_12_method_75_code 6 (some FieldType.int) ∈ gw := gw_7 (i := 142) (rfl) rfl
theorem q_7_140 : Cond.instanceMethod yX10_century ∈ gw := gw_7 (i := 140) (by decide +kernel) rfl
theorem q_7_141 : Cond.selects "BeaconDelayModel" yX10_century yX10_century ∈ gw := gw_7 (i := 141) (by decide +kernel) rfl
theorem mt_X10_century : MtV yX10_century cX10_century 6 (some .int) 2 := ⟨⟨q_7_142, q_1_9, by decide +kernel, by decide +kernel, by decide +kernel⟩, q_7_140, q_7_141⟩
theorem q_7_139 : Cond.methodLink "BeaconDelayLaw" 75 yX10_century ∈ gw := gw_7 (i := 139) (by decide +kernel) rfl
theorem dL_law_652 : decode cL_law 652 = .ok (.invokevirtual 75, 3) := by decide +kernel
set_option maxHeartbeats 4000000 in
set_option maxRecDepth 100000 in
theorem cz_14 {p : Program} {e : Env} {s : State} {m : MethodId} {below : List Frame} {meth : Method} {c : Code} {l : Launch} {b Lk : Nat} {xs : Nat → Int32} {V : GV} {z : Nat → Nat} {τ : Nat → Int32} {H : Heap} {locs : List Loc} {cells slots : Nat} {wx : va_W} {ls : Array Slot} {rest : List Value} (G : LCx p s m meth c b Lk xs V) (a1 : Int32) (a2 : Int32) {wz : va_W} (kz : KZ V z τ wz) (hP : va_P V.1 vwCl (wx ++ wz) H) (hD : va_D (AAs s) (wx ++ wz)) (hS : va_S (AAs s) s.heap H locs) (hcs : cells + 0 ≤ 600000 ∧ slots + 0 ≤ 7302250) (hro : (rest.map fun v => v.category).sum ≤ 8) (hlz : ls.size = 4) (kk : (∀ (r : Int32) (H : Heap) (locs : List Loc) (wz : va_W), KZ V z τ wz → va_P V.1 vwCl (wx ++ wz) H → va_D (AAs s) (wx ++ wz) → va_S (AAs s) s.heap H locs → W p l e room_1 s m #[Value.ref b] below meth c H locs cells slots (lw_Z below #[Value.ref b] s) (F0 m 655 ls (.int r :: rest)))) : W p l e room_1 s m #[Value.ref b] below meth c H locs cells slots (lw_Z below #[Value.ref b] s) (F0 m 652 ls (.int a2 :: .int a1 :: .ref (z 0) :: rest)) := by
  obtain ⟨pz, fz, gz, hp, ht0, ht1, ht2, ht3, hz_tz1, hz_tz3, hz_tz4, hz_tz16, hz_tz17, hz_tz20, hz_tz21, hz_tz24, hz_tz25, hz_tz26, hz_tz27, hz_tz33, hz_tz34, hz_tz37, hz_tz38, hz_RW, rfl⟩ := kz
  replace hP := swP hP
  replace hD := swD hD
  refine cSI (X := wZ V z pz fz gz) (pl := wx) (rest := rest) G (k_X10_century_0 l V z a1 a2 (pz 0) (pz 5) (pz 6) (pz 7) (pz 8) (pz 9) (pz 10) (pz 11) (pz 12) (pz 13) (pz 14) (pz 18) (pz 19) (pz 22) (pz 23) (pz 29) (fz 0) (fz 4) (fz 5) (fz 6) (hp 5) (hp 6) (hp 7) (hp 8) (hp 10) (hp 11) (hp 12) (hp 13) (hp 14) (hp 18) (hp 22) (hp 29) hz_tz1 hz_tz16 hz_tz17 hz_RW) mt_X10_century q_7_139 ⟨Nat.le_of_ble_eq_true rfl, Nat.le_of_ble_eq_true rfl⟩ hP hD hS [0, 1, 5, 6, 7] [0, 0, 3, 0, 0] (by decide) (by decide +kernel) rfl 0 rfl rfl rfl rfl hlz rfl hro dL_law_652 hcs (fun r w H locs hw hPD hS => ?_)
  refine Exists.elim hw (fun v0 hw => ?_)
  refine Exists.elim hw (fun v1 hw => ?_)
  refine Exists.elim hw (fun g2 hw => ?_)
  refine Exists.elim hw (fun g3 hw => ?_)
  refine Exists.elim hw (fun g4 hw => ?_)
  refine Exists.elim hw (fun g5 hw => ?_)
  refine And.elim (fun bg2 hw => ?_) hw
  refine And.elim (fun bg4 hw => ?_) hw
  refine And.elim (fun bg5 hw => ?_) hw
  refine And.elim (fun g_0 hw => ?_) hw
  subst hw
  obtain ⟨hP, hD⟩ := hPD (wZ V z (up9 (up9 pz 0 v0) 19 v1) (up9 (up9 (up9 (up9 fz 0 g2) 4 g3) 5 g4) 6 g5) gz) rfl rfl
  replace hP := swP hP
  replace hD := swD hD
  exact kk r H locs _ ⟨(up9 (up9 pz 0 v0) 19 v1), (up9 (up9 (up9 (up9 fz 0 g2) 4 g3) 5 g4) 6 g5), gz, (ivUp 19 (ivUp 0 hp (iv_top v0)) (iv_top v1)), ht0, ht1, ht2, ht3, bg2, hz_tz3, hz_tz4, bg4, bg5, hz_tz20, hz_tz21, hz_tz24, hz_tz25, hz_tz26, hz_tz27, hz_tz33, hz_tz34, hz_tz37, hz_tz38, g_0, rfl⟩ hP hD hS
theorem q_4_20 : Cond.code yX9_lies prog_1_method_33_code 6 (some FieldType.int) ∈ gw := gw_4 (i := 20) (rfl) rfl
theorem q_4_18 : Cond.instanceMethod yX9_lies ∈ gw := gw_4 (i := 18) (by decide +kernel) rfl
theorem q_4_19 : Cond.selects "BeaconDelay" yX9_lies yX9_lies ∈ gw := gw_4 (i := 19) (by decide +kernel) rfl
theorem mt_X9_lies : MtV yX9_lies cX9_lies 6 (some .int) 2 := ⟨⟨q_4_20, q_1_1, by decide +kernel, by decide +kernel, by decide +kernel⟩, q_4_18, q_4_19⟩
theorem q_4_17 : Cond.methodLink "BeaconDelayLaw" 76 yX9_lies ∈ gw := gw_4 (i := 17) (by decide +kernel) rfl
theorem dL_law_670 : decode cL_law 670 = .ok (.invokevirtual 76, 3) := by decide +kernel
set_option maxHeartbeats 4000000 in
set_option maxRecDepth 100000 in
theorem cx_15_s {p : Program} {e : Env} {s : State} {m : MethodId} {below : List Frame} {meth : Method} {c : Code} {l : Launch} {b Lk : Nat} {xs : Nat → Int32} {V : GV} {y : Nat → Nat} {τ : Nat → Int32} {H : Heap} {locs : List Loc} {cells slots : Nat} {wz : va_W} {ls : Array Slot} (G : LCx p s m meth c b Lk xs V) (a1 : Int32) (a2 : Int32) {pp : Nat → Int32} {ff : Nat → Nat → Int32} {gg : Nat → Nat → Int64} {o10 o11 : Value} {rest : va_W} (hp : ivT tX pp) (ht0 : pp 0 = τ 0) (ht1 : pp 15 = τ 1) (ht2 : pp 16 = τ 2) (ht3 : BTs (ff 0) (tauT τ)) (ht4 : (∀ j, iv (-128) 127 ((ff 0) j))) (hR : RRo V y cells slots o10 o11 rest)  (hP : va_P V.1 vwCl (wB V y pp ff gg o10 o11 ++ rest ++ wz) H) (hD : va_D (AAs s) (wB V y pp ff gg o10 o11 ++ rest ++ wz)) (hS : va_S (AAs s) s.heap H locs) (hlz : ls.size = 4) (kk : (∀ (r : Int32) (H : Heap) (locs : List Loc) (cells slots : Nat) (wx : va_W), KX V y cells slots τ wx → va_P V.1 vwCl (wx ++ wz) H → va_D (AAs s) (wx ++ wz) → va_S (AAs s) s.heap H locs → W p l e room_1 s m #[Value.ref b] below meth c H locs cells slots (lw_Z below #[Value.ref b] s) (F0 m 673 ls [.int r]))) : W p l e room_1 s m #[Value.ref b] below meth c H locs cells slots (lw_Z below #[Value.ref b] s) (F0 m 670 ls [.int a2, .int a1, .ref (y 0)]) := by
  rw [as3] at hP hD
  refine cSI (X := wB V y pp ff gg o10 o11) (pl := rest ++ wz) (rest := []) G (k_X9_lies_0 l V y a1 a2 (pp 0) o10 o11 (pp 1) (pp 2) (pp 3) (pp 4) (pp 5) (pp 6) (pp 7) (pp 8) (pp 9) (pp 10) (pp 11) (pp 12) (pp 13) (pp 14) (ff 1) (ff 7) (ff 15) (ff 16) (ff 17) (pp 33) (pp 34) (hp 0) (hp 5) (hp 6) (hp 7) (hp 10) (hp 11) (hp 12) (hp 13) (hp 14)) mt_X9_lies q_4_17 ⟨Nat.le_of_ble_eq_true rfl, Nat.le_of_ble_eq_true rfl⟩ hP hD hS [0, 2, 3, 9, 19, 20, 21, 22, 25] [0, 1, 0, 5, 9, 0, 0, 0, 2] (by decide) (by decide +kernel) rfl 0 rfl rfl rfl rfl hlz rfl (Nat.le_of_ble_eq_true rfl) dL_law_670 hR.room (fun r w H locs hw hPD hS => ?_)
  refine Exists.elim hw (fun g0 hw => ?_)
  refine Exists.elim hw (fun g1 hw => ?_)
  refine Exists.elim hw (fun g2 hw => ?_)
  refine Exists.elim hw (fun v3 hw => ?_)
  refine Exists.elim hw (fun v4 hw => ?_)
  subst hw
  obtain ⟨hP, hD⟩ := hPD (wB V y (up9 (up9 pp 33 v3) 34 v4) (up9 (up9 (up9 ff 15 g0) 16 g1) 17 g2) gg o10 o11) rfl rfl
  rw [← as3] at hP hD
  exact kk r H locs (cells + 0) (slots + 0) _ ⟨(up9 (up9 pp 33 v3) 34 v4), (up9 (up9 (up9 ff 15 g0) 16 g1) 17 g2), gg, o10, o11, rest, (ivUp 34 (ivUp 33 hp (iv_top v3)) (iv_top v4)), ht0, ht1, ht2, ht3, ht4, hR, rfl⟩ hP hD hS
set_option maxHeartbeats 4000000 in
set_option maxRecDepth 100000 in
theorem cx_15 {p : Program} {e : Env} {s : State} {m : MethodId} {below : List Frame} {meth : Method} {c : Code} {l : Launch} {b Lk : Nat} {xs : Nat → Int32} {V : GV} {y : Nat → Nat} {τ : Nat → Int32} {H : Heap} {locs : List Loc} {cells slots : Nat} {wz : va_W} {ls : Array Slot} (G : LCx p s m meth c b Lk xs V) (a1 : Int32) (a2 : Int32) {wx : va_W} (kx : KX V y cells slots τ wx) (hP : va_P V.1 vwCl (wx ++ wz) H) (hD : va_D (AAs s) (wx ++ wz)) (hS : va_S (AAs s) s.heap H locs) (hlz : ls.size = 4) (kk : (∀ (r : Int32) (H : Heap) (locs : List Loc) (cells slots : Nat) (wx : va_W), KX V y cells slots τ wx → va_P V.1 vwCl (wx ++ wz) H → va_D (AAs s) (wx ++ wz) → va_S (AAs s) s.heap H locs → W p l e room_1 s m #[Value.ref b] below meth c H locs cells slots (lw_Z below #[Value.ref b] s) (F0 m 673 ls [.int r]))) : W p l e room_1 s m #[Value.ref b] below meth c H locs cells slots (lw_Z below #[Value.ref b] s) (F0 m 670 ls [.int a2, .int a1, .ref (y 0)]) := by
  obtain ⟨pp, ff, gg, o10, o11, rest, hp, ht0, ht1, ht2, ht3, ht4, hR, rfl⟩ := kx
  exact cx_15_s G _ _ hp ht0 ht1 ht2 ht3 ht4 hR hP hD hS hlz kk
theorem q_7_156 : Cond.code yX10_lies prog_12_method_78_code 3 (some FieldType.int) ∈ gw := gw_7 (i := 156) (rfl) rfl
theorem q_7_154 : Cond.instanceMethod yX10_lies ∈ gw := gw_7 (i := 154) (by decide +kernel) rfl
theorem q_7_155 : Cond.selects "BeaconDelayModel" yX10_lies yX10_lies ∈ gw := gw_7 (i := 155) (by decide +kernel) rfl
theorem mt_X10_lies : MtV yX10_lies cX10_lies 3 (some .int) 2 := ⟨⟨q_7_156, q_1_9, by decide +kernel, by decide +kernel, by decide +kernel⟩, q_7_154, q_7_155⟩
theorem q_7_153 : Cond.methodLink "BeaconDelayLaw" 79 yX10_lies ∈ gw := gw_7 (i := 153) (by decide +kernel) rfl
theorem dL_law_685 : decode cL_law 685 = .ok (.invokevirtual 79, 3) := by decide +kernel
set_option maxHeartbeats 4000000 in
set_option maxRecDepth 100000 in
theorem cz_15 {p : Program} {e : Env} {s : State} {m : MethodId} {below : List Frame} {meth : Method} {c : Code} {l : Launch} {b Lk : Nat} {xs : Nat → Int32} {V : GV} {z : Nat → Nat} {τ : Nat → Int32} {H : Heap} {locs : List Loc} {cells slots : Nat} {wx : va_W} {ls : Array Slot} {rest : List Value} (G : LCx p s m meth c b Lk xs V) (a1 : Int32) (a2 : Int32) {wz : va_W} (kz : KZ V z τ wz) (hP : va_P V.1 vwCl (wx ++ wz) H) (hD : va_D (AAs s) (wx ++ wz)) (hS : va_S (AAs s) s.heap H locs) (hcs : cells + 0 ≤ 600000 ∧ slots + 0 ≤ 7302250) (hro : (rest.map fun v => v.category).sum ≤ 8) (hlz : ls.size = 4) (kk : (∀ (r : Int32) (H : Heap) (locs : List Loc) (wz : va_W), KZ V z τ wz → va_P V.1 vwCl (wx ++ wz) H → va_D (AAs s) (wx ++ wz) → va_S (AAs s) s.heap H locs → W p l e room_1 s m #[Value.ref b] below meth c H locs cells slots (lw_Z below #[Value.ref b] s) (F0 m 688 ls (.int r :: rest)))) : W p l e room_1 s m #[Value.ref b] below meth c H locs cells slots (lw_Z below #[Value.ref b] s) (F0 m 685 ls (.int a2 :: .int a1 :: .ref (z 0) :: rest)) := by
  obtain ⟨pz, fz, gz, hp, ht0, ht1, ht2, ht3, hz_tz1, hz_tz3, hz_tz4, hz_tz16, hz_tz17, hz_tz20, hz_tz21, hz_tz24, hz_tz25, hz_tz26, hz_tz27, hz_tz33, hz_tz34, hz_tz37, hz_tz38, hz_RW, rfl⟩ := kz
  replace hP := swP hP
  replace hD := swD hD
  refine cSI (X := wZ V z pz fz gz) (pl := wx) (rest := rest) G (k_X10_lies_0 l V z a1 a2 (pz 0) (pz 5) (pz 6) (pz 7) (pz 8) (pz 9) (pz 10) (pz 11) (pz 12) (pz 13) (pz 14) (pz 18) (pz 19) (pz 22) (pz 23) (pz 29) (fz 0) (fz 4) (fz 5) (fz 7) (fz 8) (hp 5) (hp 6) (hp 7) (hp 8) (hp 10) (hp 11) (hp 12) (hp 13) (hp 14) (hp 18) (hp 22) (hp 29) hz_tz1 hz_tz16 hz_tz20 hz_tz21 hz_RW) mt_X10_lies q_7_153 ⟨Nat.le_of_ble_eq_true rfl, Nat.le_of_ble_eq_true rfl⟩ hP hD hS [0, 1, 5, 6, 8, 9] [0, 0, 3, 0, 1, 0] (by decide) (by decide +kernel) rfl 0 rfl rfl rfl rfl hlz rfl hro dL_law_685 hcs (fun r w H locs hw hPD hS => ?_)
  refine Exists.elim hw (fun v0 hw => ?_)
  refine Exists.elim hw (fun v1 hw => ?_)
  refine Exists.elim hw (fun v2 hw => ?_)
  refine Exists.elim hw (fun g3 hw => ?_)
  refine Exists.elim hw (fun g4 hw => ?_)
  refine Exists.elim hw (fun g5 hw => ?_)
  refine Exists.elim hw (fun g6 hw => ?_)
  refine And.elim (fun bv1 hw => ?_) hw
  refine And.elim (fun bg4 hw => ?_) hw
  refine And.elim (fun bg5 hw => ?_) hw
  refine And.elim (fun bg6 hw => ?_) hw
  refine And.elim (fun br hw => ?_) hw
  refine And.elim (fun g_0 hw => ?_) hw
  subst hw
  obtain ⟨hP, hD⟩ := hPD (wZ V z (up9 (up9 (up9 pz 0 v0) 22 v1) 23 v2) (up9 (up9 (up9 (up9 fz 4 g3) 5 g4) 7 g5) 8 g6) gz) rfl rfl
  replace hP := swP hP
  replace hD := swD hD
  exact kk r H locs _ ⟨(up9 (up9 (up9 pz 0 v0) 22 v1) 23 v2), (up9 (up9 (up9 (up9 fz 4 g3) 5 g4) 7 g5) 8 g6), gz, (ivUp 23 (ivUp 22 (ivUp 0 hp (iv_top v0)) bv1) (iv_top v2)), ht0, ht1, ht2, ht3, hz_tz1, hz_tz3, hz_tz4, bg4, hz_tz17, bg5, bg6, hz_tz24, hz_tz25, hz_tz26, hz_tz27, hz_tz33, hz_tz34, hz_tz37, hz_tz38, g_0, rfl⟩ hP hD hS
theorem q_4_31 : Cond.code yX9_round prog_1_method_34_code 2 (some FieldType.int) ∈ gw := gw_4 (i := 31) (rfl) rfl
theorem q_4_29 : Cond.instanceMethod yX9_round ∈ gw := gw_4 (i := 29) (by decide +kernel) rfl
theorem q_4_30 : Cond.selects "BeaconDelay" yX9_round yX9_round ∈ gw := gw_4 (i := 30) (by decide +kernel) rfl
theorem mt_X9_round : MtV yX9_round cX9_round 2 (some .int) 1 := ⟨⟨q_4_31, q_1_1, by decide +kernel, by decide +kernel, by decide +kernel⟩, q_4_29, q_4_30⟩
theorem q_4_28 : Cond.methodLink "BeaconDelayLaw" 80 yX9_round ∈ gw := gw_4 (i := 28) (by decide +kernel) rfl
theorem dL_law_698 : decode cL_law 698 = .ok (.invokevirtual 80, 3) := by decide +kernel
set_option maxHeartbeats 4000000 in
set_option maxRecDepth 100000 in
theorem cx_16_s {p : Program} {e : Env} {s : State} {m : MethodId} {below : List Frame} {meth : Method} {c : Code} {l : Launch} {b Lk : Nat} {xs : Nat → Int32} {V : GV} {y : Nat → Nat} {τ : Nat → Int32} {H : Heap} {locs : List Loc} {cells slots : Nat} {wz : va_W} {ls : Array Slot} (G : LCx p s m meth c b Lk xs V) (a1 : Int32) {pp : Nat → Int32} {ff : Nat → Nat → Int32} {gg : Nat → Nat → Int64} {o10 o11 : Value} {rest : va_W} (hp : ivT tX pp) (ht0 : pp 0 = τ 0) (ht1 : pp 15 = τ 1) (ht2 : pp 16 = τ 2) (ht3 : BTs (ff 0) (tauT τ)) (ht4 : (∀ j, iv (-128) 127 ((ff 0) j))) (hR : RRo V y cells slots o10 o11 rest)  (hP : va_P V.1 vwCl (wB V y pp ff gg o10 o11 ++ rest ++ wz) H) (hD : va_D (AAs s) (wB V y pp ff gg o10 o11 ++ rest ++ wz)) (hS : va_S (AAs s) s.heap H locs) (hlz : ls.size = 4) (kk : (∀ (r : Int32) (H : Heap) (locs : List Loc) (cells slots : Nat) (wx : va_W), KX V y cells slots τ wx → va_P V.1 vwCl (wx ++ wz) H → va_D (AAs s) (wx ++ wz) → va_S (AAs s) s.heap H locs → W p l e room_1 s m #[Value.ref b] below meth c H locs cells slots (lw_Z below #[Value.ref b] s) (F0 m 701 ls [.int r]))) : W p l e room_1 s m #[Value.ref b] below meth c H locs cells slots (lw_Z below #[Value.ref b] s) (F0 m 698 ls [.int a1, .ref (y 0)]) := by
  rw [as3] at hP hD
  refine cSI (X := wB V y pp ff gg o10 o11) (pl := rest ++ wz) (rest := []) G (k_X9_round_0 l V y a1 (pp 0) o10 o11 (pp 1) (pp 2) (pp 3) (pp 4) (pp 5) (pp 6) (pp 7) (pp 8) (pp 9) (pp 10) (pp 11) (pp 12) (pp 13) (pp 14) (ff 1) (ff 7) (ff 15) (ff 16) (ff 17) (pp 33) (pp 34) (hp 0) (hp 5) (hp 6) (hp 7) (hp 10) (hp 11) (hp 12) (hp 13) (hp 14)) mt_X9_round q_4_28 ⟨Nat.le_of_ble_eq_true rfl, Nat.le_of_ble_eq_true rfl⟩ hP hD hS [0, 2, 3, 9, 19, 20, 21, 22, 25] [0, 1, 0, 5, 9, 0, 0, 0, 2] (by decide) (by decide +kernel) rfl 0 rfl rfl rfl rfl hlz rfl (Nat.le_of_ble_eq_true rfl) dL_law_698 hR.room (fun r w H locs hw hPD hS => ?_)
  refine Exists.elim hw (fun g0 hw => ?_)
  refine Exists.elim hw (fun g1 hw => ?_)
  refine Exists.elim hw (fun g2 hw => ?_)
  refine Exists.elim hw (fun v3 hw => ?_)
  refine Exists.elim hw (fun v4 hw => ?_)
  subst hw
  obtain ⟨hP, hD⟩ := hPD (wB V y (up9 (up9 pp 33 v3) 34 v4) (up9 (up9 (up9 ff 15 g0) 16 g1) 17 g2) gg o10 o11) rfl rfl
  rw [← as3] at hP hD
  exact kk r H locs (cells + 0) (slots + 0) _ ⟨(up9 (up9 pp 33 v3) 34 v4), (up9 (up9 (up9 ff 15 g0) 16 g1) 17 g2), gg, o10, o11, rest, (ivUp 34 (ivUp 33 hp (iv_top v3)) (iv_top v4)), ht0, ht1, ht2, ht3, ht4, hR, rfl⟩ hP hD hS
set_option maxHeartbeats 4000000 in
set_option maxRecDepth 100000 in
theorem cx_16 {p : Program} {e : Env} {s : State} {m : MethodId} {below : List Frame} {meth : Method} {c : Code} {l : Launch} {b Lk : Nat} {xs : Nat → Int32} {V : GV} {y : Nat → Nat} {τ : Nat → Int32} {H : Heap} {locs : List Loc} {cells slots : Nat} {wz : va_W} {ls : Array Slot} (G : LCx p s m meth c b Lk xs V) (a1 : Int32) {wx : va_W} (kx : KX V y cells slots τ wx) (hP : va_P V.1 vwCl (wx ++ wz) H) (hD : va_D (AAs s) (wx ++ wz)) (hS : va_S (AAs s) s.heap H locs) (hlz : ls.size = 4) (kk : (∀ (r : Int32) (H : Heap) (locs : List Loc) (cells slots : Nat) (wx : va_W), KX V y cells slots τ wx → va_P V.1 vwCl (wx ++ wz) H → va_D (AAs s) (wx ++ wz) → va_S (AAs s) s.heap H locs → W p l e room_1 s m #[Value.ref b] below meth c H locs cells slots (lw_Z below #[Value.ref b] s) (F0 m 701 ls [.int r]))) : W p l e room_1 s m #[Value.ref b] below meth c H locs cells slots (lw_Z below #[Value.ref b] s) (F0 m 698 ls [.int a1, .ref (y 0)]) := by
  obtain ⟨pp, ff, gg, o10, o11, rest, hp, ht0, ht1, ht2, ht3, ht4, hR, rfl⟩ := kx
  exact cx_16_s G _ hp ht0 ht1 ht2 ht3 ht4 hR hP hD hS hlz kk
theorem q_7_169 : Cond.code yX10_round prog_12_method_79_code 2 (some FieldType.int) ∈ gw := gw_7 (i := 169) (rfl) rfl
theorem q_7_167 : Cond.instanceMethod yX10_round ∈ gw := gw_7 (i := 167) (by decide +kernel) rfl
theorem q_7_168 : Cond.selects "BeaconDelayModel" yX10_round yX10_round ∈ gw := gw_7 (i := 168) (by decide +kernel) rfl
theorem mt_X10_round : MtV yX10_round cX10_round 2 (some .int) 1 := ⟨⟨q_7_169, q_1_9, by decide +kernel, by decide +kernel, by decide +kernel⟩, q_7_167, q_7_168⟩
theorem q_7_166 : Cond.methodLink "BeaconDelayLaw" 83 yX10_round ∈ gw := gw_7 (i := 166) (by decide +kernel) rfl
theorem dL_law_708 : decode cL_law 708 = .ok (.invokevirtual 83, 3) := by decide +kernel
set_option maxHeartbeats 4000000 in
set_option maxRecDepth 100000 in
theorem cz_16 {p : Program} {e : Env} {s : State} {m : MethodId} {below : List Frame} {meth : Method} {c : Code} {l : Launch} {b Lk : Nat} {xs : Nat → Int32} {V : GV} {z : Nat → Nat} {τ : Nat → Int32} {H : Heap} {locs : List Loc} {cells slots : Nat} {wx : va_W} {ls : Array Slot} {rest : List Value} (G : LCx p s m meth c b Lk xs V) (a1 : Int32) {wz : va_W} (kz : KZ V z τ wz) (hP : va_P V.1 vwCl (wx ++ wz) H) (hD : va_D (AAs s) (wx ++ wz)) (hS : va_S (AAs s) s.heap H locs) (hcs : cells + 0 ≤ 600000 ∧ slots + 0 ≤ 7302250) (hro : (rest.map fun v => v.category).sum ≤ 8) (hlz : ls.size = 4) (kk : (∀ (r : Int32) (H : Heap) (locs : List Loc) (wz : va_W), KZ V z τ wz → va_P V.1 vwCl (wx ++ wz) H → va_D (AAs s) (wx ++ wz) → va_S (AAs s) s.heap H locs → W p l e room_1 s m #[Value.ref b] below meth c H locs cells slots (lw_Z below #[Value.ref b] s) (F0 m 711 ls (.int r :: rest)))) : W p l e room_1 s m #[Value.ref b] below meth c H locs cells slots (lw_Z below #[Value.ref b] s) (F0 m 708 ls (.int a1 :: .ref (z 0) :: rest)) := by
  obtain ⟨pz, fz, gz, hp, ht0, ht1, ht2, ht3, hz_tz1, hz_tz3, hz_tz4, hz_tz16, hz_tz17, hz_tz20, hz_tz21, hz_tz24, hz_tz25, hz_tz26, hz_tz27, hz_tz33, hz_tz34, hz_tz37, hz_tz38, hz_RW, rfl⟩ := kz
  replace hP := swP hP
  replace hD := swD hD
  refine cSI (X := wZ V z pz fz gz) (pl := wx) (rest := rest) G (k_X10_round_0 l V z a1 (pz 0) (pz 5) (pz 6) (pz 7) (pz 8) (pz 9) (pz 10) (pz 11) (pz 12) (pz 13) (pz 14) (pz 18) (pz 19) (pz 22) (pz 23) (pz 29) (fz 0) (fz 4) (fz 5) (fz 7) (fz 8) (hp 5) (hp 6) (hp 7) (hp 8) (hp 10) (hp 11) (hp 12) (hp 13) (hp 14) (hp 18) (hp 22) (hp 29) hz_tz1 hz_tz16 hz_tz20 hz_tz21 hz_RW) mt_X10_round q_7_166 ⟨Nat.le_of_ble_eq_true rfl, Nat.le_of_ble_eq_true rfl⟩ hP hD hS [0, 1, 5, 6, 8, 9] [0, 0, 3, 0, 1, 0] (by decide) (by decide +kernel) rfl 0 rfl rfl rfl rfl hlz rfl hro dL_law_708 hcs (fun r w H locs hw hPD hS => ?_)
  refine Exists.elim hw (fun v0 hw => ?_)
  refine Exists.elim hw (fun v1 hw => ?_)
  refine Exists.elim hw (fun v2 hw => ?_)
  refine Exists.elim hw (fun g3 hw => ?_)
  refine Exists.elim hw (fun g4 hw => ?_)
  refine Exists.elim hw (fun g5 hw => ?_)
  refine Exists.elim hw (fun g6 hw => ?_)
  refine And.elim (fun bv1 hw => ?_) hw
  refine And.elim (fun bg4 hw => ?_) hw
  refine And.elim (fun bg5 hw => ?_) hw
  refine And.elim (fun bg6 hw => ?_) hw
  refine And.elim (fun g_0 hw => ?_) hw
  subst hw
  obtain ⟨hP, hD⟩ := hPD (wZ V z (up9 (up9 (up9 pz 0 v0) 22 v1) 23 v2) (up9 (up9 (up9 (up9 fz 4 g3) 5 g4) 7 g5) 8 g6) gz) rfl rfl
  replace hP := swP hP
  replace hD := swD hD
  exact kk r H locs _ ⟨(up9 (up9 (up9 pz 0 v0) 22 v1) 23 v2), (up9 (up9 (up9 (up9 fz 4 g3) 5 g4) 7 g5) 8 g6), gz, (ivUp 23 (ivUp 22 (ivUp 0 hp (iv_top v0)) bv1) (iv_top v2)), ht0, ht1, ht2, ht3, hz_tz1, hz_tz3, hz_tz4, bg4, hz_tz17, bg5, bg6, hz_tz24, hz_tz25, hz_tz26, hz_tz27, hz_tz33, hz_tz34, hz_tz37, hz_tz38, g_0, rfl⟩ hP hD hS
theorem q_4_35 : Cond.code yX9_bare prog_1_method_35_code 3 (some FieldType.int) ∈ gw := gw_4 (i := 35) (rfl) rfl
theorem q_4_33 : Cond.instanceMethod yX9_bare ∈ gw := gw_4 (i := 33) (by decide +kernel) rfl
theorem q_4_34 : Cond.selects "BeaconDelay" yX9_bare yX9_bare ∈ gw := gw_4 (i := 34) (by decide +kernel) rfl
theorem mt_X9_bare : MtV yX9_bare cX9_bare 3 (some .int) 0 := ⟨⟨q_4_35, q_1_1, by decide +kernel, by decide +kernel, by decide +kernel⟩, q_4_33, q_4_34⟩
theorem q_4_32 : Cond.methodLink "BeaconDelayLaw" 84 yX9_bare ∈ gw := gw_4 (i := 32) (by decide +kernel) rfl
theorem dL_law_716 : decode cL_law 716 = .ok (.invokevirtual 84, 3) := by decide +kernel
set_option maxHeartbeats 4000000 in
set_option maxRecDepth 100000 in
theorem cx_17_s {p : Program} {e : Env} {s : State} {m : MethodId} {below : List Frame} {meth : Method} {c : Code} {l : Launch} {b Lk : Nat} {xs : Nat → Int32} {V : GV} {y : Nat → Nat} {τ : Nat → Int32} {H : Heap} {locs : List Loc} {cells slots : Nat} {wz : va_W} {ls : Array Slot} (G : LCx p s m meth c b Lk xs V)  {pp : Nat → Int32} {ff : Nat → Nat → Int32} {gg : Nat → Nat → Int64} {o10 o11 : Value} {rest : va_W} (hp : ivT tX pp) (ht0 : pp 0 = τ 0) (ht1 : pp 15 = τ 1) (ht2 : pp 16 = τ 2) (ht3 : BTs (ff 0) (tauT τ)) (ht4 : (∀ j, iv (-128) 127 ((ff 0) j))) (hR : RRo V y cells slots o10 o11 rest)  (hP : va_P V.1 vwCl (wB V y pp ff gg o10 o11 ++ rest ++ wz) H) (hD : va_D (AAs s) (wB V y pp ff gg o10 o11 ++ rest ++ wz)) (hS : va_S (AAs s) s.heap H locs) (hlz : ls.size = 4) (kk : (∀ (r : Int32) (H : Heap) (locs : List Loc) (cells slots : Nat) (wx : va_W), KX V y cells slots τ wx → va_P V.1 vwCl (wx ++ wz) H → va_D (AAs s) (wx ++ wz) → va_S (AAs s) s.heap H locs → W p l e room_1 s m #[Value.ref b] below meth c H locs cells slots (lw_Z below #[Value.ref b] s) (F0 m 719 ls [.int r]))) : W p l e room_1 s m #[Value.ref b] below meth c H locs cells slots (lw_Z below #[Value.ref b] s) (F0 m 716 ls [.ref (y 0)]) := by
  rw [as3] at hP hD
  refine cSI (X := wB V y pp ff gg o10 o11) (pl := rest ++ wz) (rest := []) G (k_X9_bare_0 l V y (pp 0) o10 o11 (pp 1) (pp 2) (pp 3) (pp 4) (pp 5) (pp 6) (pp 7) (pp 8) (pp 9) (pp 10) (pp 11) (pp 12) (pp 13) (pp 14) (ff 1) (ff 7) (ff 15) (ff 16) (ff 17) (pp 33) (pp 34) (hp 0) (hp 5) (hp 6) (hp 7) (hp 10) (hp 11) (hp 12) (hp 13) (hp 14)) mt_X9_bare q_4_32 ⟨Nat.le_of_ble_eq_true rfl, Nat.le_of_ble_eq_true rfl⟩ hP hD hS [0, 2, 3, 9, 19, 20, 21, 22, 25] [0, 1, 0, 5, 9, 0, 0, 0, 2] (by decide) (by decide +kernel) rfl 0 rfl rfl rfl rfl hlz rfl (Nat.le_of_ble_eq_true rfl) dL_law_716 hR.room (fun r w H locs hw hPD hS => ?_)
  refine Exists.elim hw (fun g0 hw => ?_)
  refine Exists.elim hw (fun g1 hw => ?_)
  refine Exists.elim hw (fun g2 hw => ?_)
  refine Exists.elim hw (fun v3 hw => ?_)
  refine Exists.elim hw (fun v4 hw => ?_)
  refine And.elim (fun br hw => ?_) hw
  subst hw
  obtain ⟨hP, hD⟩ := hPD (wB V y (up9 (up9 pp 33 v3) 34 v4) (up9 (up9 (up9 ff 15 g0) 16 g1) 17 g2) gg o10 o11) rfl rfl
  rw [← as3] at hP hD
  exact kk r H locs (cells + 0) (slots + 0) _ ⟨(up9 (up9 pp 33 v3) 34 v4), (up9 (up9 (up9 ff 15 g0) 16 g1) 17 g2), gg, o10, o11, rest, (ivUp 34 (ivUp 33 hp (iv_top v3)) (iv_top v4)), ht0, ht1, ht2, ht3, ht4, hR, rfl⟩ hP hD hS
set_option maxHeartbeats 4000000 in
set_option maxRecDepth 100000 in
theorem cx_17 {p : Program} {e : Env} {s : State} {m : MethodId} {below : List Frame} {meth : Method} {c : Code} {l : Launch} {b Lk : Nat} {xs : Nat → Int32} {V : GV} {y : Nat → Nat} {τ : Nat → Int32} {H : Heap} {locs : List Loc} {cells slots : Nat} {wz : va_W} {ls : Array Slot} (G : LCx p s m meth c b Lk xs V)  {wx : va_W} (kx : KX V y cells slots τ wx) (hP : va_P V.1 vwCl (wx ++ wz) H) (hD : va_D (AAs s) (wx ++ wz)) (hS : va_S (AAs s) s.heap H locs) (hlz : ls.size = 4) (kk : (∀ (r : Int32) (H : Heap) (locs : List Loc) (cells slots : Nat) (wx : va_W), KX V y cells slots τ wx → va_P V.1 vwCl (wx ++ wz) H → va_D (AAs s) (wx ++ wz) → va_S (AAs s) s.heap H locs → W p l e room_1 s m #[Value.ref b] below meth c H locs cells slots (lw_Z below #[Value.ref b] s) (F0 m 719 ls [.int r]))) : W p l e room_1 s m #[Value.ref b] below meth c H locs cells slots (lw_Z below #[Value.ref b] s) (F0 m 716 ls [.ref (y 0)]) := by
  obtain ⟨pp, ff, gg, o10, o11, rest, hp, ht0, ht1, ht2, ht3, ht4, hR, rfl⟩ := kx
  exact cx_17_s G  hp ht0 ht1 ht2 ht3 ht4 hR hP hD hS hlz kk
theorem q_7_173 : Cond.code yX10_bare prog_12_method_80_code 2 (some FieldType.int) ∈ gw := gw_7 (i := 173) (rfl) rfl
theorem q_7_171 : Cond.instanceMethod yX10_bare ∈ gw := gw_7 (i := 171) (by decide +kernel) rfl
theorem q_7_172 : Cond.selects "BeaconDelayModel" yX10_bare yX10_bare ∈ gw := gw_7 (i := 172) (by decide +kernel) rfl
theorem mt_X10_bare : MtV yX10_bare cX10_bare 2 (some .int) 0 := ⟨⟨q_7_173, q_1_9, by decide +kernel, by decide +kernel, by decide +kernel⟩, q_7_171, q_7_172⟩
theorem q_7_170 : Cond.methodLink "BeaconDelayLaw" 88 yX10_bare ∈ gw := gw_7 (i := 170) (by decide +kernel) rfl
theorem dL_law_721 : decode cL_law 721 = .ok (.invokevirtual 88, 3) := by decide +kernel
set_option maxHeartbeats 4000000 in
set_option maxRecDepth 100000 in
theorem cz_17 {p : Program} {e : Env} {s : State} {m : MethodId} {below : List Frame} {meth : Method} {c : Code} {l : Launch} {b Lk : Nat} {xs : Nat → Int32} {V : GV} {z : Nat → Nat} {τ : Nat → Int32} {H : Heap} {locs : List Loc} {cells slots : Nat} {wx : va_W} {ls : Array Slot} {rest : List Value} (G : LCx p s m meth c b Lk xs V)  {wz : va_W} (kz : KZ V z τ wz) (hP : va_P V.1 vwCl (wx ++ wz) H) (hD : va_D (AAs s) (wx ++ wz)) (hS : va_S (AAs s) s.heap H locs) (hcs : cells + 0 ≤ 600000 ∧ slots + 0 ≤ 7302250) (hro : (rest.map fun v => v.category).sum ≤ 8) (hlz : ls.size = 4) (kk : (∀ (r : Int32) (H : Heap) (locs : List Loc) (wz : va_W), KZ V z τ wz → va_P V.1 vwCl (wx ++ wz) H → va_D (AAs s) (wx ++ wz) → va_S (AAs s) s.heap H locs → W p l e room_1 s m #[Value.ref b] below meth c H locs cells slots (lw_Z below #[Value.ref b] s) (F0 m 724 ls (.int r :: rest)))) : W p l e room_1 s m #[Value.ref b] below meth c H locs cells slots (lw_Z below #[Value.ref b] s) (F0 m 721 ls (.ref (z 0) :: rest)) := by
  obtain ⟨pz, fz, gz, hp, ht0, ht1, ht2, ht3, hz_tz1, hz_tz3, hz_tz4, hz_tz16, hz_tz17, hz_tz20, hz_tz21, hz_tz24, hz_tz25, hz_tz26, hz_tz27, hz_tz33, hz_tz34, hz_tz37, hz_tz38, hz_RW, rfl⟩ := kz
  replace hP := swP hP
  replace hD := swD hD
  refine cSI (X := wZ V z pz fz gz) (pl := wx) (rest := rest) G (k_X10_bare_0 l V z (pz 0) (pz 5) (pz 6) (pz 7) (pz 8) (pz 9) (pz 10) (pz 11) (pz 12) (pz 13) (pz 14) (pz 18) (pz 19) (pz 22) (pz 23) (pz 29) (fz 0) (fz 4) (fz 5) (fz 7) (fz 8) (hp 5) (hp 6) (hp 7) (hp 8) (hp 10) (hp 11) (hp 12) (hp 13) (hp 14) (hp 18) (hp 22) (hp 29) hz_tz1 hz_tz16 hz_tz20 hz_tz21 hz_RW) mt_X10_bare q_7_170 ⟨Nat.le_of_ble_eq_true rfl, Nat.le_of_ble_eq_true rfl⟩ hP hD hS [0, 1, 5, 6, 8, 9] [0, 0, 3, 0, 1, 0] (by decide) (by decide +kernel) rfl 0 rfl rfl rfl rfl hlz rfl hro dL_law_721 hcs (fun r w H locs hw hPD hS => ?_)
  refine Exists.elim hw (fun v0 hw => ?_)
  refine Exists.elim hw (fun v1 hw => ?_)
  refine Exists.elim hw (fun v2 hw => ?_)
  refine Exists.elim hw (fun g3 hw => ?_)
  refine Exists.elim hw (fun g4 hw => ?_)
  refine Exists.elim hw (fun g5 hw => ?_)
  refine Exists.elim hw (fun g6 hw => ?_)
  refine And.elim (fun bv1 hw => ?_) hw
  refine And.elim (fun bg4 hw => ?_) hw
  refine And.elim (fun bg5 hw => ?_) hw
  refine And.elim (fun bg6 hw => ?_) hw
  refine And.elim (fun br hw => ?_) hw
  refine And.elim (fun g_0 hw => ?_) hw
  subst hw
  obtain ⟨hP, hD⟩ := hPD (wZ V z (up9 (up9 (up9 pz 0 v0) 22 v1) 23 v2) (up9 (up9 (up9 (up9 fz 4 g3) 5 g4) 7 g5) 8 g6) gz) rfl rfl
  replace hP := swP hP
  replace hD := swD hD
  exact kk r H locs _ ⟨(up9 (up9 (up9 pz 0 v0) 22 v1) 23 v2), (up9 (up9 (up9 (up9 fz 4 g3) 5 g4) 7 g5) 8 g6), gz, (ivUp 23 (ivUp 22 (ivUp 0 hp (iv_top v0)) bv1) (iv_top v2)), ht0, ht1, ht2, ht3, hz_tz1, hz_tz3, hz_tz4, bg4, hz_tz17, bg5, bg6, hz_tz24, hz_tz25, hz_tz26, hz_tz27, hz_tz33, hz_tz34, hz_tz37, hz_tz38, g_0, rfl⟩ hP hD hS
theorem q_4_39 : Cond.code yX9_rests prog_1_method_36_code 1 (some FieldType.int) ∈ gw := gw_4 (i := 39) (rfl) rfl
theorem q_4_37 : Cond.instanceMethod yX9_rests ∈ gw := gw_4 (i := 37) (by decide +kernel) rfl
theorem q_4_38 : Cond.selects "BeaconDelay" yX9_rests yX9_rests ∈ gw := gw_4 (i := 38) (by decide +kernel) rfl
theorem mt_X9_rests : MtV yX9_rests cX9_rests 1 (some .int) 0 := ⟨⟨q_4_39, q_1_1, by decide +kernel, by decide +kernel, by decide +kernel⟩, q_4_37, q_4_38⟩
theorem q_4_36 : Cond.methodLink "BeaconDelayLaw" 89 yX9_rests ∈ gw := gw_4 (i := 36) (by decide +kernel) rfl
theorem dL_law_729 : decode cL_law 729 = .ok (.invokevirtual 89, 3) := by decide +kernel
set_option maxHeartbeats 4000000 in
set_option maxRecDepth 100000 in
theorem cx_18_s {p : Program} {e : Env} {s : State} {m : MethodId} {below : List Frame} {meth : Method} {c : Code} {l : Launch} {b Lk : Nat} {xs : Nat → Int32} {V : GV} {y : Nat → Nat} {τ : Nat → Int32} {H : Heap} {locs : List Loc} {cells slots : Nat} {wz : va_W} {ls : Array Slot} (G : LCx p s m meth c b Lk xs V)  {pp : Nat → Int32} {ff : Nat → Nat → Int32} {gg : Nat → Nat → Int64} {o10 o11 : Value} {rest : va_W} (hp : ivT tX pp) (ht0 : pp 0 = τ 0) (ht1 : pp 15 = τ 1) (ht2 : pp 16 = τ 2) (ht3 : BTs (ff 0) (tauT τ)) (ht4 : (∀ j, iv (-128) 127 ((ff 0) j))) (hR : RRo V y cells slots o10 o11 rest)  (hP : va_P V.1 vwCl (wB V y pp ff gg o10 o11 ++ rest ++ wz) H) (hD : va_D (AAs s) (wB V y pp ff gg o10 o11 ++ rest ++ wz)) (hS : va_S (AAs s) s.heap H locs) (hlz : ls.size = 4) (kk : (∀ (r : Int32) (H : Heap) (locs : List Loc) (cells slots : Nat) (wx : va_W), KX V y cells slots τ wx → va_P V.1 vwCl (wx ++ wz) H → va_D (AAs s) (wx ++ wz) → va_S (AAs s) s.heap H locs → W p l e room_1 s m #[Value.ref b] below meth c H locs cells slots (lw_Z below #[Value.ref b] s) (F0 m 732 ls [.int r]))) : W p l e room_1 s m #[Value.ref b] below meth c H locs cells slots (lw_Z below #[Value.ref b] s) (F0 m 729 ls [.ref (y 0)]) := by
  rw [as3] at hP hD
  refine cSI (X := wB V y pp ff gg o10 o11) (pl := rest ++ wz) (rest := []) G (k_X9_rests_0 l V y (pp 0) o10 o11 (pp 1) (pp 2) (pp 3) (pp 4) (pp 5) (pp 6) (pp 7) (pp 8) (pp 9) (pp 10) (pp 11) (pp 12) (pp 13) (pp 14) (ff 1) (ff 7) (ff 15) (ff 16) (ff 17) (ff 18) (ff 19) (hp 0) (hp 5) (hp 6) (hp 7) (hp 10) (hp 11) (hp 12) (hp 13) (hp 14)) mt_X9_rests q_4_36 ⟨Nat.le_of_ble_eq_true rfl, Nat.le_of_ble_eq_true rfl⟩ hP hD hS [0, 2, 3, 9, 19, 20, 21, 22, 23, 24] [0, 1, 0, 5, 9, 0, 0, 0, 0, 0] (by decide) (by decide +kernel) rfl 0 rfl rfl rfl rfl hlz rfl (Nat.le_of_ble_eq_true rfl) dL_law_729 hR.room (fun r w H locs hw hPD hS => ?_)
  refine Exists.elim hw (fun g0 hw => ?_)
  refine Exists.elim hw (fun g1 hw => ?_)
  refine Exists.elim hw (fun g2 hw => ?_)
  refine Exists.elim hw (fun g3 hw => ?_)
  refine Exists.elim hw (fun g4 hw => ?_)
  subst hw
  obtain ⟨hP, hD⟩ := hPD (wB V y pp (br9 20 (br9 10 ff (br9 15 ff (br9 17 (br9 16 (lf9 g0) (lf9 g1)) (br9 18 (lf9 g2) (br9 19 (lf9 g3) (lf9 g4)))))) ff) gg o10 o11) rfl rfl
  rw [← as3] at hP hD
  exact kk r H locs (cells + 0) (slots + 0) _ ⟨pp, (br9 20 (br9 10 ff (br9 15 ff (br9 17 (br9 16 (lf9 g0) (lf9 g1)) (br9 18 (lf9 g2) (br9 19 (lf9 g3) (lf9 g4)))))) ff), gg, o10, o11, rest, hp, ht0, ht1, ht2, ht3, ht4, hR, rfl⟩ hP hD hS
set_option maxHeartbeats 4000000 in
set_option maxRecDepth 100000 in
theorem cx_18 {p : Program} {e : Env} {s : State} {m : MethodId} {below : List Frame} {meth : Method} {c : Code} {l : Launch} {b Lk : Nat} {xs : Nat → Int32} {V : GV} {y : Nat → Nat} {τ : Nat → Int32} {H : Heap} {locs : List Loc} {cells slots : Nat} {wz : va_W} {ls : Array Slot} (G : LCx p s m meth c b Lk xs V)  {wx : va_W} (kx : KX V y cells slots τ wx) (hP : va_P V.1 vwCl (wx ++ wz) H) (hD : va_D (AAs s) (wx ++ wz)) (hS : va_S (AAs s) s.heap H locs) (hlz : ls.size = 4) (kk : (∀ (r : Int32) (H : Heap) (locs : List Loc) (cells slots : Nat) (wx : va_W), KX V y cells slots τ wx → va_P V.1 vwCl (wx ++ wz) H → va_D (AAs s) (wx ++ wz) → va_S (AAs s) s.heap H locs → W p l e room_1 s m #[Value.ref b] below meth c H locs cells slots (lw_Z below #[Value.ref b] s) (F0 m 732 ls [.int r]))) : W p l e room_1 s m #[Value.ref b] below meth c H locs cells slots (lw_Z below #[Value.ref b] s) (F0 m 729 ls [.ref (y 0)]) := by
  obtain ⟨pp, ff, gg, o10, o11, rest, hp, ht0, ht1, ht2, ht3, ht4, hR, rfl⟩ := kx
  exact cx_18_s G  hp ht0 ht1 ht2 ht3 ht4 hR hP hD hS hlz kk
theorem q_7_177 : Cond.code yX10_rests prog_12_method_81_code 5 (some FieldType.int) ∈ gw := gw_7 (i := 177) (rfl) rfl
theorem q_7_175 : Cond.instanceMethod yX10_rests ∈ gw := gw_7 (i := 175) (by decide +kernel) rfl
theorem q_7_176 : Cond.selects "BeaconDelayModel" yX10_rests yX10_rests ∈ gw := gw_7 (i := 176) (by decide +kernel) rfl
theorem mt_X10_rests : MtV yX10_rests cX10_rests 5 (some .int) 0 := ⟨⟨q_7_177, q_1_9, by decide +kernel, by decide +kernel, by decide +kernel⟩, q_7_175, q_7_176⟩
theorem q_7_174 : Cond.methodLink "BeaconDelayLaw" 92 yX10_rests ∈ gw := gw_7 (i := 174) (by decide +kernel) rfl
theorem dL_law_734 : decode cL_law 734 = .ok (.invokevirtual 92, 3) := by decide +kernel
set_option maxHeartbeats 4000000 in
set_option maxRecDepth 100000 in
theorem cz_18 {p : Program} {e : Env} {s : State} {m : MethodId} {below : List Frame} {meth : Method} {c : Code} {l : Launch} {b Lk : Nat} {xs : Nat → Int32} {V : GV} {z : Nat → Nat} {τ : Nat → Int32} {H : Heap} {locs : List Loc} {cells slots : Nat} {wx : va_W} {ls : Array Slot} {rest : List Value} (G : LCx p s m meth c b Lk xs V)  {wz : va_W} (kz : KZ V z τ wz) (hP : va_P V.1 vwCl (wx ++ wz) H) (hD : va_D (AAs s) (wx ++ wz)) (hS : va_S (AAs s) s.heap H locs) (hcs : cells + 0 ≤ 600000 ∧ slots + 0 ≤ 7302250) (hro : (rest.map fun v => v.category).sum ≤ 8) (hlz : ls.size = 4) (kk : (∀ (r : Int32) (H : Heap) (locs : List Loc) (wz : va_W), KZ V z τ wz → va_P V.1 vwCl (wx ++ wz) H → va_D (AAs s) (wx ++ wz) → va_S (AAs s) s.heap H locs → W p l e room_1 s m #[Value.ref b] below meth c H locs cells slots (lw_Z below #[Value.ref b] s) (F0 m 737 ls (.int r :: rest)))) : W p l e room_1 s m #[Value.ref b] below meth c H locs cells slots (lw_Z below #[Value.ref b] s) (F0 m 734 ls (.ref (z 0) :: rest)) := by
  obtain ⟨pz, fz, gz, hp, ht0, ht1, ht2, ht3, hz_tz1, hz_tz3, hz_tz4, hz_tz16, hz_tz17, hz_tz20, hz_tz21, hz_tz24, hz_tz25, hz_tz26, hz_tz27, hz_tz33, hz_tz34, hz_tz37, hz_tz38, hz_RW, rfl⟩ := kz
  replace hP := swP hP
  replace hD := swD hD
  refine cSI (X := wZ V z pz fz gz) (pl := wx) (rest := rest) G (k_X10_rests_0 l V z (pz 0) (pz 5) (pz 6) (pz 7) (pz 8) (pz 9) (pz 10) (pz 11) (pz 12) (pz 13) (pz 14) (pz 18) (pz 19) (pz 22) (pz 23) (pz 29) (fz 0) (fz 4) (fz 5) (hp 5) (hp 6) (hp 7) (hp 8) (hp 10) (hp 11) (hp 12) (hp 13) (hp 14) (hp 18) (hp 22) (hp 29) hz_tz1 hz_tz16 hz_RW) mt_X10_rests q_7_174 ⟨Nat.le_of_ble_eq_true rfl, Nat.le_of_ble_eq_true rfl⟩ hP hD hS [0, 1, 5, 6] [0, 0, 3, 0] (by decide) (by decide +kernel) rfl 0 rfl rfl rfl rfl hlz rfl hro dL_law_734 hcs (fun r w H locs hw hPD hS => ?_)
  refine Exists.elim hw (fun v0 hw => ?_)
  refine Exists.elim hw (fun g1 hw => ?_)
  refine Exists.elim hw (fun g2 hw => ?_)
  refine And.elim (fun bg2 hw => ?_) hw
  refine And.elim (fun g_0 hw => ?_) hw
  subst hw
  obtain ⟨hP, hD⟩ := hPD (wZ V z (up9 pz 0 v0) (up9 (up9 fz 4 g1) 5 g2) gz) rfl rfl
  replace hP := swP hP
  replace hD := swD hD
  exact kk r H locs _ ⟨(up9 pz 0 v0), (up9 (up9 fz 4 g1) 5 g2), gz, (ivUp 0 hp (iv_top v0)), ht0, ht1, ht2, ht3, hz_tz1, hz_tz3, hz_tz4, bg2, hz_tz17, hz_tz20, hz_tz21, hz_tz24, hz_tz25, hz_tz26, hz_tz27, hz_tz33, hz_tz34, hz_tz37, hz_tz38, g_0, rfl⟩ hP hD hS
theorem q_4_48 : Cond.code yX9_soonest prog_1_method_39_code 5 (some FieldType.int) ∈ gw := gw_4 (i := 48) (rfl) rfl
theorem q_4_46 : Cond.instanceMethod yX9_soonest ∈ gw := gw_4 (i := 46) (by decide +kernel) rfl
theorem q_4_47 : Cond.selects "BeaconDelay" yX9_soonest yX9_soonest ∈ gw := gw_4 (i := 47) (by decide +kernel) rfl
theorem mt_X9_soonest : MtV yX9_soonest cX9_soonest 5 (some .int) 2 := ⟨⟨q_4_48, q_1_1, by decide +kernel, by decide +kernel, by decide +kernel⟩, q_4_46, q_4_47⟩
theorem q_4_45 : Cond.methodLink "BeaconDelayLaw" 93 yX9_soonest ∈ gw := gw_4 (i := 45) (by decide +kernel) rfl
theorem dL_law_752 : decode cL_law 752 = .ok (.invokevirtual 93, 3) := by decide +kernel
set_option maxHeartbeats 4000000 in
set_option maxRecDepth 100000 in
theorem cx_19_e {p : Program} {e : Env} {s : State} {m : MethodId} {below : List Frame} {meth : Method} {c : Code} {l : Launch} {b Lk : Nat} {xs : Nat → Int32} {V : GV} {y : Nat → Nat} {τ : Nat → Int32} {H : Heap} {locs : List Loc} {cells slots : Nat} {wz : va_W} {ls : Array Slot} (G : LCx p s m meth c b Lk xs V) (a1 : Int32) (a2 : Int32) {pp : Nat → Int32} {ff : Nat → Nat → Int32} {gg : Nat → Nat → Int64} {o10 o11 : Value} {rest : va_W} (hp : ivT tX pp) (ht0 : pp 0 = τ 0) (ht1 : pp 15 = τ 1) (ht2 : pp 16 = τ 2) (ht3 : BTs (ff 0) (tauT τ)) (ht4 : (∀ j, iv (-128) 127 ((ff 0) j))) (hR : RRo V y cells slots o10 o11 rest) (hg : ¬ (0 ≤ (a1 : Int32).toInt ∧ (a1 : Int32).toInt < ((pp 5) : Int32).toInt ∧ 0 ≤ (a2 : Int32).toInt ∧ (a2 : Int32).toInt ≤ 4)) (hP : va_P V.1 vwCl (wB V y pp ff gg o10 o11 ++ rest ++ wz) H) (hD : va_D (AAs s) (wB V y pp ff gg o10 o11 ++ rest ++ wz)) (hS : va_S (AAs s) s.heap H locs) (hlz : ls.size = 4) (kk : (∀ (r : Int32) (H : Heap) (locs : List Loc) (cells slots : Nat) (wx : va_W), KX V y cells slots τ wx → va_P V.1 vwCl (wx ++ wz) H → va_D (AAs s) (wx ++ wz) → va_S (AAs s) s.heap H locs → W p l e room_1 s m #[Value.ref b] below meth c H locs cells slots (lw_Z below #[Value.ref b] s) (F0 m 755 ls [.int r]))) : W p l e room_1 s m #[Value.ref b] below meth c H locs cells slots (lw_Z below #[Value.ref b] s) (F0 m 752 ls [.int a2, .int a1, .ref (y 0)]) := by
  rw [as3] at hP hD
  refine cSI (X := wB V y pp ff gg o10 o11) (pl := rest ++ wz) (rest := []) G (k_X9_soonest_1 l V y a1 a2 (pp 0) o10 o11 (pp 1) (pp 2) (pp 3) (pp 4) (pp 5) (pp 6) (pp 7) (pp 8) (pp 9) (pp 10) (pp 11) (pp 12) (pp 13) (pp 14) (hp 0) (hp 5) (hp 6) (hp 7) (hp 10) (hp 11) (hp 12) (hp 13) (hp 14) hg) mt_X9_soonest q_4_45 ⟨Nat.le_of_ble_eq_true rfl, Nat.le_of_ble_eq_true rfl⟩ hP hD hS [0, 2] [0, 1] (by decide) (by decide +kernel) rfl 0 rfl rfl rfl rfl hlz rfl (Nat.le_of_ble_eq_true rfl) dL_law_752 hR.room (fun r w H locs hw hPD hS => ?_)
  refine And.elim (fun br hw => ?_) hw
  subst hw
  obtain ⟨hP, hD⟩ := hPD (wB V y pp ff gg o10 o11) rfl rfl
  rw [← as3] at hP hD
  exact kk r H locs (cells + 0) (slots + 0) _ ⟨pp, ff, gg, o10, o11, rest, hp, ht0, ht1, ht2, ht3, ht4, hR, rfl⟩ hP hD hS
set_option maxHeartbeats 4000000 in
set_option maxRecDepth 100000 in
theorem cx_19_0 {p : Program} {e : Env} {s : State} {m : MethodId} {below : List Frame} {meth : Method} {c : Code} {l : Launch} {b Lk : Nat} {xs : Nat → Int32} {V : GV} {y : Nat → Nat} {τ : Nat → Int32} {H : Heap} {locs : List Loc} {cells slots : Nat} {wz : va_W} {ls : Array Slot} (G : LCx p s m meth c b Lk xs V) (a1 : Int32) (a2 : Int32) {pp : Nat → Int32} {ff : Nat → Nat → Int32} {gg : Nat → Nat → Int64} (hp : ivT tX pp) (ht0 : pp 0 = τ 0) (ht1 : pp 15 = τ 1) (ht2 : pp 16 = τ 2) (ht3 : BTs (ff 0) (tauT τ)) (ht4 : (∀ j, iv (-128) 127 ((ff 0) j))) (hc : cells + 116 ≤ 600000 ∧ slots + 633553 ≤ 7302250) (hg : 0 ≤ (a1 : Int32).toInt ∧ (a1 : Int32).toInt < ((pp 5) : Int32).toInt ∧ 0 ≤ (a2 : Int32).toInt ∧ (a2 : Int32).toInt ≤ 4) (hP : va_P V.1 vwCl (wB V y pp ff gg .null .null ++ [] ++ wz) H) (hD : va_D (AAs s) (wB V y pp ff gg .null .null ++ [] ++ wz)) (hS : va_S (AAs s) s.heap H locs) (hlz : ls.size = 4) (kk : (∀ (r : Int32) (H : Heap) (locs : List Loc) (cells slots : Nat) (wx : va_W), KX V y cells slots τ wx → va_P V.1 vwCl (wx ++ wz) H → va_D (AAs s) (wx ++ wz) → va_S (AAs s) s.heap H locs → W p l e room_1 s m #[Value.ref b] below meth c H locs cells slots (lw_Z below #[Value.ref b] s) (F0 m 755 ls [.int r]))) : W p l e room_1 s m #[Value.ref b] below meth c H locs cells slots (lw_Z below #[Value.ref b] s) (F0 m 752 ls [.int a2, .int a1, .ref (y 0)]) := by
  refine cXI (X := wB V y pp ff gg .null .null ++ []) (pl := wz) (wr := [(y 1, aB V 900 (ff 0)), (y 4, aI V 4 (ff 2)), (y 5, aI V 4 (ff 3)), (y 6, aI V 8 (ff 4)), (y 7, aI V 8 (ff 5)), (y 8, aI V 8 (ff 6)), (y 10, .inr (6, [.ref (y 11), .int (pp 15), .int (pp 16), .ref (y 1), .int (pp 17), .int (pp 18), .int (pp 19), .int (pp 20), .int (pp 21)])), (y 11, .inr (1, [.int (pp 22), .int (pp 23), .int (pp 24), .int (pp 25), .int (pp 26), .int (pp 27), .ref (y 12), .ref (y 13), .ref (y 14), .ref (y 15), .ref (y 16), .ref (y 17), .ref (y 18), .int (pp 28), .int (pp 29), .int (pp 30), .int (pp 31), .int (pp 32)])), (y 12, aI V 4 (ff 8)), (y 13, aI V 4 (ff 9)), (y 14, aI V 4 (ff 10)), (y 15, aI V 8 (ff 11)), (y 16, aI V 8 (ff 12)), (y 17, aI V 8 (ff 13)), (y 18, aI V 900 (ff 14)), (y 23, aI V 10 (ff 18)), (y 24, aI V 10 (ff 19)), (y 25, .inr (0, [.int (pp 33), .int (pp 34)])), (y 26, .inr (5, [.ref (y 27), .ref (y 28), .ref (y 29), .int (pp 35)])), (y 27, aI V 10 (ff 20)), (y 28, aI V 10 (ff 21)), (y 29, aI V 10 (ff 22)), (y 30, aT V 4 (va_up (va_up (va_up (va_up (fun _ => none) 0 (some (y 33))) 1 (some (y 35))) 2 (some (y 37))) 3 (some (y 39)))), (y 31, aM V 2 (va_up (va_up (fun _ => none) 0 (some (y 41))) 1 (some (y 50)))), (y 32, aI V 10 (ff 23)), (y 33, .inr (7, [.ref (y 34), .int (pp 36), .int (pp 37)])), (y 34, aJ V 40 (gg 0)), (y 35, .inr (7, [.ref (y 36), .int (pp 38), .int (pp 39)])), (y 36, aJ V 40 (gg 1)), (y 37, .inr (7, [.ref (y 38), .int (pp 40), .int (pp 41)])), (y 38, aJ V 40 (gg 2)), (y 39, .inr (7, [.ref (y 40), .int (pp 42), .int (pp 43)])), (y 40, aJ V 40 (gg 3)), (y 41, .inr (3, [.ref (y 42), .int (pp 44), .int (pp 45), .int (pp 46), .int (pp 47)])), (y 42, .inr (1, [.int (pp 48), .int (pp 49), .int (pp 50), .int (pp 51), .int (pp 52), .int (pp 53), .ref (y 43), .ref (y 44), .ref (y 45), .ref (y 46), .ref (y 47), .ref (y 48), .ref (y 49), .int (pp 54), .int (pp 55), .int (pp 56), .int (pp 57), .int (pp 58)])), (y 43, aI V 4 (ff 24)), (y 44, aI V 4 (ff 25)), (y 45, aI V 4 (ff 26)), (y 46, aI V 8 (ff 27)), (y 47, aI V 8 (ff 28)), (y 48, aI V 8 (ff 29)), (y 49, aI V 900 (ff 30)), (y 50, .inr (3, [.ref (y 51), .int (pp 59), .int (pp 60), .int (pp 61), .int (pp 62)])), (y 51, .inr (1, [.int (pp 63), .int (pp 64), .int (pp 65), .int (pp 66), .int (pp 67), .int (pp 68), .ref (y 52), .ref (y 53), .ref (y 54), .ref (y 55), .ref (y 56), .ref (y 57), .ref (y 58), .int (pp 69), .int (pp 70), .int (pp 71), .int (pp 72), .int (pp 73)])), (y 52, aI V 4 (ff 31)), (y 53, aI V 4 (ff 32)), (y 54, aI V 4 (ff 33)), (y 55, aI V 8 (ff 34)), (y 56, aI V 8 (ff 35)), (y 57, aI V 8 (ff 36)), (y 58, aI V 900 (ff 37))]) (rest := []) G (k_X9_soonest_2 l V y a1 a2 (pp 0) (.null) (pp 1) (pp 2) (pp 3) (pp 4) (pp 5) (pp 6) (pp 7) (pp 8) (pp 9) (pp 10) (pp 11) (pp 12) (pp 13) (pp 14) (ff 1) (ff 7) (ff 15) (ff 16) (ff 17) (hp 0) (hp 5) (hp 6) (hp 7) (hp 10) (hp 11) (hp 12) (hp 13) (hp 14) hg.1 hg.2.1 hg.2.2.1 hg.2.2.2) mt_X9_soonest q_4_45 ⟨Nat.le_of_ble_eq_true rfl, Nat.le_of_ble_eq_true rfl⟩ hP hD hS [0, 2, 3, 9, 19, 20, 21, 22] [1, 4, 5, 6, 7, 8, 10, 11, 12, 13, 14, 15, 16, 17, 18, 23, 24, 25, 26, 27, 28, 29, 30, 31, 32, 33, 34, 35, 36, 37, 38, 39, 40, 41, 42, 43, 44, 45, 46, 47, 48, 49, 50, 51, 52, 53, 54, 55, 56, 57, 58] (by decide +kernel) rfl rfl (by decide +kernel) (by decide +kernel) 0 rfl rfl rfl rfl hlz rfl (Nat.le_of_ble_eq_true rfl) dL_law_752 (by omega) (fun r w H locs hw hP hD hS => ?_)
  refine Exists.elim hw (fun n1 hw => ?_)
  refine Exists.elim hw (fun L1 hw => ?_)
  refine Exists.elim hw (fun Yw1 hw => ?_)
  refine Exists.elim hw (fun wa1 hw => ?_)
  refine Exists.elim hw (fun wb1 hw => ?_)
  refine Exists.elim hw (fun g0 hw => ?_)
  refine Exists.elim hw (fun g1 hw => ?_)
  refine Exists.elim hw (fun g2 hw => ?_)
  refine Exists.elim hw (fun ww0 hw => ?_)
  refine Exists.elim hw (fun ww5 hw => ?_)
  refine Exists.elim hw (fun ww6 hw => ?_)
  refine Exists.elim hw (fun ww14 hw => ?_)
  refine Exists.elim hw (fun ww15 hw => ?_)
  refine Exists.elim hw (fun ww16 hw => ?_)
  refine Exists.elim hw (fun wew1 hw => ?_)
  refine Exists.elim hw (fun wew2 hw => ?_)
  refine Exists.elim hw (fun wew3 hw => ?_)
  refine Exists.elim hw (fun wew4 hw => ?_)
  refine Exists.elim hw (fun wew5 hw => ?_)
  refine Exists.elim hw (fun wew6 hw => ?_)
  refine Exists.elim hw (fun wew7 hw => ?_)
  refine Exists.elim hw (fun wew8 hw => ?_)
  refine Exists.elim hw (fun wew9 hw => ?_)
  refine And.elim (fun hn1 hw => ?_) hw
  refine And.elim (fun hL1 hw => ?_) hw
  refine And.elim (fun bww0 hw => ?_) hw
  refine And.elim (fun bww5 hw => ?_) hw
  refine And.elim (fun bww6 hw => ?_) hw
  refine And.elim (fun bww14 hw => ?_) hw
  refine And.elim (fun bww16 hw => ?_) hw
  refine And.elim (fun bwew1 hw => ?_) hw
  refine And.elim (fun bwew4 hw => ?_) hw
  refine And.elim (fun bwew5 hw => ?_) hw
  refine And.elim (fun bwew6 hw => ?_) hw
  refine And.elim (fun bwew7 hw => ?_) hw
  refine And.elim (fun g_0 hw => ?_) hw
  refine And.elim (fun g_1 hw => ?_) hw
  refine And.elim (fun g_2 hw => ?_) hw
  refine And.elim (fun g_3 hw => ?_) hw
  subst hw
  have hP := ptP (ws' := wB V y pp (up9 (up9 (up9 ff 15 g0) 16 g1) 17 g2) gg (.ref (Yw1 0)) .null ++ (wY V y n1 L1 Yw1 wa1 wb1 (br9 17 (br9 8 (br9 4 (br9 2 (br9 1 (lf9 ww0) (fun _ => 0)) (fun _ => 0)) (br9 6 (br9 5 (fun _ => 0) (lf9 ww5)) (br9 7 (lf9 ww6) (fun _ => 0)))) (br9 12 (fun _ => 0) (br9 14 (fun _ => 0) (br9 15 (lf9 ww14) (br9 16 (lf9 ww15) (lf9 ww16)))))) (fun _ => 0)) (br9 9 (br9 4 (br9 2 (br9 1 (lf9 wew1) (lf9 wew2)) (br9 3 (lf9 wew3) (lf9 wew4))) (br9 6 (br9 5 (lf9 wew5) (lf9 wew6)) (br9 7 (lf9 wew7) (br9 8 (lf9 wew8) (lf9 wew9))))) (fun _ _ => 0)) ++ [])) hP [51, 0, 52, 53, 1, 2, 3, 4, 5, 54, 6, 7, 8, 9, 10, 11, 12, 13, 14, 55, 56, 57, 58, 15, 16, 17, 18, 19, 20, 21, 22, 23, 24, 25, 26, 27, 28, 29, 30, 31, 32, 33, 34, 35, 36, 37, 38, 39, 40, 41, 42, 43, 44, 45, 46, 47, 48, 49, 50, 59, 60, 61, 62, 63, 64, 65, 66, 67, 68] rfl
  have hD := hD.part (cx := wB V y pp (up9 (up9 (up9 ff 15 g0) 16 g1) 17 g2) gg (.ref (Yw1 0)) .null ++ (wY V y n1 L1 Yw1 wa1 wb1 (br9 17 (br9 8 (br9 4 (br9 2 (br9 1 (lf9 ww0) (fun _ => 0)) (fun _ => 0)) (br9 6 (br9 5 (fun _ => 0) (lf9 ww5)) (br9 7 (lf9 ww6) (fun _ => 0)))) (br9 12 (fun _ => 0) (br9 14 (fun _ => 0) (br9 15 (lf9 ww14) (br9 16 (lf9 ww15) (lf9 ww16)))))) (fun _ => 0)) (br9 9 (br9 4 (br9 2 (br9 1 (lf9 wew1) (lf9 wew2)) (br9 3 (lf9 wew3) (lf9 wew4))) (br9 6 (br9 5 (lf9 wew5) (lf9 wew6)) (br9 7 (lf9 wew7) (br9 8 (lf9 wew8) (lf9 wew9))))) (fun _ _ => 0)) ++ [])) [51, 0, 52, 53, 1, 2, 3, 4, 5, 54, 6, 7, 8, 9, 10, 11, 12, 13, 14, 55, 56, 57, 58, 15, 16, 17, 18, 19, 20, 21, 22, 23, 24, 25, 26, 27, 28, 29, 30, 31, 32, 33, 34, 35, 36, 37, 38, 39, 40, 41, 42, 43, 44, 45, 46, 47, 48, 49, 50, 59, 60, 61, 62, 63, 64, 65, 66, 67, 68] (by decide +kernel) rfl
  exact kk r H locs (cells + 10) (slots + 46481) _ ⟨pp, (up9 (up9 (up9 ff 15 g0) 16 g1) 17 g2), gg, .ref (Yw1 0), .null, _, hp, ht0, ht1, ht2, ht3, ht4, Or.inr ⟨n1, L1, Yw1, wa1, wb1, (br9 17 (br9 8 (br9 4 (br9 2 (br9 1 (lf9 ww0) (fun _ => 0)) (fun _ => 0)) (br9 6 (br9 5 (fun _ => 0) (lf9 ww5)) (br9 7 (lf9 ww6) (fun _ => 0)))) (br9 12 (fun _ => 0) (br9 14 (fun _ => 0) (br9 15 (lf9 ww14) (br9 16 (lf9 ww15) (lf9 ww16)))))) (fun _ => 0)), (br9 9 (br9 4 (br9 2 (br9 1 (lf9 wew1) (lf9 wew2)) (br9 3 (lf9 wew3) (lf9 wew4))) (br9 6 (br9 5 (lf9 wew5) (lf9 wew6)) (br9 7 (lf9 wew7) (br9 8 (lf9 wew8) (lf9 wew9))))) (fun _ _ => 0)), [], 0, ⟨hn1, hL1, bww0, bww5, bww6, bww14, bww16, bwew1, bwew4, bwew5, bwew6, bwew7, g_0, g_1, g_2⟩, (Or.inl ⟨rfl, rfl, rfl⟩), (show PTn _ _ _ _ ww0 from by rw [g_3]; exact PTn_0 10 46481 hc (hp 5) (by decide) (by decide) n1 0), rfl, rfl⟩, rfl⟩ hP hD hS
set_option maxHeartbeats 4000000 in
set_option maxRecDepth 100000 in
theorem cx_19_a {p : Program} {e : Env} {s : State} {m : MethodId} {below : List Frame} {meth : Method} {c : Code} {l : Launch} {b Lk : Nat} {xs : Nat → Int32} {V : GV} {y : Nat → Nat} {τ : Nat → Int32} {H : Heap} {locs : List Loc} {cells slots : Nat} {wz : va_W} {ls : Array Slot} (G : LCx p s m meth c b Lk xs V) (a1 : Int32) (a2 : Int32) {pp : Nat → Int32} {ff : Nat → Nat → Int32} {gg : Nat → Nat → Int64} {n L : Nat} {Yw : Nat → Nat} {wa wb : Nat} {qq : Nat → Int32} {ee : Nat → Nat → Int32} {o11 : Value} {fr : va_W} {fm : Nat} (hp : ivT tX pp) (ht0 : pp 0 = τ 0) (ht1 : pp 15 = τ 1) (ht2 : pp 16 = τ 2) (ht3 : BTs (ff 0) (tauT τ)) (ht4 : (∀ j, iv (-128) 127 ((ff 0) j))) (hW : WFa n L qq ee) (hF : RFo V o11 fr fm) (hT : PTn cells slots n fm (qq 0)) (hq : pp 5 ≤ qq 0) (hP : va_P V.1 vwCl (wB V y pp ff gg (.ref (Yw 0)) o11 ++ (wY V y n L Yw wa wb qq ee ++ fr) ++ wz) H) (hD : va_D (AAs s) (wB V y pp ff gg (.ref (Yw 0)) o11 ++ (wY V y n L Yw wa wb qq ee ++ fr) ++ wz)) (hS : va_S (AAs s) s.heap H locs) (hlz : ls.size = 4) (kk : (∀ (r : Int32) (H : Heap) (locs : List Loc) (cells slots : Nat) (wx : va_W), KX V y cells slots τ wx → va_P V.1 vwCl (wx ++ wz) H → va_D (AAs s) (wx ++ wz) → va_S (AAs s) s.heap H locs → W p l e room_1 s m #[Value.ref b] below meth c H locs cells slots (lw_Z below #[Value.ref b] s) (F0 m 755 ls [.int r]))) : W p l e room_1 s m #[Value.ref b] below meth c H locs cells slots (lw_Z below #[Value.ref b] s) (F0 m 752 ls [.int a2, .int a1, .ref (y 0)]) := by
  obtain ⟨hn, hL, hw_q0, hw_q5, hw_q6, hw_q14, hw_q16, hw_tYw1, hw_tYw4, hw_tYw5, hw_tYw6, hw_tYw7, hw_WA, hw_WB, hw_WC⟩ := id hW
  rw [as4] at hP hD
  refine cSI (X := wB V y pp ff gg (.ref (Yw 0)) o11 ++ wY V y n L Yw wa wb qq ee) (pl := fr ++ wz) (rest := []) G (k_X9_soonest_0 l V n L Yw y a1 a2 (pp 0) o11 (pp 1) (pp 2) (pp 3) (pp 4) (pp 5) (pp 6) (pp 7) (pp 8) (pp 9) (pp 10) (pp 11) (pp 12) (pp 13) (pp 14) (ff 1) (ff 7) (ff 15) (ff 16) (ff 17) (qq 0) wa (qq 5) (qq 6) wb (qq 14) (qq 15) (qq 16) (ee 0) (ee 1) (ee 3) (ee 4) (ee 5) (ee 7) hn hL hq (hp 0) (hp 5) (hp 6) (hp 7) (hp 10) (hp 11) (hp 12) (hp 13) (hp 14) hw_q0 hw_q5 hw_q6 hw_q14 hw_q16 hw_tYw1 hw_tYw4 hw_tYw5 hw_tYw6 hw_WA hw_WB hw_WC) mt_X9_soonest q_4_45 ⟨Nat.le_of_ble_eq_true rfl, Nat.le_of_ble_eq_true rfl⟩ hP hD hS [0, 2, 3, 9, 19, 20, 21, 22, 59, 60, 61, 63, 64, 65, 67] [0, 1, 0, 5, 9, 0, 0, 0, 36, 0, 0, 1, 0, 0, 1] (by decide) (by decide +kernel) rfl 0 rfl rfl rfl rfl hlz rfl (Nat.le_of_ble_eq_true rfl) dL_law_752 (PTn_room hT hw_q0) (fun r w H locs hw hPD hS => ?_)
  refine Exists.elim hw (fun g0 hw => ?_)
  refine Exists.elim hw (fun g1 hw => ?_)
  refine Exists.elim hw (fun g2 hw => ?_)
  refine Exists.elim hw (fun v3 hw => ?_)
  refine Exists.elim hw (fun v4 hw => ?_)
  refine Exists.elim hw (fun v5 hw => ?_)
  refine Exists.elim hw (fun v6 hw => ?_)
  refine Exists.elim hw (fun v7 hw => ?_)
  refine Exists.elim hw (fun g8 hw => ?_)
  refine Exists.elim hw (fun g9 hw => ?_)
  refine Exists.elim hw (fun g10 hw => ?_)
  refine Exists.elim hw (fun g11 hw => ?_)
  refine Exists.elim hw (fun g12 hw => ?_)
  refine Exists.elim hw (fun g13 hw => ?_)
  refine And.elim (fun bv3 hw => ?_) hw
  refine And.elim (fun bv4 hw => ?_) hw
  refine And.elim (fun bv5 hw => ?_) hw
  refine And.elim (fun bv7 hw => ?_) hw
  refine And.elim (fun bg8 hw => ?_) hw
  refine And.elim (fun bg10 hw => ?_) hw
  refine And.elim (fun bg11 hw => ?_) hw
  refine And.elim (fun bg12 hw => ?_) hw
  refine And.elim (fun g_0 hw => ?_) hw
  refine And.elim (fun g_1 hw => ?_) hw
  refine And.elim (fun g_2 hw => ?_) hw
  subst hw
  obtain ⟨hP, hD⟩ := hPD (wB V y pp (up9 (up9 (up9 ff 15 g0) 16 g1) 17 g2) gg (.ref (Yw 0)) o11 ++ wY V y n L Yw wa wb (br9 17 (br9 8 (br9 4 qq (br9 6 (br9 5 qq (lf9 v3)) (br9 7 (lf9 v4) qq))) (br9 12 qq (br9 14 qq (br9 15 (lf9 v5) (br9 16 (lf9 v6) (lf9 v7)))))) qq) (br9 8 (br9 4 (br9 2 (br9 1 (lf9 g8) (lf9 g9)) (br9 3 ee (lf9 g10))) (br9 6 (br9 5 (lf9 g11) (lf9 g12)) (br9 7 ee (lf9 g13)))) ee)) rfl rfl
  rw [← as4] at hP hD
  exact kk r H locs (cells + 0) (slots + 0) _ ⟨pp, (up9 (up9 (up9 ff 15 g0) 16 g1) 17 g2), gg, .ref (Yw 0), o11, _, hp, ht0, ht1, ht2, ht3, ht4, Or.inr ⟨n, L, Yw, wa, wb, (br9 17 (br9 8 (br9 4 qq (br9 6 (br9 5 qq (lf9 v3)) (br9 7 (lf9 v4) qq))) (br9 12 qq (br9 14 qq (br9 15 (lf9 v5) (br9 16 (lf9 v6) (lf9 v7)))))) qq), (br9 8 (br9 4 (br9 2 (br9 1 (lf9 g8) (lf9 g9)) (br9 3 ee (lf9 g10))) (br9 6 (br9 5 (lf9 g11) (lf9 g12)) (br9 7 ee (lf9 g13)))) ee), fr, fm, ⟨hn, hL, hw_q0, bv3, bv4, bv5, bv7, bg8, bg10, bg11, bg12, hw_tYw7, g_0, g_1, g_2⟩, hF, hT, rfl, rfl⟩, rfl⟩ hP hD hS
set_option maxHeartbeats 4000000 in
set_option maxRecDepth 100000 in
theorem cx_19_b {p : Program} {e : Env} {s : State} {m : MethodId} {below : List Frame} {meth : Method} {c : Code} {l : Launch} {b Lk : Nat} {xs : Nat → Int32} {V : GV} {y : Nat → Nat} {τ : Nat → Int32} {H : Heap} {locs : List Loc} {cells slots : Nat} {wz : va_W} {ls : Array Slot} (G : LCx p s m meth c b Lk xs V) (a1 : Int32) (a2 : Int32) {pp : Nat → Int32} {ff : Nat → Nat → Int32} {gg : Nat → Nat → Int64} {n L : Nat} {Yw : Nat → Nat} {wa wb : Nat} {qq : Nat → Int32} {ee : Nat → Nat → Int32} {o11 : Value} {fr : va_W} {fm : Nat} (hp : ivT tX pp) (ht0 : pp 0 = τ 0) (ht1 : pp 15 = τ 1) (ht2 : pp 16 = τ 2) (ht3 : BTs (ff 0) (tauT τ)) (ht4 : (∀ j, iv (-128) 127 ((ff 0) j))) (hW : WFa n L qq ee) (hF : RFo V o11 fr fm) (hT : PTn cells slots n fm (qq 0)) (hq : qq 0 < pp 5) (hg : 0 ≤ (a1 : Int32).toInt ∧ (a1 : Int32).toInt < ((pp 5) : Int32).toInt ∧ 0 ≤ (a2 : Int32).toInt ∧ (a2 : Int32).toInt ≤ 4) (hP : va_P V.1 vwCl (wB V y pp ff gg (.ref (Yw 0)) o11 ++ (wY V y n L Yw wa wb qq ee ++ fr) ++ wz) H) (hD : va_D (AAs s) (wB V y pp ff gg (.ref (Yw 0)) o11 ++ (wY V y n L Yw wa wb qq ee ++ fr) ++ wz)) (hS : va_S (AAs s) s.heap H locs) (hlz : ls.size = 4) (kk : (∀ (r : Int32) (H : Heap) (locs : List Loc) (cells slots : Nat) (wx : va_W), KX V y cells slots τ wx → va_P V.1 vwCl (wx ++ wz) H → va_D (AAs s) (wx ++ wz) → va_S (AAs s) s.heap H locs → W p l e room_1 s m #[Value.ref b] below meth c H locs cells slots (lw_Z below #[Value.ref b] s) (F0 m 755 ls [.int r]))) : W p l e room_1 s m #[Value.ref b] below meth c H locs cells slots (lw_Z below #[Value.ref b] s) (F0 m 752 ls [.int a2, .int a1, .ref (y 0)]) := by
  obtain ⟨hn, hL, hw_q0, hw_q5, hw_q6, hw_q14, hw_q16, hw_tYw1, hw_tYw4, hw_tYw5, hw_tYw6, hw_tYw7, hw_WA, hw_WB, hw_WC⟩ := id hW
  have hTB := PTn_B 10 46481 hT hw_q0 (hp 5) hq (by decide) (by decide)
  rw [as4] at hP hD
  refine cXI (X := wB V y pp ff gg (.ref (Yw 0)) o11 ++ wY V y n L Yw wa wb qq ee) (pl := fr ++ wz) (wr := [(y 1, aB V 900 (ff 0)), (y 4, aI V 4 (ff 2)), (y 5, aI V 4 (ff 3)), (y 6, aI V 8 (ff 4)), (y 7, aI V 8 (ff 5)), (y 8, aI V 8 (ff 6)), (y 10, .inr (6, [.ref (y 11), .int (pp 15), .int (pp 16), .ref (y 1), .int (pp 17), .int (pp 18), .int (pp 19), .int (pp 20), .int (pp 21)])), (y 11, .inr (1, [.int (pp 22), .int (pp 23), .int (pp 24), .int (pp 25), .int (pp 26), .int (pp 27), .ref (y 12), .ref (y 13), .ref (y 14), .ref (y 15), .ref (y 16), .ref (y 17), .ref (y 18), .int (pp 28), .int (pp 29), .int (pp 30), .int (pp 31), .int (pp 32)])), (y 12, aI V 4 (ff 8)), (y 13, aI V 4 (ff 9)), (y 14, aI V 4 (ff 10)), (y 15, aI V 8 (ff 11)), (y 16, aI V 8 (ff 12)), (y 17, aI V 8 (ff 13)), (y 18, aI V 900 (ff 14)), (y 23, aI V 10 (ff 18)), (y 24, aI V 10 (ff 19)), (y 25, .inr (0, [.int (pp 33), .int (pp 34)])), (y 26, .inr (5, [.ref (y 27), .ref (y 28), .ref (y 29), .int (pp 35)])), (y 27, aI V 10 (ff 20)), (y 28, aI V 10 (ff 21)), (y 29, aI V 10 (ff 22)), (y 30, aT V 4 (va_up (va_up (va_up (va_up (fun _ => none) 0 (some (y 33))) 1 (some (y 35))) 2 (some (y 37))) 3 (some (y 39)))), (y 31, aM V 2 (va_up (va_up (fun _ => none) 0 (some (y 41))) 1 (some (y 50)))), (y 32, aI V 10 (ff 23)), (y 33, .inr (7, [.ref (y 34), .int (pp 36), .int (pp 37)])), (y 34, aJ V 40 (gg 0)), (y 35, .inr (7, [.ref (y 36), .int (pp 38), .int (pp 39)])), (y 36, aJ V 40 (gg 1)), (y 37, .inr (7, [.ref (y 38), .int (pp 40), .int (pp 41)])), (y 38, aJ V 40 (gg 2)), (y 39, .inr (7, [.ref (y 40), .int (pp 42), .int (pp 43)])), (y 40, aJ V 40 (gg 3)), (y 41, .inr (3, [.ref (y 42), .int (pp 44), .int (pp 45), .int (pp 46), .int (pp 47)])), (y 42, .inr (1, [.int (pp 48), .int (pp 49), .int (pp 50), .int (pp 51), .int (pp 52), .int (pp 53), .ref (y 43), .ref (y 44), .ref (y 45), .ref (y 46), .ref (y 47), .ref (y 48), .ref (y 49), .int (pp 54), .int (pp 55), .int (pp 56), .int (pp 57), .int (pp 58)])), (y 43, aI V 4 (ff 24)), (y 44, aI V 4 (ff 25)), (y 45, aI V 4 (ff 26)), (y 46, aI V 8 (ff 27)), (y 47, aI V 8 (ff 28)), (y 48, aI V 8 (ff 29)), (y 49, aI V 900 (ff 30)), (y 50, .inr (3, [.ref (y 51), .int (pp 59), .int (pp 60), .int (pp 61), .int (pp 62)])), (y 51, .inr (1, [.int (pp 63), .int (pp 64), .int (pp 65), .int (pp 66), .int (pp 67), .int (pp 68), .ref (y 52), .ref (y 53), .ref (y 54), .ref (y 55), .ref (y 56), .ref (y 57), .ref (y 58), .int (pp 69), .int (pp 70), .int (pp 71), .int (pp 72), .int (pp 73)])), (y 52, aI V 4 (ff 31)), (y 53, aI V 4 (ff 32)), (y 54, aI V 4 (ff 33)), (y 55, aI V 8 (ff 34)), (y 56, aI V 8 (ff 35)), (y 57, aI V 8 (ff 36)), (y 58, aI V 900 (ff 37))]) (rest := []) G (k_X9_soonest_3 l V n L Yw y a1 a2 (pp 0) o11 (pp 1) (pp 2) (pp 3) (pp 4) (pp 5) (pp 6) (pp 7) (pp 8) (pp 9) (pp 10) (pp 11) (pp 12) (pp 13) (pp 14) (ff 1) (ff 7) (ff 15) (ff 16) (ff 17) (qq 0) wa (qq 5) (qq 6) wb (qq 14) (qq 15) (qq 16) (ee 0) (ee 1) (ee 2) (ee 3) (ee 4) (ee 5) (ee 6) (ee 7) (ee 8) hn hL hq (hp 0) (hp 5) (hp 6) (hp 7) (hp 10) (hp 11) (hp 12) (hp 13) (hp 14) hw_q0 hw_q5 hw_q6 hw_q14 hw_q16 hw_tYw1 hw_tYw4 hw_tYw5 hw_tYw6 hw_tYw7 hw_WA hw_WB hw_WC hg.1 hg.2.1 hg.2.2.1 hg.2.2.2) mt_X9_soonest q_4_45 ⟨Nat.le_of_ble_eq_true rfl, Nat.le_of_ble_eq_true rfl⟩ hP hD hS [0, 2, 3, 9, 19, 20, 21, 22, 59, 60, 61, 62, 63, 64, 65, 66, 67, 68] [1, 4, 5, 6, 7, 8, 10, 11, 12, 13, 14, 15, 16, 17, 18, 23, 24, 25, 26, 27, 28, 29, 30, 31, 32, 33, 34, 35, 36, 37, 38, 39, 40, 41, 42, 43, 44, 45, 46, 47, 48, 49, 50, 51, 52, 53, 54, 55, 56, 57, 58] (by decide +kernel) rfl rfl (by decide +kernel) (by decide +kernel) 0 rfl rfl rfl rfl hlz rfl (Nat.le_of_ble_eq_true rfl) dL_law_752 hTB.1 (fun r w H locs hw hP hD hS => ?_)
  refine Exists.elim hw (fun n1 hw => ?_)
  refine Exists.elim hw (fun L1 hw => ?_)
  refine Exists.elim hw (fun Yw1 hw => ?_)
  refine Exists.elim hw (fun wa1 hw => ?_)
  refine Exists.elim hw (fun wb1 hw => ?_)
  refine Exists.elim hw (fun g0 hw => ?_)
  refine Exists.elim hw (fun g1 hw => ?_)
  refine Exists.elim hw (fun g2 hw => ?_)
  refine Exists.elim hw (fun ww0 hw => ?_)
  refine Exists.elim hw (fun ww5 hw => ?_)
  refine Exists.elim hw (fun ww6 hw => ?_)
  refine Exists.elim hw (fun ww14 hw => ?_)
  refine Exists.elim hw (fun ww15 hw => ?_)
  refine Exists.elim hw (fun ww16 hw => ?_)
  refine Exists.elim hw (fun wew1 hw => ?_)
  refine Exists.elim hw (fun wew2 hw => ?_)
  refine Exists.elim hw (fun wew3 hw => ?_)
  refine Exists.elim hw (fun wew4 hw => ?_)
  refine Exists.elim hw (fun wew5 hw => ?_)
  refine Exists.elim hw (fun wew6 hw => ?_)
  refine Exists.elim hw (fun wew7 hw => ?_)
  refine Exists.elim hw (fun wew8 hw => ?_)
  refine Exists.elim hw (fun wew9 hw => ?_)
  refine And.elim (fun hn1 hw => ?_) hw
  refine And.elim (fun hL1 hw => ?_) hw
  refine And.elim (fun bww0 hw => ?_) hw
  refine And.elim (fun bww5 hw => ?_) hw
  refine And.elim (fun bww6 hw => ?_) hw
  refine And.elim (fun bww14 hw => ?_) hw
  refine And.elim (fun bww16 hw => ?_) hw
  refine And.elim (fun bwew1 hw => ?_) hw
  refine And.elim (fun bwew4 hw => ?_) hw
  refine And.elim (fun bwew5 hw => ?_) hw
  refine And.elim (fun bwew6 hw => ?_) hw
  refine And.elim (fun bwew7 hw => ?_) hw
  refine And.elim (fun g_0 hw => ?_) hw
  refine And.elim (fun g_1 hw => ?_) hw
  refine And.elim (fun g_2 hw => ?_) hw
  refine And.elim (fun g_3 hw => ?_) hw
  subst hw
  have hP := ptP (ws' := wB V y pp (up9 (up9 (up9 ff 15 g0) 16 g1) 17 g2) gg (.ref (Yw1 0)) o11 ++ wY V y n1 L1 Yw1 wa1 wb1 (br9 17 (br9 8 (br9 4 (br9 2 (br9 1 (lf9 ww0) (fun _ => 0)) (fun _ => 0)) (br9 6 (br9 5 (fun _ => 0) (lf9 ww5)) (br9 7 (lf9 ww6) (fun _ => 0)))) (br9 12 (fun _ => 0) (br9 14 (fun _ => 0) (br9 15 (lf9 ww14) (br9 16 (lf9 ww15) (lf9 ww16)))))) (fun _ => 0)) (br9 9 (br9 4 (br9 2 (br9 1 (lf9 wew1) (lf9 wew2)) (br9 3 (lf9 wew3) (lf9 wew4))) (br9 6 (br9 5 (lf9 wew5) (lf9 wew6)) (br9 7 (lf9 wew7) (br9 8 (lf9 wew8) (lf9 wew9))))) (fun _ _ => 0))) hP [51, 0, 52, 53, 1, 2, 3, 4, 5, 54, 6, 7, 8, 9, 10, 11, 12, 13, 14, 55, 56, 57, 58, 15, 16, 17, 18, 19, 20, 21, 22, 23, 24, 25, 26, 27, 28, 29, 30, 31, 32, 33, 34, 35, 36, 37, 38, 39, 40, 41, 42, 43, 44, 45, 46, 47, 48, 49, 50, 59, 60, 61, 62, 63, 64, 65, 66, 67, 68] rfl
  have hD := hD.part (cx := wB V y pp (up9 (up9 (up9 ff 15 g0) 16 g1) 17 g2) gg (.ref (Yw1 0)) o11 ++ wY V y n1 L1 Yw1 wa1 wb1 (br9 17 (br9 8 (br9 4 (br9 2 (br9 1 (lf9 ww0) (fun _ => 0)) (fun _ => 0)) (br9 6 (br9 5 (fun _ => 0) (lf9 ww5)) (br9 7 (lf9 ww6) (fun _ => 0)))) (br9 12 (fun _ => 0) (br9 14 (fun _ => 0) (br9 15 (lf9 ww14) (br9 16 (lf9 ww15) (lf9 ww16)))))) (fun _ => 0)) (br9 9 (br9 4 (br9 2 (br9 1 (lf9 wew1) (lf9 wew2)) (br9 3 (lf9 wew3) (lf9 wew4))) (br9 6 (br9 5 (lf9 wew5) (lf9 wew6)) (br9 7 (lf9 wew7) (br9 8 (lf9 wew8) (lf9 wew9))))) (fun _ _ => 0))) [51, 0, 52, 53, 1, 2, 3, 4, 5, 54, 6, 7, 8, 9, 10, 11, 12, 13, 14, 55, 56, 57, 58, 15, 16, 17, 18, 19, 20, 21, 22, 23, 24, 25, 26, 27, 28, 29, 30, 31, 32, 33, 34, 35, 36, 37, 38, 39, 40, 41, 42, 43, 44, 45, 46, 47, 48, 49, 50, 59, 60, 61, 62, 63, 64, 65, 66, 67, 68] (by decide +kernel) rfl
  rw [← as4] at hP hD
  exact kk r H locs (cells + 10) (slots + 46481) _ ⟨pp, (up9 (up9 (up9 ff 15 g0) 16 g1) 17 g2), gg, .ref (Yw1 0), o11, _, hp, ht0, ht1, ht2, ht3, ht4, Or.inr ⟨n1, L1, Yw1, wa1, wb1, (br9 17 (br9 8 (br9 4 (br9 2 (br9 1 (lf9 ww0) (fun _ => 0)) (fun _ => 0)) (br9 6 (br9 5 (fun _ => 0) (lf9 ww5)) (br9 7 (lf9 ww6) (fun _ => 0)))) (br9 12 (fun _ => 0) (br9 14 (fun _ => 0) (br9 15 (lf9 ww14) (br9 16 (lf9 ww15) (lf9 ww16)))))) (fun _ => 0)), (br9 9 (br9 4 (br9 2 (br9 1 (lf9 wew1) (lf9 wew2)) (br9 3 (lf9 wew3) (lf9 wew4))) (br9 6 (br9 5 (lf9 wew5) (lf9 wew6)) (br9 7 (lf9 wew7) (br9 8 (lf9 wew8) (lf9 wew9))))) (fun _ _ => 0)), fr, fm, ⟨hn1, hL1, bww0, bww5, bww6, bww14, bww16, bwew1, bwew4, bwew5, bwew6, bwew7, g_0, g_1, g_2⟩, hF, (show PTn _ _ _ _ ww0 from by rw [g_3]; exact hTB.2 n1 fm), rfl, rfl⟩, rfl⟩ hP hD hS
set_option maxHeartbeats 4000000 in
set_option maxRecDepth 100000 in
theorem cx_19 {p : Program} {e : Env} {s : State} {m : MethodId} {below : List Frame} {meth : Method} {c : Code} {l : Launch} {b Lk : Nat} {xs : Nat → Int32} {V : GV} {y : Nat → Nat} {τ : Nat → Int32} {H : Heap} {locs : List Loc} {cells slots : Nat} {wz : va_W} {ls : Array Slot} (G : LCx p s m meth c b Lk xs V) (a1 : Int32) (a2 : Int32) {wx : va_W} (kx : KX V y cells slots τ wx) (hP : va_P V.1 vwCl (wx ++ wz) H) (hD : va_D (AAs s) (wx ++ wz)) (hS : va_S (AAs s) s.heap H locs) (hlz : ls.size = 4) (kk : (∀ (r : Int32) (H : Heap) (locs : List Loc) (cells slots : Nat) (wx : va_W), KX V y cells slots τ wx → va_P V.1 vwCl (wx ++ wz) H → va_D (AAs s) (wx ++ wz) → va_S (AAs s) s.heap H locs → W p l e room_1 s m #[Value.ref b] below meth c H locs cells slots (lw_Z below #[Value.ref b] s) (F0 m 755 ls [.int r]))) : W p l e room_1 s m #[Value.ref b] below meth c H locs cells slots (lw_Z below #[Value.ref b] s) (F0 m 752 ls [.int a2, .int a1, .ref (y 0)]) := by
  obtain ⟨pp, ff, gg, o10, o11, rest, hp, ht0, ht1, ht2, ht3, ht4, hR, rfl⟩ := kx
  by_cases hg : 0 ≤ (a1 : Int32).toInt ∧ (a1 : Int32).toInt < ((pp 5) : Int32).toInt ∧ 0 ≤ (a2 : Int32).toInt ∧ (a2 : Int32).toInt ≤ 4
  · rcases hR with ⟨rfl, rfl, rfl, hc⟩ | ⟨n, L, Yw, wa, wb, qq, ee, fr, fm, hW, hF, hT, rfl, rfl⟩
    · exact cx_19_0 G _ _ hp ht0 ht1 ht2 ht3 ht4 hc hg hP hD hS hlz kk
    · rcases Classical.em (pp 5 ≤ qq 0) with hq | hq
      · exact cx_19_a G _ _ hp ht0 ht1 ht2 ht3 ht4 hW hF hT hq hP hD hS hlz kk
      · replace hq := Int32.not_le.mp hq
        exact cx_19_b G _ _ hp ht0 ht1 ht2 ht3 ht4 hW hF hT hq hg hP hD hS hlz kk
  · exact cx_19_e G _ _ hp ht0 ht1 ht2 ht3 ht4 hR hg hP hD hS hlz kk
theorem q_7_181 : Cond.code yX10_soonest prog_12_method_89_code 4 (some FieldType.int) ∈ gw := gw_7 (i := 181) (rfl) rfl
theorem q_7_179 : Cond.instanceMethod yX10_soonest ∈ gw := gw_7 (i := 179) (by decide +kernel) rfl
theorem q_7_180 : Cond.selects "BeaconDelayModel" yX10_soonest yX10_soonest ∈ gw := gw_7 (i := 180) (by decide +kernel) rfl
theorem mt_X10_soonest : MtV yX10_soonest cX10_soonest 4 (some .int) 2 := ⟨⟨q_7_181, q_1_9, by decide +kernel, by decide +kernel, by decide +kernel⟩, q_7_179, q_7_180⟩
theorem q_7_178 : Cond.methodLink "BeaconDelayLaw" 96 yX10_soonest ∈ gw := gw_7 (i := 178) (by decide +kernel) rfl
theorem dL_law_767 : decode cL_law 767 = .ok (.invokevirtual 96, 3) := by decide +kernel
set_option maxHeartbeats 4000000 in
set_option maxRecDepth 100000 in
theorem cz_19 {p : Program} {e : Env} {s : State} {m : MethodId} {below : List Frame} {meth : Method} {c : Code} {l : Launch} {b Lk : Nat} {xs : Nat → Int32} {V : GV} {z : Nat → Nat} {τ : Nat → Int32} {H : Heap} {locs : List Loc} {cells slots : Nat} {wx : va_W} {ls : Array Slot} {rest : List Value} (G : LCx p s m meth c b Lk xs V) (a1 : Int32) (a2 : Int32) {wz : va_W} (kz : KZ V z τ wz) (hP : va_P V.1 vwCl (wx ++ wz) H) (hD : va_D (AAs s) (wx ++ wz)) (hS : va_S (AAs s) s.heap H locs) (hcs : cells + 0 ≤ 600000 ∧ slots + 0 ≤ 7302250) (hro : (rest.map fun v => v.category).sum ≤ 8) (hlz : ls.size = 4) (kk : (∀ (r : Int32) (H : Heap) (locs : List Loc) (wz : va_W), KZ V z τ wz → va_P V.1 vwCl (wx ++ wz) H → va_D (AAs s) (wx ++ wz) → va_S (AAs s) s.heap H locs → W p l e room_1 s m #[Value.ref b] below meth c H locs cells slots (lw_Z below #[Value.ref b] s) (F0 m 770 ls (.int r :: rest)))) : W p l e room_1 s m #[Value.ref b] below meth c H locs cells slots (lw_Z below #[Value.ref b] s) (F0 m 767 ls (.int a2 :: .int a1 :: .ref (z 0) :: rest)) := by
  obtain ⟨pz, fz, gz, hp, ht0, ht1, ht2, ht3, hz_tz1, hz_tz3, hz_tz4, hz_tz16, hz_tz17, hz_tz20, hz_tz21, hz_tz24, hz_tz25, hz_tz26, hz_tz27, hz_tz33, hz_tz34, hz_tz37, hz_tz38, hz_RW, rfl⟩ := kz
  replace hP := swP hP
  replace hD := swD hD
  refine cSI (X := wZ V z pz fz gz) (pl := wx) (rest := rest) G (k_X10_soonest_0 l V z a1 a2 (pz 0) (pz 5) (pz 6) (pz 7) (pz 8) (pz 9) (pz 10) (pz 11) (pz 12) (pz 13) (pz 14) (pz 18) (pz 19) (pz 22) (pz 23) (pz 29) (fz 0) (fz 4) (fz 5) (fz 9) (fz 10) (fz 11) (fz 13) (hp 5) (hp 6) (hp 7) (hp 8) (hp 10) (hp 11) (hp 12) (hp 13) (hp 14) (hp 18) (hp 22) (hp 29) hz_tz1 hz_tz16 hz_tz24 hz_tz25 hz_tz26 hz_RW) mt_X10_soonest q_7_178 ⟨Nat.le_of_ble_eq_true rfl, Nat.le_of_ble_eq_true rfl⟩ hP hD hS [0, 1, 5, 6, 10, 11, 12, 14] [0, 0, 3, 0, 3, 0, 0, 1] (by decide) (by decide +kernel) rfl 0 rfl rfl rfl rfl hlz rfl hro dL_law_767 hcs (fun r w H locs hw hPD hS => ?_)
  refine Exists.elim hw (fun v0 hw => ?_)
  refine Exists.elim hw (fun v1 hw => ?_)
  refine Exists.elim hw (fun g2 hw => ?_)
  refine Exists.elim hw (fun g3 hw => ?_)
  refine Exists.elim hw (fun g4 hw => ?_)
  refine Exists.elim hw (fun g5 hw => ?_)
  refine Exists.elim hw (fun g6 hw => ?_)
  refine Exists.elim hw (fun g7 hw => ?_)
  refine And.elim (fun bv1 hw => ?_) hw
  refine And.elim (fun bg3 hw => ?_) hw
  refine And.elim (fun bg4 hw => ?_) hw
  refine And.elim (fun bg5 hw => ?_) hw
  refine And.elim (fun bg6 hw => ?_) hw
  refine And.elim (fun g_0 hw => ?_) hw
  subst hw
  obtain ⟨hP, hD⟩ := hPD (wZ V z (up9 (up9 pz 0 v0) 29 v1) (br9 14 (br9 7 (br9 3 fz (br9 5 (br9 4 fz (lf9 g2)) (br9 6 (lf9 g3) fz))) (br9 10 (br9 8 fz (br9 9 fz (lf9 g4))) (br9 12 (br9 11 (lf9 g5) (lf9 g6)) (br9 13 fz (lf9 g7))))) fz) gz) rfl rfl
  replace hP := swP hP
  replace hD := swD hD
  exact kk r H locs _ ⟨(up9 (up9 pz 0 v0) 29 v1), (br9 14 (br9 7 (br9 3 fz (br9 5 (br9 4 fz (lf9 g2)) (br9 6 (lf9 g3) fz))) (br9 10 (br9 8 fz (br9 9 fz (lf9 g4))) (br9 12 (br9 11 (lf9 g5) (lf9 g6)) (br9 13 fz (lf9 g7))))) fz), gz, (ivUp 29 (ivUp 0 hp (iv_top v0)) bv1), ht0, ht1, ht2, ht3, hz_tz1, hz_tz3, hz_tz4, bg3, hz_tz17, hz_tz20, hz_tz21, bg4, bg5, bg6, hz_tz27, hz_tz33, hz_tz34, hz_tz37, hz_tz38, g_0, rfl⟩ hP hD hS
theorem q_4_153 : Cond.code yX9_way prog_1_method_40_code 6 (some FieldType.int) ∈ gw := gw_4 (i := 153) (rfl) rfl
theorem q_4_151 : Cond.instanceMethod yX9_way ∈ gw := gw_4 (i := 151) (by decide +kernel) rfl
theorem q_4_152 : Cond.selects "BeaconDelay" yX9_way yX9_way ∈ gw := gw_4 (i := 152) (by decide +kernel) rfl
theorem mt_X9_way : MtV yX9_way cX9_way 6 (some .int) 3 := ⟨⟨q_4_153, q_1_1, by decide +kernel, by decide +kernel, by decide +kernel⟩, q_4_151, q_4_152⟩
theorem q_4_150 : Cond.methodLink "BeaconDelayLaw" 97 yX9_way ∈ gw := gw_4 (i := 150) (by decide +kernel) rfl
theorem dL_law_790 : decode cL_law 790 = .ok (.invokevirtual 97, 3) := by decide +kernel
set_option maxHeartbeats 4000000 in
set_option maxRecDepth 100000 in
theorem cx_20_e {p : Program} {e : Env} {s : State} {m : MethodId} {below : List Frame} {meth : Method} {c : Code} {l : Launch} {b Lk : Nat} {xs : Nat → Int32} {V : GV} {y : Nat → Nat} {τ : Nat → Int32} {H : Heap} {locs : List Loc} {cells slots : Nat} {wz : va_W} {ls : Array Slot} (G : LCx p s m meth c b Lk xs V) (a1 : Int32) (a2 : Int32) (a3 : Int32) {pp : Nat → Int32} {ff : Nat → Nat → Int32} {gg : Nat → Nat → Int64} {o10 o11 : Value} {rest : va_W} (hp : ivT tX pp) (ht0 : pp 0 = τ 0) (ht1 : pp 15 = τ 1) (ht2 : pp 16 = τ 2) (ht3 : BTs (ff 0) (tauT τ)) (ht4 : (∀ j, iv (-128) 127 ((ff 0) j))) (hR : RRo V y cells slots o10 o11 rest) (hg : ¬ (0 ≤ (a1 : Int32).toInt ∧ (a1 : Int32).toInt < ((pp 5) : Int32).toInt ∧ 0 ≤ (a2 : Int32).toInt ∧ (a2 : Int32).toInt ≤ 4 ∧ 0 ≤ (a3 : Int32).toInt)) (hP : va_P V.1 vwCl (wB V y pp ff gg o10 o11 ++ rest ++ wz) H) (hD : va_D (AAs s) (wB V y pp ff gg o10 o11 ++ rest ++ wz)) (hS : va_S (AAs s) s.heap H locs) (hlz : ls.size = 4) (kk : (∀ (r : Int32) (H : Heap) (locs : List Loc) (cells slots : Nat) (wx : va_W), KX V y cells slots τ wx → va_P V.1 vwCl (wx ++ wz) H → va_D (AAs s) (wx ++ wz) → va_S (AAs s) s.heap H locs → W p l e room_1 s m #[Value.ref b] below meth c H locs cells slots (lw_Z below #[Value.ref b] s) (F0 m 793 ls [.int r]))) : W p l e room_1 s m #[Value.ref b] below meth c H locs cells slots (lw_Z below #[Value.ref b] s) (F0 m 790 ls [.int a3, .int a2, .int a1, .ref (y 0)]) := by
  rw [as3] at hP hD
  refine cSI (X := wB V y pp ff gg o10 o11) (pl := rest ++ wz) (rest := []) G (k_X9_way_1 l V y a1 a2 a3 (pp 0) o10 o11 (pp 1) (pp 2) (pp 3) (pp 4) (pp 5) (pp 6) (pp 7) (pp 8) (pp 9) (pp 10) (pp 11) (pp 12) (pp 13) (pp 14) (hp 0) (hp 5) (hp 6) (hp 7) (hp 10) (hp 11) (hp 12) (hp 13) (hp 14) hg) mt_X9_way q_4_150 ⟨Nat.le_of_ble_eq_true rfl, Nat.le_of_ble_eq_true rfl⟩ hP hD hS [0, 2] [0, 1] (by decide) (by decide +kernel) rfl 0 rfl rfl rfl rfl hlz rfl (Nat.le_of_ble_eq_true rfl) dL_law_790 hR.room (fun r w H locs hw hPD hS => ?_)
  refine And.elim (fun br hw => ?_) hw
  subst hw
  obtain ⟨hP, hD⟩ := hPD (wB V y pp ff gg o10 o11) rfl rfl
  rw [← as3] at hP hD
  exact kk r H locs (cells + 0) (slots + 0) _ ⟨pp, ff, gg, o10, o11, rest, hp, ht0, ht1, ht2, ht3, ht4, hR, rfl⟩ hP hD hS
set_option maxHeartbeats 4000000 in
set_option maxRecDepth 100000 in
theorem cx_20_0 {p : Program} {e : Env} {s : State} {m : MethodId} {below : List Frame} {meth : Method} {c : Code} {l : Launch} {b Lk : Nat} {xs : Nat → Int32} {V : GV} {y : Nat → Nat} {τ : Nat → Int32} {H : Heap} {locs : List Loc} {cells slots : Nat} {wz : va_W} {ls : Array Slot} (G : LCx p s m meth c b Lk xs V) (a1 : Int32) (a2 : Int32) (a3 : Int32) {pp : Nat → Int32} {ff : Nat → Nat → Int32} {gg : Nat → Nat → Int64} (hp : ivT tX pp) (ht0 : pp 0 = τ 0) (ht1 : pp 15 = τ 1) (ht2 : pp 16 = τ 2) (ht3 : BTs (ff 0) (tauT τ)) (ht4 : (∀ j, iv (-128) 127 ((ff 0) j))) (hc : cells + 116 ≤ 600000 ∧ slots + 633553 ≤ 7302250) (hg : 0 ≤ (a1 : Int32).toInt ∧ (a1 : Int32).toInt < ((pp 5) : Int32).toInt ∧ 0 ≤ (a2 : Int32).toInt ∧ (a2 : Int32).toInt ≤ 4 ∧ 0 ≤ (a3 : Int32).toInt) (hP : va_P V.1 vwCl (wB V y pp ff gg .null .null ++ [] ++ wz) H) (hD : va_D (AAs s) (wB V y pp ff gg .null .null ++ [] ++ wz)) (hS : va_S (AAs s) s.heap H locs) (hlz : ls.size = 4) (kk : (∀ (r : Int32) (H : Heap) (locs : List Loc) (cells slots : Nat) (wx : va_W), KX V y cells slots τ wx → va_P V.1 vwCl (wx ++ wz) H → va_D (AAs s) (wx ++ wz) → va_S (AAs s) s.heap H locs → W p l e room_1 s m #[Value.ref b] below meth c H locs cells slots (lw_Z below #[Value.ref b] s) (F0 m 793 ls [.int r]))) : W p l e room_1 s m #[Value.ref b] below meth c H locs cells slots (lw_Z below #[Value.ref b] s) (F0 m 790 ls [.int a3, .int a2, .int a1, .ref (y 0)]) := by
  refine cXI (X := wB V y pp ff gg .null .null ++ []) (pl := wz) (wr := [(y 1, aB V 900 (ff 0)), (y 4, aI V 4 (ff 2)), (y 5, aI V 4 (ff 3)), (y 6, aI V 8 (ff 4)), (y 7, aI V 8 (ff 5)), (y 8, aI V 8 (ff 6)), (y 10, .inr (6, [.ref (y 11), .int (pp 15), .int (pp 16), .ref (y 1), .int (pp 17), .int (pp 18), .int (pp 19), .int (pp 20), .int (pp 21)])), (y 11, .inr (1, [.int (pp 22), .int (pp 23), .int (pp 24), .int (pp 25), .int (pp 26), .int (pp 27), .ref (y 12), .ref (y 13), .ref (y 14), .ref (y 15), .ref (y 16), .ref (y 17), .ref (y 18), .int (pp 28), .int (pp 29), .int (pp 30), .int (pp 31), .int (pp 32)])), (y 12, aI V 4 (ff 8)), (y 13, aI V 4 (ff 9)), (y 14, aI V 4 (ff 10)), (y 15, aI V 8 (ff 11)), (y 16, aI V 8 (ff 12)), (y 17, aI V 8 (ff 13)), (y 18, aI V 900 (ff 14)), (y 23, aI V 10 (ff 18)), (y 24, aI V 10 (ff 19)), (y 25, .inr (0, [.int (pp 33), .int (pp 34)])), (y 26, .inr (5, [.ref (y 27), .ref (y 28), .ref (y 29), .int (pp 35)])), (y 27, aI V 10 (ff 20)), (y 28, aI V 10 (ff 21)), (y 29, aI V 10 (ff 22)), (y 30, aT V 4 (va_up (va_up (va_up (va_up (fun _ => none) 0 (some (y 33))) 1 (some (y 35))) 2 (some (y 37))) 3 (some (y 39)))), (y 31, aM V 2 (va_up (va_up (fun _ => none) 0 (some (y 41))) 1 (some (y 50)))), (y 32, aI V 10 (ff 23)), (y 33, .inr (7, [.ref (y 34), .int (pp 36), .int (pp 37)])), (y 34, aJ V 40 (gg 0)), (y 35, .inr (7, [.ref (y 36), .int (pp 38), .int (pp 39)])), (y 36, aJ V 40 (gg 1)), (y 37, .inr (7, [.ref (y 38), .int (pp 40), .int (pp 41)])), (y 38, aJ V 40 (gg 2)), (y 39, .inr (7, [.ref (y 40), .int (pp 42), .int (pp 43)])), (y 40, aJ V 40 (gg 3)), (y 41, .inr (3, [.ref (y 42), .int (pp 44), .int (pp 45), .int (pp 46), .int (pp 47)])), (y 42, .inr (1, [.int (pp 48), .int (pp 49), .int (pp 50), .int (pp 51), .int (pp 52), .int (pp 53), .ref (y 43), .ref (y 44), .ref (y 45), .ref (y 46), .ref (y 47), .ref (y 48), .ref (y 49), .int (pp 54), .int (pp 55), .int (pp 56), .int (pp 57), .int (pp 58)])), (y 43, aI V 4 (ff 24)), (y 44, aI V 4 (ff 25)), (y 45, aI V 4 (ff 26)), (y 46, aI V 8 (ff 27)), (y 47, aI V 8 (ff 28)), (y 48, aI V 8 (ff 29)), (y 49, aI V 900 (ff 30)), (y 50, .inr (3, [.ref (y 51), .int (pp 59), .int (pp 60), .int (pp 61), .int (pp 62)])), (y 51, .inr (1, [.int (pp 63), .int (pp 64), .int (pp 65), .int (pp 66), .int (pp 67), .int (pp 68), .ref (y 52), .ref (y 53), .ref (y 54), .ref (y 55), .ref (y 56), .ref (y 57), .ref (y 58), .int (pp 69), .int (pp 70), .int (pp 71), .int (pp 72), .int (pp 73)])), (y 52, aI V 4 (ff 31)), (y 53, aI V 4 (ff 32)), (y 54, aI V 4 (ff 33)), (y 55, aI V 8 (ff 34)), (y 56, aI V 8 (ff 35)), (y 57, aI V 8 (ff 36)), (y 58, aI V 900 (ff 37))]) (rest := []) G (k_X9_way_2 l V y a1 a2 a3 (pp 0) (.null) (pp 1) (pp 2) (pp 3) (pp 4) (pp 5) (pp 6) (pp 7) (pp 8) (pp 9) (pp 10) (pp 11) (pp 12) (pp 13) (pp 14) (ff 1) (ff 7) (ff 15) (ff 16) (ff 17) (hp 0) (hp 5) (hp 6) (hp 7) (hp 10) (hp 11) (hp 12) (hp 13) (hp 14) hg.1 hg.2.1 hg.2.2.1 hg.2.2.2.1 hg.2.2.2.2) mt_X9_way q_4_150 ⟨Nat.le_of_ble_eq_true rfl, Nat.le_of_ble_eq_true rfl⟩ hP hD hS [0, 2, 3, 9, 19, 20, 21, 22] [1, 4, 5, 6, 7, 8, 10, 11, 12, 13, 14, 15, 16, 17, 18, 23, 24, 25, 26, 27, 28, 29, 30, 31, 32, 33, 34, 35, 36, 37, 38, 39, 40, 41, 42, 43, 44, 45, 46, 47, 48, 49, 50, 51, 52, 53, 54, 55, 56, 57, 58] (by decide +kernel) rfl rfl (by decide +kernel) (by decide +kernel) 0 rfl rfl rfl rfl hlz rfl (Nat.le_of_ble_eq_true rfl) dL_law_790 (by omega) (fun r w H locs hw hP hD hS => ?_)
  refine Exists.elim hw (fun n1 hw => ?_)
  refine Exists.elim hw (fun L1 hw => ?_)
  refine Exists.elim hw (fun Yw1 hw => ?_)
  refine Exists.elim hw (fun wa1 hw => ?_)
  refine Exists.elim hw (fun wb1 hw => ?_)
  refine Exists.elim hw (fun g0 hw => ?_)
  refine Exists.elim hw (fun g1 hw => ?_)
  refine Exists.elim hw (fun g2 hw => ?_)
  refine Exists.elim hw (fun ww0 hw => ?_)
  refine Exists.elim hw (fun ww5 hw => ?_)
  refine Exists.elim hw (fun ww6 hw => ?_)
  refine Exists.elim hw (fun ww14 hw => ?_)
  refine Exists.elim hw (fun ww15 hw => ?_)
  refine Exists.elim hw (fun ww16 hw => ?_)
  refine Exists.elim hw (fun wew1 hw => ?_)
  refine Exists.elim hw (fun wew2 hw => ?_)
  refine Exists.elim hw (fun wew3 hw => ?_)
  refine Exists.elim hw (fun wew4 hw => ?_)
  refine Exists.elim hw (fun wew5 hw => ?_)
  refine Exists.elim hw (fun wew6 hw => ?_)
  refine Exists.elim hw (fun wew7 hw => ?_)
  refine Exists.elim hw (fun wew8 hw => ?_)
  refine Exists.elim hw (fun wew9 hw => ?_)
  refine And.elim (fun hn1 hw => ?_) hw
  refine And.elim (fun hL1 hw => ?_) hw
  refine And.elim (fun bww0 hw => ?_) hw
  refine And.elim (fun bww5 hw => ?_) hw
  refine And.elim (fun bww6 hw => ?_) hw
  refine And.elim (fun bww14 hw => ?_) hw
  refine And.elim (fun bww16 hw => ?_) hw
  refine And.elim (fun bwew1 hw => ?_) hw
  refine And.elim (fun bwew4 hw => ?_) hw
  refine And.elim (fun bwew5 hw => ?_) hw
  refine And.elim (fun bwew6 hw => ?_) hw
  refine And.elim (fun bwew7 hw => ?_) hw
  refine And.elim (fun br hw => ?_) hw
  refine And.elim (fun g_0 hw => ?_) hw
  refine And.elim (fun g_1 hw => ?_) hw
  refine And.elim (fun g_2 hw => ?_) hw
  refine And.elim (fun g_3 hw => ?_) hw
  subst hw
  have hP := ptP (ws' := wB V y pp (up9 (up9 (up9 ff 15 g0) 16 g1) 17 g2) gg (.ref (Yw1 0)) .null ++ (wY V y n1 L1 Yw1 wa1 wb1 (br9 17 (br9 8 (br9 4 (br9 2 (br9 1 (lf9 ww0) (fun _ => 0)) (fun _ => 0)) (br9 6 (br9 5 (fun _ => 0) (lf9 ww5)) (br9 7 (lf9 ww6) (fun _ => 0)))) (br9 12 (fun _ => 0) (br9 14 (fun _ => 0) (br9 15 (lf9 ww14) (br9 16 (lf9 ww15) (lf9 ww16)))))) (fun _ => 0)) (br9 9 (br9 4 (br9 2 (br9 1 (lf9 wew1) (lf9 wew2)) (br9 3 (lf9 wew3) (lf9 wew4))) (br9 6 (br9 5 (lf9 wew5) (lf9 wew6)) (br9 7 (lf9 wew7) (br9 8 (lf9 wew8) (lf9 wew9))))) (fun _ _ => 0)) ++ [])) hP [51, 0, 52, 53, 1, 2, 3, 4, 5, 54, 6, 7, 8, 9, 10, 11, 12, 13, 14, 55, 56, 57, 58, 15, 16, 17, 18, 19, 20, 21, 22, 23, 24, 25, 26, 27, 28, 29, 30, 31, 32, 33, 34, 35, 36, 37, 38, 39, 40, 41, 42, 43, 44, 45, 46, 47, 48, 49, 50, 59, 60, 61, 62, 63, 64, 65, 66, 67, 68] rfl
  have hD := hD.part (cx := wB V y pp (up9 (up9 (up9 ff 15 g0) 16 g1) 17 g2) gg (.ref (Yw1 0)) .null ++ (wY V y n1 L1 Yw1 wa1 wb1 (br9 17 (br9 8 (br9 4 (br9 2 (br9 1 (lf9 ww0) (fun _ => 0)) (fun _ => 0)) (br9 6 (br9 5 (fun _ => 0) (lf9 ww5)) (br9 7 (lf9 ww6) (fun _ => 0)))) (br9 12 (fun _ => 0) (br9 14 (fun _ => 0) (br9 15 (lf9 ww14) (br9 16 (lf9 ww15) (lf9 ww16)))))) (fun _ => 0)) (br9 9 (br9 4 (br9 2 (br9 1 (lf9 wew1) (lf9 wew2)) (br9 3 (lf9 wew3) (lf9 wew4))) (br9 6 (br9 5 (lf9 wew5) (lf9 wew6)) (br9 7 (lf9 wew7) (br9 8 (lf9 wew8) (lf9 wew9))))) (fun _ _ => 0)) ++ [])) [51, 0, 52, 53, 1, 2, 3, 4, 5, 54, 6, 7, 8, 9, 10, 11, 12, 13, 14, 55, 56, 57, 58, 15, 16, 17, 18, 19, 20, 21, 22, 23, 24, 25, 26, 27, 28, 29, 30, 31, 32, 33, 34, 35, 36, 37, 38, 39, 40, 41, 42, 43, 44, 45, 46, 47, 48, 49, 50, 59, 60, 61, 62, 63, 64, 65, 66, 67, 68] (by decide +kernel) rfl
  exact kk r H locs (cells + 10) (slots + 46481) _ ⟨pp, (up9 (up9 (up9 ff 15 g0) 16 g1) 17 g2), gg, .ref (Yw1 0), .null, _, hp, ht0, ht1, ht2, ht3, ht4, Or.inr ⟨n1, L1, Yw1, wa1, wb1, (br9 17 (br9 8 (br9 4 (br9 2 (br9 1 (lf9 ww0) (fun _ => 0)) (fun _ => 0)) (br9 6 (br9 5 (fun _ => 0) (lf9 ww5)) (br9 7 (lf9 ww6) (fun _ => 0)))) (br9 12 (fun _ => 0) (br9 14 (fun _ => 0) (br9 15 (lf9 ww14) (br9 16 (lf9 ww15) (lf9 ww16)))))) (fun _ => 0)), (br9 9 (br9 4 (br9 2 (br9 1 (lf9 wew1) (lf9 wew2)) (br9 3 (lf9 wew3) (lf9 wew4))) (br9 6 (br9 5 (lf9 wew5) (lf9 wew6)) (br9 7 (lf9 wew7) (br9 8 (lf9 wew8) (lf9 wew9))))) (fun _ _ => 0)), [], 0, ⟨hn1, hL1, bww0, bww5, bww6, bww14, bww16, bwew1, bwew4, bwew5, bwew6, bwew7, g_0, g_1, g_2⟩, (Or.inl ⟨rfl, rfl, rfl⟩), (show PTn _ _ _ _ ww0 from by rw [g_3]; exact PTn_0 10 46481 hc (hp 5) (by decide) (by decide) n1 0), rfl, rfl⟩, rfl⟩ hP hD hS
set_option maxHeartbeats 4000000 in
set_option maxRecDepth 100000 in
theorem cx_20_a {p : Program} {e : Env} {s : State} {m : MethodId} {below : List Frame} {meth : Method} {c : Code} {l : Launch} {b Lk : Nat} {xs : Nat → Int32} {V : GV} {y : Nat → Nat} {τ : Nat → Int32} {H : Heap} {locs : List Loc} {cells slots : Nat} {wz : va_W} {ls : Array Slot} (G : LCx p s m meth c b Lk xs V) (a1 : Int32) (a2 : Int32) (a3 : Int32) {pp : Nat → Int32} {ff : Nat → Nat → Int32} {gg : Nat → Nat → Int64} {n L : Nat} {Yw : Nat → Nat} {wa wb : Nat} {qq : Nat → Int32} {ee : Nat → Nat → Int32} {o11 : Value} {fr : va_W} {fm : Nat} (hp : ivT tX pp) (ht0 : pp 0 = τ 0) (ht1 : pp 15 = τ 1) (ht2 : pp 16 = τ 2) (ht3 : BTs (ff 0) (tauT τ)) (ht4 : (∀ j, iv (-128) 127 ((ff 0) j))) (hW : WFa n L qq ee) (hF : RFo V o11 fr fm) (hT : PTn cells slots n fm (qq 0)) (hq : pp 5 ≤ qq 0) (hP : va_P V.1 vwCl (wB V y pp ff gg (.ref (Yw 0)) o11 ++ (wY V y n L Yw wa wb qq ee ++ fr) ++ wz) H) (hD : va_D (AAs s) (wB V y pp ff gg (.ref (Yw 0)) o11 ++ (wY V y n L Yw wa wb qq ee ++ fr) ++ wz)) (hS : va_S (AAs s) s.heap H locs) (hlz : ls.size = 4) (kk : (∀ (r : Int32) (H : Heap) (locs : List Loc) (cells slots : Nat) (wx : va_W), KX V y cells slots τ wx → va_P V.1 vwCl (wx ++ wz) H → va_D (AAs s) (wx ++ wz) → va_S (AAs s) s.heap H locs → W p l e room_1 s m #[Value.ref b] below meth c H locs cells slots (lw_Z below #[Value.ref b] s) (F0 m 793 ls [.int r]))) : W p l e room_1 s m #[Value.ref b] below meth c H locs cells slots (lw_Z below #[Value.ref b] s) (F0 m 790 ls [.int a3, .int a2, .int a1, .ref (y 0)]) := by
  obtain ⟨hn, hL, hw_q0, hw_q5, hw_q6, hw_q14, hw_q16, hw_tYw1, hw_tYw4, hw_tYw5, hw_tYw6, hw_tYw7, hw_WA, hw_WB, hw_WC⟩ := id hW
  rw [as4] at hP hD
  refine cSI (X := wB V y pp ff gg (.ref (Yw 0)) o11 ++ wY V y n L Yw wa wb qq ee) (pl := fr ++ wz) (rest := []) G (k_X9_way_0 l V n L Yw y a1 a2 a3 (pp 0) o11 (pp 1) (pp 2) (pp 3) (pp 4) (pp 5) (pp 6) (pp 7) (pp 8) (pp 9) (pp 10) (pp 11) (pp 12) (pp 13) (pp 14) (ff 1) (ff 7) (ff 15) (ff 16) (ff 17) (qq 0) wa (qq 5) (qq 6) wb (qq 14) (qq 15) (qq 16) (ee 0) (ee 1) (ee 3) (ee 4) (ee 5) (ee 7) hn hL hq (hp 0) (hp 5) (hp 6) (hp 7) (hp 10) (hp 11) (hp 12) (hp 13) (hp 14) hw_q0 hw_q5 hw_q6 hw_q14 hw_q16 hw_tYw1 hw_tYw4 hw_tYw5 hw_tYw6 hw_WA hw_WB hw_WC) mt_X9_way q_4_150 ⟨Nat.le_of_ble_eq_true rfl, Nat.le_of_ble_eq_true rfl⟩ hP hD hS [0, 2, 3, 9, 19, 20, 21, 22, 59, 60, 61, 63, 64, 65, 67] [0, 1, 0, 5, 9, 0, 0, 0, 36, 0, 0, 1, 0, 0, 1] (by decide) (by decide +kernel) rfl 0 rfl rfl rfl rfl hlz rfl (Nat.le_of_ble_eq_true rfl) dL_law_790 (PTn_room hT hw_q0) (fun r w H locs hw hPD hS => ?_)
  refine Exists.elim hw (fun g0 hw => ?_)
  refine Exists.elim hw (fun g1 hw => ?_)
  refine Exists.elim hw (fun g2 hw => ?_)
  refine Exists.elim hw (fun v3 hw => ?_)
  refine Exists.elim hw (fun v4 hw => ?_)
  refine Exists.elim hw (fun v5 hw => ?_)
  refine Exists.elim hw (fun v6 hw => ?_)
  refine Exists.elim hw (fun v7 hw => ?_)
  refine Exists.elim hw (fun g8 hw => ?_)
  refine Exists.elim hw (fun g9 hw => ?_)
  refine Exists.elim hw (fun g10 hw => ?_)
  refine Exists.elim hw (fun g11 hw => ?_)
  refine Exists.elim hw (fun g12 hw => ?_)
  refine Exists.elim hw (fun g13 hw => ?_)
  refine And.elim (fun bv3 hw => ?_) hw
  refine And.elim (fun bv4 hw => ?_) hw
  refine And.elim (fun bv5 hw => ?_) hw
  refine And.elim (fun bv7 hw => ?_) hw
  refine And.elim (fun bg8 hw => ?_) hw
  refine And.elim (fun bg10 hw => ?_) hw
  refine And.elim (fun bg11 hw => ?_) hw
  refine And.elim (fun bg12 hw => ?_) hw
  refine And.elim (fun br hw => ?_) hw
  refine And.elim (fun g_0 hw => ?_) hw
  refine And.elim (fun g_1 hw => ?_) hw
  refine And.elim (fun g_2 hw => ?_) hw
  subst hw
  obtain ⟨hP, hD⟩ := hPD (wB V y pp (up9 (up9 (up9 ff 15 g0) 16 g1) 17 g2) gg (.ref (Yw 0)) o11 ++ wY V y n L Yw wa wb (br9 17 (br9 8 (br9 4 qq (br9 6 (br9 5 qq (lf9 v3)) (br9 7 (lf9 v4) qq))) (br9 12 qq (br9 14 qq (br9 15 (lf9 v5) (br9 16 (lf9 v6) (lf9 v7)))))) qq) (br9 8 (br9 4 (br9 2 (br9 1 (lf9 g8) (lf9 g9)) (br9 3 ee (lf9 g10))) (br9 6 (br9 5 (lf9 g11) (lf9 g12)) (br9 7 ee (lf9 g13)))) ee)) rfl rfl
  rw [← as4] at hP hD
  exact kk r H locs (cells + 0) (slots + 0) _ ⟨pp, (up9 (up9 (up9 ff 15 g0) 16 g1) 17 g2), gg, .ref (Yw 0), o11, _, hp, ht0, ht1, ht2, ht3, ht4, Or.inr ⟨n, L, Yw, wa, wb, (br9 17 (br9 8 (br9 4 qq (br9 6 (br9 5 qq (lf9 v3)) (br9 7 (lf9 v4) qq))) (br9 12 qq (br9 14 qq (br9 15 (lf9 v5) (br9 16 (lf9 v6) (lf9 v7)))))) qq), (br9 8 (br9 4 (br9 2 (br9 1 (lf9 g8) (lf9 g9)) (br9 3 ee (lf9 g10))) (br9 6 (br9 5 (lf9 g11) (lf9 g12)) (br9 7 ee (lf9 g13)))) ee), fr, fm, ⟨hn, hL, hw_q0, bv3, bv4, bv5, bv7, bg8, bg10, bg11, bg12, hw_tYw7, g_0, g_1, g_2⟩, hF, hT, rfl, rfl⟩, rfl⟩ hP hD hS
set_option maxHeartbeats 4000000 in
set_option maxRecDepth 100000 in
theorem cx_20_b {p : Program} {e : Env} {s : State} {m : MethodId} {below : List Frame} {meth : Method} {c : Code} {l : Launch} {b Lk : Nat} {xs : Nat → Int32} {V : GV} {y : Nat → Nat} {τ : Nat → Int32} {H : Heap} {locs : List Loc} {cells slots : Nat} {wz : va_W} {ls : Array Slot} (G : LCx p s m meth c b Lk xs V) (a1 : Int32) (a2 : Int32) (a3 : Int32) {pp : Nat → Int32} {ff : Nat → Nat → Int32} {gg : Nat → Nat → Int64} {n L : Nat} {Yw : Nat → Nat} {wa wb : Nat} {qq : Nat → Int32} {ee : Nat → Nat → Int32} {o11 : Value} {fr : va_W} {fm : Nat} (hp : ivT tX pp) (ht0 : pp 0 = τ 0) (ht1 : pp 15 = τ 1) (ht2 : pp 16 = τ 2) (ht3 : BTs (ff 0) (tauT τ)) (ht4 : (∀ j, iv (-128) 127 ((ff 0) j))) (hW : WFa n L qq ee) (hF : RFo V o11 fr fm) (hT : PTn cells slots n fm (qq 0)) (hq : qq 0 < pp 5) (hg : 0 ≤ (a1 : Int32).toInt ∧ (a1 : Int32).toInt < ((pp 5) : Int32).toInt ∧ 0 ≤ (a2 : Int32).toInt ∧ (a2 : Int32).toInt ≤ 4 ∧ 0 ≤ (a3 : Int32).toInt) (hP : va_P V.1 vwCl (wB V y pp ff gg (.ref (Yw 0)) o11 ++ (wY V y n L Yw wa wb qq ee ++ fr) ++ wz) H) (hD : va_D (AAs s) (wB V y pp ff gg (.ref (Yw 0)) o11 ++ (wY V y n L Yw wa wb qq ee ++ fr) ++ wz)) (hS : va_S (AAs s) s.heap H locs) (hlz : ls.size = 4) (kk : (∀ (r : Int32) (H : Heap) (locs : List Loc) (cells slots : Nat) (wx : va_W), KX V y cells slots τ wx → va_P V.1 vwCl (wx ++ wz) H → va_D (AAs s) (wx ++ wz) → va_S (AAs s) s.heap H locs → W p l e room_1 s m #[Value.ref b] below meth c H locs cells slots (lw_Z below #[Value.ref b] s) (F0 m 793 ls [.int r]))) : W p l e room_1 s m #[Value.ref b] below meth c H locs cells slots (lw_Z below #[Value.ref b] s) (F0 m 790 ls [.int a3, .int a2, .int a1, .ref (y 0)]) := by
  obtain ⟨hn, hL, hw_q0, hw_q5, hw_q6, hw_q14, hw_q16, hw_tYw1, hw_tYw4, hw_tYw5, hw_tYw6, hw_tYw7, hw_WA, hw_WB, hw_WC⟩ := id hW
  have hTB := PTn_B 10 46481 hT hw_q0 (hp 5) hq (by decide) (by decide)
  rw [as4] at hP hD
  refine cXI (X := wB V y pp ff gg (.ref (Yw 0)) o11 ++ wY V y n L Yw wa wb qq ee) (pl := fr ++ wz) (wr := [(y 1, aB V 900 (ff 0)), (y 4, aI V 4 (ff 2)), (y 5, aI V 4 (ff 3)), (y 6, aI V 8 (ff 4)), (y 7, aI V 8 (ff 5)), (y 8, aI V 8 (ff 6)), (y 10, .inr (6, [.ref (y 11), .int (pp 15), .int (pp 16), .ref (y 1), .int (pp 17), .int (pp 18), .int (pp 19), .int (pp 20), .int (pp 21)])), (y 11, .inr (1, [.int (pp 22), .int (pp 23), .int (pp 24), .int (pp 25), .int (pp 26), .int (pp 27), .ref (y 12), .ref (y 13), .ref (y 14), .ref (y 15), .ref (y 16), .ref (y 17), .ref (y 18), .int (pp 28), .int (pp 29), .int (pp 30), .int (pp 31), .int (pp 32)])), (y 12, aI V 4 (ff 8)), (y 13, aI V 4 (ff 9)), (y 14, aI V 4 (ff 10)), (y 15, aI V 8 (ff 11)), (y 16, aI V 8 (ff 12)), (y 17, aI V 8 (ff 13)), (y 18, aI V 900 (ff 14)), (y 23, aI V 10 (ff 18)), (y 24, aI V 10 (ff 19)), (y 25, .inr (0, [.int (pp 33), .int (pp 34)])), (y 26, .inr (5, [.ref (y 27), .ref (y 28), .ref (y 29), .int (pp 35)])), (y 27, aI V 10 (ff 20)), (y 28, aI V 10 (ff 21)), (y 29, aI V 10 (ff 22)), (y 30, aT V 4 (va_up (va_up (va_up (va_up (fun _ => none) 0 (some (y 33))) 1 (some (y 35))) 2 (some (y 37))) 3 (some (y 39)))), (y 31, aM V 2 (va_up (va_up (fun _ => none) 0 (some (y 41))) 1 (some (y 50)))), (y 32, aI V 10 (ff 23)), (y 33, .inr (7, [.ref (y 34), .int (pp 36), .int (pp 37)])), (y 34, aJ V 40 (gg 0)), (y 35, .inr (7, [.ref (y 36), .int (pp 38), .int (pp 39)])), (y 36, aJ V 40 (gg 1)), (y 37, .inr (7, [.ref (y 38), .int (pp 40), .int (pp 41)])), (y 38, aJ V 40 (gg 2)), (y 39, .inr (7, [.ref (y 40), .int (pp 42), .int (pp 43)])), (y 40, aJ V 40 (gg 3)), (y 41, .inr (3, [.ref (y 42), .int (pp 44), .int (pp 45), .int (pp 46), .int (pp 47)])), (y 42, .inr (1, [.int (pp 48), .int (pp 49), .int (pp 50), .int (pp 51), .int (pp 52), .int (pp 53), .ref (y 43), .ref (y 44), .ref (y 45), .ref (y 46), .ref (y 47), .ref (y 48), .ref (y 49), .int (pp 54), .int (pp 55), .int (pp 56), .int (pp 57), .int (pp 58)])), (y 43, aI V 4 (ff 24)), (y 44, aI V 4 (ff 25)), (y 45, aI V 4 (ff 26)), (y 46, aI V 8 (ff 27)), (y 47, aI V 8 (ff 28)), (y 48, aI V 8 (ff 29)), (y 49, aI V 900 (ff 30)), (y 50, .inr (3, [.ref (y 51), .int (pp 59), .int (pp 60), .int (pp 61), .int (pp 62)])), (y 51, .inr (1, [.int (pp 63), .int (pp 64), .int (pp 65), .int (pp 66), .int (pp 67), .int (pp 68), .ref (y 52), .ref (y 53), .ref (y 54), .ref (y 55), .ref (y 56), .ref (y 57), .ref (y 58), .int (pp 69), .int (pp 70), .int (pp 71), .int (pp 72), .int (pp 73)])), (y 52, aI V 4 (ff 31)), (y 53, aI V 4 (ff 32)), (y 54, aI V 4 (ff 33)), (y 55, aI V 8 (ff 34)), (y 56, aI V 8 (ff 35)), (y 57, aI V 8 (ff 36)), (y 58, aI V 900 (ff 37))]) (rest := []) G (k_X9_way_3 l V n L Yw y a1 a2 a3 (pp 0) o11 (pp 1) (pp 2) (pp 3) (pp 4) (pp 5) (pp 6) (pp 7) (pp 8) (pp 9) (pp 10) (pp 11) (pp 12) (pp 13) (pp 14) (ff 1) (ff 7) (ff 15) (ff 16) (ff 17) (qq 0) wa (qq 5) (qq 6) wb (qq 14) (qq 15) (qq 16) (ee 0) (ee 1) (ee 2) (ee 3) (ee 4) (ee 5) (ee 6) (ee 7) (ee 8) hn hL hq (hp 0) (hp 5) (hp 6) (hp 7) (hp 10) (hp 11) (hp 12) (hp 13) (hp 14) hw_q0 hw_q5 hw_q6 hw_q14 hw_q16 hw_tYw1 hw_tYw4 hw_tYw5 hw_tYw6 hw_tYw7 hw_WA hw_WB hw_WC hg.1 hg.2.1 hg.2.2.1 hg.2.2.2.1 hg.2.2.2.2) mt_X9_way q_4_150 ⟨Nat.le_of_ble_eq_true rfl, Nat.le_of_ble_eq_true rfl⟩ hP hD hS [0, 2, 3, 9, 19, 20, 21, 22, 59, 60, 61, 62, 63, 64, 65, 66, 67, 68] [1, 4, 5, 6, 7, 8, 10, 11, 12, 13, 14, 15, 16, 17, 18, 23, 24, 25, 26, 27, 28, 29, 30, 31, 32, 33, 34, 35, 36, 37, 38, 39, 40, 41, 42, 43, 44, 45, 46, 47, 48, 49, 50, 51, 52, 53, 54, 55, 56, 57, 58] (by decide +kernel) rfl rfl (by decide +kernel) (by decide +kernel) 0 rfl rfl rfl rfl hlz rfl (Nat.le_of_ble_eq_true rfl) dL_law_790 hTB.1 (fun r w H locs hw hP hD hS => ?_)
  refine Exists.elim hw (fun n1 hw => ?_)
  refine Exists.elim hw (fun L1 hw => ?_)
  refine Exists.elim hw (fun Yw1 hw => ?_)
  refine Exists.elim hw (fun wa1 hw => ?_)
  refine Exists.elim hw (fun wb1 hw => ?_)
  refine Exists.elim hw (fun g0 hw => ?_)
  refine Exists.elim hw (fun g1 hw => ?_)
  refine Exists.elim hw (fun g2 hw => ?_)
  refine Exists.elim hw (fun ww0 hw => ?_)
  refine Exists.elim hw (fun ww5 hw => ?_)
  refine Exists.elim hw (fun ww6 hw => ?_)
  refine Exists.elim hw (fun ww14 hw => ?_)
  refine Exists.elim hw (fun ww15 hw => ?_)
  refine Exists.elim hw (fun ww16 hw => ?_)
  refine Exists.elim hw (fun wew1 hw => ?_)
  refine Exists.elim hw (fun wew2 hw => ?_)
  refine Exists.elim hw (fun wew3 hw => ?_)
  refine Exists.elim hw (fun wew4 hw => ?_)
  refine Exists.elim hw (fun wew5 hw => ?_)
  refine Exists.elim hw (fun wew6 hw => ?_)
  refine Exists.elim hw (fun wew7 hw => ?_)
  refine Exists.elim hw (fun wew8 hw => ?_)
  refine Exists.elim hw (fun wew9 hw => ?_)
  refine And.elim (fun hn1 hw => ?_) hw
  refine And.elim (fun hL1 hw => ?_) hw
  refine And.elim (fun bww0 hw => ?_) hw
  refine And.elim (fun bww5 hw => ?_) hw
  refine And.elim (fun bww6 hw => ?_) hw
  refine And.elim (fun bww14 hw => ?_) hw
  refine And.elim (fun bww16 hw => ?_) hw
  refine And.elim (fun bwew1 hw => ?_) hw
  refine And.elim (fun bwew4 hw => ?_) hw
  refine And.elim (fun bwew5 hw => ?_) hw
  refine And.elim (fun bwew6 hw => ?_) hw
  refine And.elim (fun bwew7 hw => ?_) hw
  refine And.elim (fun br hw => ?_) hw
  refine And.elim (fun g_0 hw => ?_) hw
  refine And.elim (fun g_1 hw => ?_) hw
  refine And.elim (fun g_2 hw => ?_) hw
  refine And.elim (fun g_3 hw => ?_) hw
  subst hw
  have hP := ptP (ws' := wB V y pp (up9 (up9 (up9 ff 15 g0) 16 g1) 17 g2) gg (.ref (Yw1 0)) o11 ++ wY V y n1 L1 Yw1 wa1 wb1 (br9 17 (br9 8 (br9 4 (br9 2 (br9 1 (lf9 ww0) (fun _ => 0)) (fun _ => 0)) (br9 6 (br9 5 (fun _ => 0) (lf9 ww5)) (br9 7 (lf9 ww6) (fun _ => 0)))) (br9 12 (fun _ => 0) (br9 14 (fun _ => 0) (br9 15 (lf9 ww14) (br9 16 (lf9 ww15) (lf9 ww16)))))) (fun _ => 0)) (br9 9 (br9 4 (br9 2 (br9 1 (lf9 wew1) (lf9 wew2)) (br9 3 (lf9 wew3) (lf9 wew4))) (br9 6 (br9 5 (lf9 wew5) (lf9 wew6)) (br9 7 (lf9 wew7) (br9 8 (lf9 wew8) (lf9 wew9))))) (fun _ _ => 0))) hP [51, 0, 52, 53, 1, 2, 3, 4, 5, 54, 6, 7, 8, 9, 10, 11, 12, 13, 14, 55, 56, 57, 58, 15, 16, 17, 18, 19, 20, 21, 22, 23, 24, 25, 26, 27, 28, 29, 30, 31, 32, 33, 34, 35, 36, 37, 38, 39, 40, 41, 42, 43, 44, 45, 46, 47, 48, 49, 50, 59, 60, 61, 62, 63, 64, 65, 66, 67, 68] rfl
  have hD := hD.part (cx := wB V y pp (up9 (up9 (up9 ff 15 g0) 16 g1) 17 g2) gg (.ref (Yw1 0)) o11 ++ wY V y n1 L1 Yw1 wa1 wb1 (br9 17 (br9 8 (br9 4 (br9 2 (br9 1 (lf9 ww0) (fun _ => 0)) (fun _ => 0)) (br9 6 (br9 5 (fun _ => 0) (lf9 ww5)) (br9 7 (lf9 ww6) (fun _ => 0)))) (br9 12 (fun _ => 0) (br9 14 (fun _ => 0) (br9 15 (lf9 ww14) (br9 16 (lf9 ww15) (lf9 ww16)))))) (fun _ => 0)) (br9 9 (br9 4 (br9 2 (br9 1 (lf9 wew1) (lf9 wew2)) (br9 3 (lf9 wew3) (lf9 wew4))) (br9 6 (br9 5 (lf9 wew5) (lf9 wew6)) (br9 7 (lf9 wew7) (br9 8 (lf9 wew8) (lf9 wew9))))) (fun _ _ => 0))) [51, 0, 52, 53, 1, 2, 3, 4, 5, 54, 6, 7, 8, 9, 10, 11, 12, 13, 14, 55, 56, 57, 58, 15, 16, 17, 18, 19, 20, 21, 22, 23, 24, 25, 26, 27, 28, 29, 30, 31, 32, 33, 34, 35, 36, 37, 38, 39, 40, 41, 42, 43, 44, 45, 46, 47, 48, 49, 50, 59, 60, 61, 62, 63, 64, 65, 66, 67, 68] (by decide +kernel) rfl
  rw [← as4] at hP hD
  exact kk r H locs (cells + 10) (slots + 46481) _ ⟨pp, (up9 (up9 (up9 ff 15 g0) 16 g1) 17 g2), gg, .ref (Yw1 0), o11, _, hp, ht0, ht1, ht2, ht3, ht4, Or.inr ⟨n1, L1, Yw1, wa1, wb1, (br9 17 (br9 8 (br9 4 (br9 2 (br9 1 (lf9 ww0) (fun _ => 0)) (fun _ => 0)) (br9 6 (br9 5 (fun _ => 0) (lf9 ww5)) (br9 7 (lf9 ww6) (fun _ => 0)))) (br9 12 (fun _ => 0) (br9 14 (fun _ => 0) (br9 15 (lf9 ww14) (br9 16 (lf9 ww15) (lf9 ww16)))))) (fun _ => 0)), (br9 9 (br9 4 (br9 2 (br9 1 (lf9 wew1) (lf9 wew2)) (br9 3 (lf9 wew3) (lf9 wew4))) (br9 6 (br9 5 (lf9 wew5) (lf9 wew6)) (br9 7 (lf9 wew7) (br9 8 (lf9 wew8) (lf9 wew9))))) (fun _ _ => 0)), fr, fm, ⟨hn1, hL1, bww0, bww5, bww6, bww14, bww16, bwew1, bwew4, bwew5, bwew6, bwew7, g_0, g_1, g_2⟩, hF, (show PTn _ _ _ _ ww0 from by rw [g_3]; exact hTB.2 n1 fm), rfl, rfl⟩, rfl⟩ hP hD hS
