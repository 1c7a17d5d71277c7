theorem q_6_109 : Cond.code yX10_feed prog_12_method_5_code 8 (some FieldType.int) ∈ gw := gw_6 (i := 109) (rfl) rfl
theorem q_6_107 : Cond.instanceMethod yX10_feed ∈ gw := gw_6 (i := 107) (by decide +kernel) rfl
theorem q_6_108 : Cond.selects "BeaconDelayModel" yX10_feed yX10_feed ∈ gw := gw_6 (i := 108) (by decide +kernel) rfl
theorem mt_X10_feed : MtV yX10_feed cX10_feed 8 (some .int) 5 := ⟨⟨q_6_109, q_1_9, by decide +kernel, by decide +kernel, by decide +kernel⟩, q_6_107, q_6_108⟩
theorem q_6_106 : Cond.methodLink "BeaconDelayLaw" 17 yX10_feed ∈ gw := gw_6 (i := 106) (by decide +kernel) rfl
theorem dL_law_280 : decode cL_law 280 = .ok (.invokevirtual 17, 3) := by decide +kernel
set_option maxHeartbeats 4000000 in
set_option maxRecDepth 100000 in
theorem cz_0 {p : Program} {e : Env} {s : State} {m : MethodId} {below : List Frame} {meth : Method} {c : Code} {l : Launch} {b Lk : Nat} {xs : Nat → Int32} {V : GV} {z : Nat → Nat} {H : Heap} {locs : List Loc} {cells slots : Nat} {wx : va_W} {ls : Array Slot} {rest : List Value} (G : LCx p s m meth c b Lk xs V) (a1 : Int32) (a2 : Int32) (a3 : Int32) (a4 : Int32) (a5 : Int32) {pz : Nat → Int32} {fz : Nat → Nat → Int32} {gz : Nat → Nat → Int64} {wz : va_W} (kz : KZ V z pz fz gz wz) (hP : va_P V.1 vwCl (wx ++ wz) H) (hD : va_D (AAs s) (wx ++ wz)) (hS : va_S (AAs s) s.heap H locs) (hcs : cells + 0 ≤ 600000 ∧ slots + 0 ≤ 7302250) (hro : (rest.map fun v => v.category).sum ≤ 8) (hlz : ls.size = 4) (kk : (∀ (r : Int32) (H : Heap) (locs : List Loc) (pz' : Nat → Int32) (fz' : Nat → Nat → Int32) (gz' : Nat → Nat → Int64) (wz : va_W), KZ V z pz' fz' gz' wz → (∀ i ∈ [13, 14], pz' i = pz i) ∧ (∀ i ∈ [0, 1, 18, 19], fz' i = fz i) ∧ (∀ i ∈ [3], gz' i = gz i) ∧ ((pz' 5) = feS (pz 5)) ∧ ((fz' 2) = feZ (fz 2) (pz 5) a1 a2 a3 a4 a5) → va_P V.1 vwCl (wx ++ wz) H → va_D (AAs s) (wx ++ wz) → va_S (AAs s) s.heap H locs → W p l e room_1 s m #[Value.ref b] below meth c H locs cells slots (lw_Z below #[Value.ref b] s) (F0 m 283 ls (.int r :: rest)))) : W p l e room_1 s m #[Value.ref b] below meth c H locs cells slots (lw_Z below #[Value.ref b] s) (F0 m 280 ls (.int a5 :: .int a4 :: .int a3 :: .int a2 :: .int a1 :: .ref (z 0) :: rest)) := by
  obtain ⟨hp, hz_tz1, hz_tz3, hz_tz4, hz_tz16, hz_tz17, hz_tz20, hz_tz21, hz_tz24, hz_tz25, hz_tz26, hz_tz27, hz_tz33, hz_tz34, hz_tz37, hz_tz38, hz_RW, rfl⟩ := kz
  replace hP := swP hP
  replace hD := swD hD
  refine cSI (X := wZ V z pz fz gz) (pl := wx) (rest := rest) G (k_X10_feed_0 l V z a1 a2 a3 a4 a5 (pz 0) (pz 5) (pz 6) (pz 7) (pz 8) (pz 9) (pz 10) (pz 11) (pz 12) (pz 13) (pz 14) (pz 18) (pz 19) (pz 22) (pz 23) (pz 29) (fz 2) (hp 5) (hp 6) (hp 7) (hp 8) (hp 10) (hp 11) (hp 12) (hp 13) (hp 14) (hp 18) (hp 22) (hp 29) hz_tz3) mt_X10_feed q_6_106 ⟨Nat.le_of_ble_eq_true rfl, Nat.le_of_ble_eq_true rfl⟩ hP hD hS [0, 3] [0, 2] (by decide) (by decide +kernel) rfl 0 rfl rfl rfl rfl hlz rfl hro dL_law_280 hcs (fun r w H locs hw hPD hS => ?_)
  refine Exists.elim hw (fun v0 hw => ?_)
  refine Exists.elim hw (fun v1 hw => ?_)
  refine Exists.elim hw (fun g2 hw => ?_)
  refine And.elim (fun bv1 hw => ?_) hw
  refine And.elim (fun bg2 hw => ?_) hw
  refine And.elim (fun br hw => ?_) hw
  refine And.elim (fun ef hw => ?_) hw
  refine And.elim (fun g_0 hw => ?_) hw
  refine And.elim (fun g_1 hw => ?_) hw
  subst hw
  obtain ⟨hP, hD⟩ := hPD (wZ V z (up9 (up9 pz 0 v0) 5 v1) (up9 fz 2 g2) gz) rfl rfl
  replace hP := swP hP
  replace hD := swD hD
  exact kk r H locs (up9 (up9 pz 0 v0) 5 v1) (up9 fz 2 g2) gz _ ⟨(ivUp 5 (ivUp 0 hp (iv_top v0)) bv1), hz_tz1, bg2, hz_tz4, hz_tz16, hz_tz17, hz_tz20, hz_tz21, hz_tz24, hz_tz25, hz_tz26, hz_tz27, hz_tz33, hz_tz34, hz_tz37, hz_tz38, hz_RW, rfl⟩ ⟨(List.forall_mem_cons.mpr ⟨rfl, (List.forall_mem_cons.mpr ⟨rfl, (fun _ h => absurd h List.not_mem_nil)⟩)⟩), (List.forall_mem_cons.mpr ⟨rfl, (List.forall_mem_cons.mpr ⟨rfl, (List.forall_mem_cons.mpr ⟨rfl, (List.forall_mem_cons.mpr ⟨rfl, (fun _ h => absurd h List.not_mem_nil)⟩)⟩)⟩)⟩), (fun _ _ => rfl), g_0, g_1⟩ hP hD hS
theorem q_6_113 : Cond.code yX10_coast prog_12_method_34_code 3 (some FieldType.int) ∈ gw := gw_6 (i := 113) (rfl) rfl
theorem q_6_111 : Cond.instanceMethod yX10_coast ∈ gw := gw_6 (i := 111) (by decide +kernel) rfl
theorem q_6_112 : Cond.selects "BeaconDelayModel" yX10_coast yX10_coast ∈ gw := gw_6 (i := 112) (by decide +kernel) rfl
theorem mt_X10_coast : MtV yX10_coast cX10_coast 3 (some .int) 1 := ⟨⟨q_6_113, q_1_9, by decide +kernel, by decide +kernel, by decide +kernel⟩, q_6_111, q_6_112⟩
theorem q_6_110 : Cond.methodLink "BeaconDelayLaw" 22 yX10_coast ∈ gw := gw_6 (i := 110) (by decide +kernel) rfl
theorem dL_law_303 : decode cL_law 303 = .ok (.invokevirtual 22, 3) := by decide +kernel
set_option maxHeartbeats 4000000 in
set_option maxRecDepth 100000 in
theorem cz_1 {p : Program} {e : Env} {s : State} {m : MethodId} {below : List Frame} {meth : Method} {c : Code} {l : Launch} {b Lk : Nat} {xs : Nat → Int32} {V : GV} {z : Nat → Nat} {H : Heap} {locs : List Loc} {cells slots : Nat} {wx : va_W} {ls : Array Slot} {rest : List Value} (G : LCx p s m meth c b Lk xs V) (a1 : Int32) {pz : Nat → Int32} {fz : Nat → Nat → Int32} {gz : Nat → Nat → Int64} {wz : va_W} (kz : KZ V z pz fz gz wz) (hP : va_P V.1 vwCl (wx ++ wz) H) (hD : va_D (AAs s) (wx ++ wz)) (hS : va_S (AAs s) s.heap H locs) (hcs : cells + 0 ≤ 600000 ∧ slots + 0 ≤ 7302250) (hro : (rest.map fun v => v.category).sum ≤ 8) (hlz : ls.size = 4) (kk : (∀ (r : Int32) (H : Heap) (locs : List Loc) (pz' : Nat → Int32) (fz' : Nat → Nat → Int32) (gz' : Nat → Nat → Int64) (wz : va_W), KZ V z pz' fz' gz' wz → (∀ i ∈ ([] : List Nat), pz' i = pz i) ∧ (∀ i ∈ [1, 2, 18, 19], fz' i = fz i) ∧ (∀ i ∈ [3], gz' i = gz i) ∧ ((pz' 5) = coS a1 (pz 5)) ∧ ((pz' 13) = coW (fz 2) (pz 5) a1 (pz 13)) ∧ ((pz' 14) = coA (fz 2) (pz 5) a1 (pz 14)) ∧ (¬ (a1 < 0 ∨ (pz 5) < a1) → (txR (tkX (fz 2) a1)).1.1 = 0 → (∀ j : Nat, j < 124 → (fz' 0) j = (txR (tkX (fz 2) a1)).2 j) ∧ CDz (txR (tkX (fz 2) a1)).1 (fz' 0) ∧ ∀ j : Nat, 1025 ≤ j → (fz' 0) j = (fz 0) j) ∧ (((a1 < 0 ∨ (pz 5) < a1) ∨ ¬ (txR (tkX (fz 2) a1)).1.1 = 0) → (fz' 0) = (fz 0)) → va_P V.1 vwCl (wx ++ wz) H → va_D (AAs s) (wx ++ wz) → va_S (AAs s) s.heap H locs → W p l e room_1 s m #[Value.ref b] below meth c H locs cells slots (lw_Z below #[Value.ref b] s) (F0 m 306 ls (.int r :: rest)))) : W p l e room_1 s m #[Value.ref b] below meth c H locs cells slots (lw_Z below #[Value.ref b] s) (F0 m 303 ls (.int a1 :: .ref (z 0) :: rest)) := by
  obtain ⟨hp, hz_tz1, hz_tz3, hz_tz4, hz_tz16, hz_tz17, hz_tz20, hz_tz21, hz_tz24, hz_tz25, hz_tz26, hz_tz27, hz_tz33, hz_tz34, hz_tz37, hz_tz38, hz_RW, rfl⟩ := kz
  replace hP := swP hP
  replace hD := swD hD
  refine cSI (X := wZ V z pz fz gz) (pl := wx) (rest := rest) G (k_X10_coast_0 l V z a1 (pz 0) (pz 5) (pz 6) (pz 7) (pz 8) (pz 9) (pz 10) (pz 11) (pz 12) (pz 13) (pz 14) (pz 18) (pz 19) (pz 22) (pz 23) (pz 29) (fz 0) (fz 2) (fz 3) (hp 5) (hp 6) (hp 7) (hp 8) (hp 10) (hp 11) (hp 12) (hp 13) (hp 14) (hp 18) (hp 22) (hp 29) hz_tz1 hz_tz3 hz_tz4 hz_RW) mt_X10_coast q_6_110 ⟨Nat.le_of_ble_eq_true rfl, Nat.le_of_ble_eq_true rfl⟩ hP hD hS [0, 1, 3, 4] [0, 0, 1, 0] (by decide) (by decide +kernel) rfl 0 rfl rfl rfl rfl hlz rfl hro dL_law_303 hcs (fun r w H locs hw hPD hS => ?_)
  refine Exists.elim hw (fun v0 hw => ?_)
  refine Exists.elim hw (fun v1 hw => ?_)
  refine Exists.elim hw (fun v2 hw => ?_)
  refine Exists.elim hw (fun v3 hw => ?_)
  refine Exists.elim hw (fun v4 hw => ?_)
  refine Exists.elim hw (fun v5 hw => ?_)
  refine Exists.elim hw (fun v6 hw => ?_)
  refine Exists.elim hw (fun v7 hw => ?_)
  refine Exists.elim hw (fun v8 hw => ?_)
  refine Exists.elim hw (fun v9 hw => ?_)
  refine Exists.elim hw (fun v10 hw => ?_)
  refine Exists.elim hw (fun g11 hw => ?_)
  refine Exists.elim hw (fun g12 hw => ?_)
  refine And.elim (fun bv1 hw => ?_) hw
  refine And.elim (fun bv2 hw => ?_) hw
  refine And.elim (fun bv3 hw => ?_) hw
  refine And.elim (fun bv4 hw => ?_) hw
  refine And.elim (fun bv6 hw => ?_) hw
  refine And.elim (fun bv7 hw => ?_) hw
  refine And.elim (fun bv8 hw => ?_) hw
  refine And.elim (fun bv9 hw => ?_) hw
  refine And.elim (fun bv10 hw => ?_) hw
  refine And.elim (fun bg11 hw => ?_) hw
  refine And.elim (fun bg12 hw => ?_) hw
  refine And.elim (fun ef hw => ?_) hw
  refine And.elim (fun g_0 hw => ?_) hw
  refine And.elim (fun g_1 hw => ?_) hw
  refine And.elim (fun g_2 hw => ?_) hw
  refine And.elim (fun g_3 hw => ?_) hw
  refine And.elim (fun g_4 hw => ?_) hw
  refine And.elim (fun g_5 hw => ?_) hw
  subst hw
  obtain ⟨hP, hD⟩ := hPD (wZ V z (br9 15 (br9 7 (br9 3 (br9 1 (lf9 v0) pz) (br9 5 pz (br9 6 (lf9 v1) (lf9 v2)))) (br9 11 (br9 9 (br9 8 (lf9 v3) (lf9 v4)) (br9 10 (lf9 v5) (lf9 v6))) (br9 13 (br9 12 (lf9 v7) (lf9 v8)) (br9 14 (lf9 v9) (lf9 v10))))) pz) (up9 (up9 fz 0 g11) 3 g12) gz) rfl rfl
  replace hP := swP hP
  replace hD := swD hD
  exact kk r H locs (br9 15 (br9 7 (br9 3 (br9 1 (lf9 v0) pz) (br9 5 pz (br9 6 (lf9 v1) (lf9 v2)))) (br9 11 (br9 9 (br9 8 (lf9 v3) (lf9 v4)) (br9 10 (lf9 v5) (lf9 v6))) (br9 13 (br9 12 (lf9 v7) (lf9 v8)) (br9 14 (lf9 v9) (lf9 v10))))) pz) (up9 (up9 fz 0 g11) 3 g12) gz _ ⟨(ivG_t 15 (ivG_b 7 (ivG_b 3 (ivG_b 1 (ivG_l 0 (iv_top v0)) (ivG_p hp)) (ivG_b 5 (ivG_p hp) (ivG_b 6 (ivG_l 5 bv1) (ivG_l 6 bv2)))) (ivG_b 11 (ivG_b 9 (ivG_b 8 (ivG_l 7 bv3) (ivG_l 8 bv4)) (ivG_b 10 (ivG_l 9 (iv_top v5)) (ivG_l 10 bv6))) (ivG_b 13 (ivG_b 12 (ivG_l 11 bv7) (ivG_l 12 bv8)) (ivG_b 14 (ivG_l 13 bv9) (ivG_l 14 bv10))))) hp), bg11, hz_tz3, bg12, hz_tz16, hz_tz17, hz_tz20, hz_tz21, hz_tz24, hz_tz25, hz_tz26, hz_tz27, hz_tz33, hz_tz34, hz_tz37, hz_tz38, g_0, rfl⟩ ⟨(fun _ h => absurd h List.not_mem_nil), (List.forall_mem_cons.mpr ⟨rfl, (List.forall_mem_cons.mpr ⟨rfl, (List.forall_mem_cons.mpr ⟨rfl, (List.forall_mem_cons.mpr ⟨rfl, (fun _ h => absurd h List.not_mem_nil)⟩)⟩)⟩)⟩), (fun _ _ => rfl), g_1, g_2, g_3, g_4, g_5⟩ hP hD hS
theorem q_6_230 : Cond.code yX10_fault prog_12_method_35_code 2 (some FieldType.int) ∈ gw := gw_6 (i := 230) (rfl) rfl
theorem q_6_228 : Cond.instanceMethod yX10_fault ∈ gw := gw_6 (i := 228) (by decide +kernel) rfl
theorem q_6_229 : Cond.selects "BeaconDelayModel" yX10_fault yX10_fault ∈ gw := gw_6 (i := 229) (by decide +kernel) rfl
theorem mt_X10_fault : MtV yX10_fault cX10_fault 2 (some .int) 1 := ⟨⟨q_6_230, q_1_9, by decide +kernel, by decide +kernel, by decide +kernel⟩, q_6_228, q_6_229⟩
theorem q_6_227 : Cond.methodLink "BeaconDelayLaw" 26 yX10_fault ∈ gw := gw_6 (i := 227) (by decide +kernel) rfl
theorem dL_law_326 : decode cL_law 326 = .ok (.invokevirtual 26, 3) := by decide +kernel
set_option maxHeartbeats 4000000 in
set_option maxRecDepth 100000 in
theorem cz_2 {p : Program} {e : Env} {s : State} {m : MethodId} {below : List Frame} {meth : Method} {c : Code} {l : Launch} {b Lk : Nat} {xs : Nat → Int32} {V : GV} {z : Nat → Nat} {H : Heap} {locs : List Loc} {cells slots : Nat} {wx : va_W} {ls : Array Slot} {rest : List Value} (G : LCx p s m meth c b Lk xs V) (a1 : Int32) {pz : Nat → Int32} {fz : Nat → Nat → Int32} {gz : Nat → Nat → Int64} {wz : va_W} (kz : KZ V z pz fz gz wz) (hP : va_P V.1 vwCl (wx ++ wz) H) (hD : va_D (AAs s) (wx ++ wz)) (hS : va_S (AAs s) s.heap H locs) (hcs : cells + 0 ≤ 600000 ∧ slots + 0 ≤ 7302250) (hro : (rest.map fun v => v.category).sum ≤ 8) (hlz : ls.size = 4) (kk : (∀ (r : Int32) (H : Heap) (locs : List Loc) (pz' : Nat → Int32) (fz' : Nat → Nat → Int32) (gz' : Nat → Nat → Int64) (wz : va_W), KZ V z pz' fz' gz' wz → (∀ i ∈ [5, 13, 14], pz' i = pz i) ∧ (∀ i ∈ [0, 1, 2, 18, 19], fz' i = fz i) ∧ (∀ i ∈ [3], gz' i = gz i) → va_P V.1 vwCl (wx ++ wz) H → va_D (AAs s) (wx ++ wz) → va_S (AAs s) s.heap H locs → W p l e room_1 s m #[Value.ref b] below meth c H locs cells slots (lw_Z below #[Value.ref b] s) (F0 m 329 ls (.int r :: rest)))) : W p l e room_1 s m #[Value.ref b] below meth c H locs cells slots (lw_Z below #[Value.ref b] s) (F0 m 326 ls (.int a1 :: .ref (z 0) :: rest)) := by
  obtain ⟨hp, hz_tz1, hz_tz3, hz_tz4, hz_tz16, hz_tz17, hz_tz20, hz_tz21, hz_tz24, hz_tz25, hz_tz26, hz_tz27, hz_tz33, hz_tz34, hz_tz37, hz_tz38, hz_RW, rfl⟩ := kz
  replace hP := swP hP
  replace hD := swD hD
  refine cSI (X := wZ V z pz fz gz) (pl := wx) (rest := rest) G (k_X10_fault_0 l V z a1 (pz 0) (pz 5) (pz 6) (pz 7) (pz 8) (pz 9) (pz 10) (pz 11) (pz 12) (pz 13) (pz 14) (pz 18) (pz 19) (pz 22) (pz 23) (pz 29) (hp 5) (hp 6) (hp 7) (hp 8) (hp 10) (hp 11) (hp 12) (hp 13) (hp 14) (hp 18) (hp 22) (hp 29)) mt_X10_fault q_6_227 ⟨Nat.le_of_ble_eq_true rfl, Nat.le_of_ble_eq_true rfl⟩ hP hD hS [0] [0] (by decide) (by decide +kernel) rfl 0 rfl rfl rfl rfl hlz rfl hro dL_law_326 hcs (fun r w H locs hw hPD hS => ?_)
  refine Exists.elim hw (fun v0 hw => ?_)
  refine And.elim (fun br hw => ?_) hw
  refine And.elim (fun ef hw => ?_) hw
  subst hw
  obtain ⟨hP, hD⟩ := hPD (wZ V z (up9 pz 0 v0) fz gz) rfl rfl
  replace hP := swP hP
  replace hD := swD hD
  exact kk r H locs (up9 pz 0 v0) fz gz _ ⟨(ivUp 0 hp (iv_top v0)), hz_tz1, hz_tz3, hz_tz4, hz_tz16, hz_tz17, hz_tz20, hz_tz21, hz_tz24, hz_tz25, hz_tz26, hz_tz27, hz_tz33, hz_tz34, hz_tz37, hz_tz38, hz_RW, rfl⟩ ⟨(List.forall_mem_cons.mpr ⟨rfl, (List.forall_mem_cons.mpr ⟨rfl, (List.forall_mem_cons.mpr ⟨rfl, (fun _ h => absurd h List.not_mem_nil)⟩)⟩)⟩), (fun _ _ => rfl), (fun _ _ => rfl)⟩ hP hD hS
theorem q_6_234 : Cond.code yX10_hill prog_12_method_52_code 3 (some FieldType.int) ∈ gw := gw_6 (i := 234) (rfl) rfl
theorem q_6_232 : Cond.instanceMethod yX10_hill ∈ gw := gw_6 (i := 232) (by decide +kernel) rfl
theorem q_6_233 : Cond.selects "BeaconDelayModel" yX10_hill yX10_hill ∈ gw := gw_6 (i := 233) (by decide +kernel) rfl
theorem mt_X10_hill : MtV yX10_hill cX10_hill 3 (some .int) 2 := ⟨⟨q_6_234, q_1_9, by decide +kernel, by decide +kernel, by decide +kernel⟩, q_6_232, q_6_233⟩
theorem q_6_231 : Cond.methodLink "BeaconDelayLaw" 31 yX10_hill ∈ gw := gw_6 (i := 231) (by decide +kernel) rfl
theorem dL_law_359 : decode cL_law 359 = .ok (.invokevirtual 31, 3) := by decide +kernel
set_option maxHeartbeats 4000000 in
set_option maxRecDepth 100000 in
theorem cz_3 {p : Program} {e : Env} {s : State} {m : MethodId} {below : List Frame} {meth : Method} {c : Code} {l : Launch} {b Lk : Nat} {xs : Nat → Int32} {V : GV} {z : Nat → Nat} {H : Heap} {locs : List Loc} {cells slots : Nat} {wx : va_W} {ls : Array Slot} {rest : List Value} (G : LCx p s m meth c b Lk xs V) (a1 : Int32) (a2 : Int32) {pz : Nat → Int32} {fz : Nat → Nat → Int32} {gz : Nat → Nat → Int64} {wz : va_W} (kz : KZ V z pz fz gz wz) (hP : va_P V.1 vwCl (wx ++ wz) H) (hD : va_D (AAs s) (wx ++ wz)) (hS : va_S (AAs s) s.heap H locs) (hcs : cells + 0 ≤ 600000 ∧ slots + 0 ≤ 7302250) (hro : (rest.map fun v => v.category).sum ≤ 8) (hlz : ls.size = 4) (kk : (∀ (r : Int32) (H : Heap) (locs : List Loc) (pz' : Nat → Int32) (fz' : Nat → Nat → Int32) (gz' : Nat → Nat → Int64) (wz : va_W), KZ V z pz' fz' gz' wz → (∀ i ∈ [5, 13, 14], pz' i = pz i) ∧ (∀ i ∈ [0, 1, 2, 18, 19], fz' i = fz i) ∧ (∀ i ∈ [3], gz' i = gz i) ∧ (r = (F_k_X10_hill_0 a1 a2 (fz 0)).1) → va_P V.1 vwCl (wx ++ wz) H → va_D (AAs s) (wx ++ wz) → va_S (AAs s) s.heap H locs → W p l e room_1 s m #[Value.ref b] below meth c H locs cells slots (lw_Z below #[Value.ref b] s) (F0 m 362 ls (.int r :: rest)))) : W p l e room_1 s m #[Value.ref b] below meth c H locs cells slots (lw_Z below #[Value.ref b] s) (F0 m 359 ls (.int a2 :: .int a1 :: .ref (z 0) :: rest)) := by
  obtain ⟨hp, hz_tz1, hz_tz3, hz_tz4, hz_tz16, hz_tz17, hz_tz20, hz_tz21, hz_tz24, hz_tz25, hz_tz26, hz_tz27, hz_tz33, hz_tz34, hz_tz37, hz_tz38, hz_RW, rfl⟩ := kz
  replace hP := swP hP
  replace hD := swD hD
  refine cSI (X := wZ V z pz fz gz) (pl := wx) (rest := rest) G (k_X10_hill_0 l V z a1 a2 (pz 0) (pz 5) (pz 6) (pz 7) (pz 8) (pz 9) (pz 10) (pz 11) (pz 12) (pz 13) (pz 14) (pz 18) (pz 19) (pz 22) (pz 23) (pz 29) (fz 0) (hp 5) (hp 6) (hp 7) (hp 8) (hp 10) (hp 11) (hp 12) (hp 13) (hp 14) (hp 18) (hp 22) (hp 29) hz_tz1) mt_X10_hill q_6_231 ⟨Nat.le_of_ble_eq_true rfl, Nat.le_of_ble_eq_true rfl⟩ hP hD hS [0, 1] [0, 0] (by decide) (by decide +kernel) rfl 0 rfl rfl rfl rfl hlz rfl hro dL_law_359 hcs (fun r w H locs hw hPD hS => ?_)
  refine Exists.elim hw (fun v0 hw => ?_)
  refine And.elim (fun br hw => ?_) hw
  refine And.elim (fun et_0 hw => ?_) hw
  refine And.elim (fun et_1 hw => ?_) hw
  subst hw
  obtain ⟨hP, hD⟩ := hPD (wZ V z (up9 pz 0 v0) fz gz) rfl rfl
  replace hP := swP hP
  replace hD := swD hD
  exact kk r H locs (up9 pz 0 v0) fz gz _ ⟨(ivUp 0 hp (iv_top v0)), hz_tz1, hz_tz3, hz_tz4, hz_tz16, hz_tz17, hz_tz20, hz_tz21, hz_tz24, hz_tz25, hz_tz26, hz_tz27, hz_tz33, hz_tz34, hz_tz37, hz_tz38, hz_RW, rfl⟩ ⟨(List.forall_mem_cons.mpr ⟨rfl, (List.forall_mem_cons.mpr ⟨rfl, (List.forall_mem_cons.mpr ⟨rfl, (fun _ h => absurd h List.not_mem_nil)⟩)⟩)⟩), (fun _ _ => rfl), (fun _ _ => rfl), et_0⟩ hP hD hS
theorem q_7_2 : Cond.code yX10_village prog_12_method_53_code 2 (some FieldType.int) ∈ gw := gw_7 (i := 2) (rfl) rfl
theorem q_7_0 : Cond.instanceMethod yX10_village ∈ gw := gw_7 (i := 0) (by decide +kernel) rfl
theorem q_7_1 : Cond.selects "BeaconDelayModel" yX10_village yX10_village ∈ gw := gw_7 (i := 1) (by decide +kernel) rfl
theorem mt_X10_village : MtV yX10_village cX10_village 2 (some .int) 1 := ⟨⟨q_7_2, q_1_9, by decide +kernel, by decide +kernel, by decide +kernel⟩, q_7_0, q_7_1⟩
theorem q_6_239 : Cond.methodLink "BeaconDelayLaw" 35 yX10_village ∈ gw := gw_6 (i := 239) (by decide +kernel) rfl
theorem dL_law_382 : decode cL_law 382 = .ok (.invokevirtual 35, 3) := by decide +kernel
set_option maxHeartbeats 4000000 in
set_option maxRecDepth 100000 in
theorem cz_4 {p : Program} {e : Env} {s : State} {m : MethodId} {below : List Frame} {meth : Method} {c : Code} {l : Launch} {b Lk : Nat} {xs : Nat → Int32} {V : GV} {z : Nat → Nat} {H : Heap} {locs : List Loc} {cells slots : Nat} {wx : va_W} {ls : Array Slot} {rest : List Value} (G : LCx p s m meth c b Lk xs V) (a1 : Int32) {pz : Nat → Int32} {fz : Nat → Nat → Int32} {gz : Nat → Nat → Int64} {wz : va_W} (kz : KZ V z pz fz gz wz) (hP : va_P V.1 vwCl (wx ++ wz) H) (hD : va_D (AAs s) (wx ++ wz)) (hS : va_S (AAs s) s.heap H locs) (hcs : cells + 0 ≤ 600000 ∧ slots + 0 ≤ 7302250) (hro : (rest.map fun v => v.category).sum ≤ 8) (hlz : ls.size = 4) (kk : (∀ (r : Int32) (H : Heap) (locs : List Loc) (pz' : Nat → Int32) (fz' : Nat → Nat → Int32) (gz' : Nat → Nat → Int64) (wz : va_W), KZ V z pz' fz' gz' wz → (∀ i ∈ [5, 13, 14], pz' i = pz i) ∧ (∀ i ∈ [0, 1, 2, 18, 19], fz' i = fz i) ∧ (∀ i ∈ [3], gz' i = gz i) ∧ (r = (F_k_X10_village_0 a1 (fz 0)).1) → va_P V.1 vwCl (wx ++ wz) H → va_D (AAs s) (wx ++ wz) → va_S (AAs s) s.heap H locs → W p l e room_1 s m #[Value.ref b] below meth c H locs cells slots (lw_Z below #[Value.ref b] s) (F0 m 385 ls (.int r :: rest)))) : W p l e room_1 s m #[Value.ref b] below meth c H locs cells slots (lw_Z below #[Value.ref b] s) (F0 m 382 ls (.int a1 :: .ref (z 0) :: rest)) := by
  obtain ⟨hp, hz_tz1, hz_tz3, hz_tz4, hz_tz16, hz_tz17, hz_tz20, hz_tz21, hz_tz24, hz_tz25, hz_tz26, hz_tz27, hz_tz33, hz_tz34, hz_tz37, hz_tz38, hz_RW, rfl⟩ := kz
  replace hP := swP hP
  replace hD := swD hD
  refine cSI (X := wZ V z pz fz gz) (pl := wx) (rest := rest) G (k_X10_village_0 l V z a1 (pz 0) (pz 5) (pz 6) (pz 7) (pz 8) (pz 9) (pz 10) (pz 11) (pz 12) (pz 13) (pz 14) (pz 18) (pz 19) (pz 22) (pz 23) (pz 29) (fz 0) (hp 5) (hp 6) (hp 7) (hp 8) (hp 10) (hp 11) (hp 12) (hp 13) (hp 14) (hp 18) (hp 22) (hp 29) hz_tz1) mt_X10_village q_6_239 ⟨Nat.le_of_ble_eq_true rfl, Nat.le_of_ble_eq_true rfl⟩ hP hD hS [0, 1] [0, 0] (by decide) (by decide +kernel) rfl 0 rfl rfl rfl rfl hlz rfl hro dL_law_382 hcs (fun r w H locs hw hPD hS => ?_)
  refine Exists.elim hw (fun v0 hw => ?_)
  refine And.elim (fun br hw => ?_) hw
  refine And.elim (fun et_0 hw => ?_) hw
  refine And.elim (fun et_1 hw => ?_) hw
  subst hw
  obtain ⟨hP, hD⟩ := hPD (wZ V z (up9 pz 0 v0) fz gz) rfl rfl
  replace hP := swP hP
  replace hD := swD hD
  exact kk r H locs (up9 pz 0 v0) fz gz _ ⟨(ivUp 0 hp (iv_top v0)), hz_tz1, hz_tz3, hz_tz4, hz_tz16, hz_tz17, hz_tz20, hz_tz21, hz_tz24, hz_tz25, hz_tz26, hz_tz27, hz_tz33, hz_tz34, hz_tz37, hz_tz38, hz_RW, rfl⟩ ⟨(List.forall_mem_cons.mpr ⟨rfl, (List.forall_mem_cons.mpr ⟨rfl, (List.forall_mem_cons.mpr ⟨rfl, (fun _ h => absurd h List.not_mem_nil)⟩)⟩)⟩), (fun _ _ => rfl), (fun _ _ => rfl), et_0⟩ hP hD hS
theorem q_7_6 : Cond.code yX10_takes prog_12_method_54_code 3 (some FieldType.int) ∈ gw := gw_7 (i := 6) (rfl) rfl
theorem q_7_4 : Cond.instanceMethod yX10_takes ∈ gw := gw_7 (i := 4) (by decide +kernel) rfl
theorem q_7_5 : Cond.selects "BeaconDelayModel" yX10_takes yX10_takes ∈ gw := gw_7 (i := 5) (by decide +kernel) rfl
theorem mt_X10_takes : MtV yX10_takes cX10_takes 3 (some .int) 2 := ⟨⟨q_7_6, q_1_9, by decide +kernel, by decide +kernel, by decide +kernel⟩, q_7_4, q_7_5⟩
theorem q_7_3 : Cond.methodLink "BeaconDelayLaw" 39 yX10_takes ∈ gw := gw_7 (i := 3) (by decide +kernel) rfl
theorem dL_law_415 : decode cL_law 415 = .ok (.invokevirtual 39, 3) := by decide +kernel
set_option maxHeartbeats 4000000 in
set_option maxRecDepth 100000 in
theorem cz_5 {p : Program} {e : Env} {s : State} {m : MethodId} {below : List Frame} {meth : Method} {c : Code} {l : Launch} {b Lk : Nat} {xs : Nat → Int32} {V : GV} {z : Nat → Nat} {H : Heap} {locs : List Loc} {cells slots : Nat} {wx : va_W} {ls : Array Slot} {rest : List Value} (G : LCx p s m meth c b Lk xs V) (a1 : Int32) (a2 : Int32) {pz : Nat → Int32} {fz : Nat → Nat → Int32} {gz : Nat → Nat → Int64} {wz : va_W} (kz : KZ V z pz fz gz wz) (hP : va_P V.1 vwCl (wx ++ wz) H) (hD : va_D (AAs s) (wx ++ wz)) (hS : va_S (AAs s) s.heap H locs) (hcs : cells + 0 ≤ 600000 ∧ slots + 0 ≤ 7302250) (hro : (rest.map fun v => v.category).sum ≤ 8) (hlz : ls.size = 4) (kk : (∀ (r : Int32) (H : Heap) (locs : List Loc) (pz' : Nat → Int32) (fz' : Nat → Nat → Int32) (gz' : Nat → Nat → Int64) (wz : va_W), KZ V z pz' fz' gz' wz → (∀ i ∈ [5, 13, 14], pz' i = pz i) ∧ (∀ i ∈ [0, 1, 2, 18, 19], fz' i = fz i) ∧ (∀ i ∈ [3], gz' i = gz i) ∧ (r = (F_k_X10_takes_0 a1 a2 (fz 0) (fz 4) (fz 5)).1) → va_P V.1 vwCl (wx ++ wz) H → va_D (AAs s) (wx ++ wz) → va_S (AAs s) s.heap H locs → W p l e room_1 s m #[Value.ref b] below meth c H locs cells slots (lw_Z below #[Value.ref b] s) (F0 m 418 ls (.int r :: rest)))) : W p l e room_1 s m #[Value.ref b] below meth c H locs cells slots (lw_Z below #[Value.ref b] s) (F0 m 415 ls (.int a2 :: .int a1 :: .ref (z 0) :: rest)) := by
  obtain ⟨hp, hz_tz1, hz_tz3, hz_tz4, hz_tz16, hz_tz17, hz_tz20, hz_tz21, hz_tz24, hz_tz25, hz_tz26, hz_tz27, hz_tz33, hz_tz34, hz_tz37, hz_tz38, hz_RW, rfl⟩ := kz
  replace hP := swP hP
  replace hD := swD hD
  refine cSI (X := wZ V z pz fz gz) (pl := wx) (rest := rest) G (k_X10_takes_0 l V z a1 a2 (pz 0) (pz 5) (pz 6) (pz 7) (pz 8) (pz 9) (pz 10) (pz 11) (pz 12) (pz 13) (pz 14) (pz 18) (pz 19) (pz 22) (pz 23) (pz 29) (fz 0) (fz 4) (fz 5) (hp 5) (hp 6) (hp 7) (hp 8) (hp 10) (hp 11) (hp 12) (hp 13) (hp 14) (hp 18) (hp 22) (hp 29) hz_tz1 hz_tz16 hz_RW) mt_X10_takes q_7_3 ⟨Nat.le_of_ble_eq_true rfl, Nat.le_of_ble_eq_true rfl⟩ hP hD hS [0, 1, 5, 6] [0, 0, 3, 0] (by decide) (by decide +kernel) rfl 0 rfl rfl rfl rfl hlz rfl hro dL_law_415 hcs (fun r w H locs hw hPD hS => ?_)
  refine Exists.elim hw (fun v0 hw => ?_)
  refine Exists.elim hw (fun g1 hw => ?_)
  refine Exists.elim hw (fun g2 hw => ?_)
  refine And.elim (fun bg2 hw => ?_) hw
  refine And.elim (fun br hw => ?_) hw
  refine And.elim (fun g_0 hw => ?_) hw
  refine And.elim (fun et_0 hw => ?_) hw
  refine And.elim (fun et_1 hw => ?_) hw
  refine And.elim (fun et_2 hw => ?_) hw
  refine And.elim (fun et_3 hw => ?_) hw
  subst hw
  obtain ⟨hP, hD⟩ := hPD (wZ V z (up9 pz 0 v0) (up9 (up9 fz 4 g1) 5 g2) gz) rfl rfl
  replace hP := swP hP
  replace hD := swD hD
  exact kk r H locs (up9 pz 0 v0) (up9 (up9 fz 4 g1) 5 g2) gz _ ⟨(ivUp 0 hp (iv_top v0)), hz_tz1, hz_tz3, hz_tz4, bg2, hz_tz17, hz_tz20, hz_tz21, hz_tz24, hz_tz25, hz_tz26, hz_tz27, hz_tz33, hz_tz34, hz_tz37, hz_tz38, g_0, rfl⟩ ⟨(List.forall_mem_cons.mpr ⟨rfl, (List.forall_mem_cons.mpr ⟨rfl, (List.forall_mem_cons.mpr ⟨rfl, (fun _ h => absurd h List.not_mem_nil)⟩)⟩)⟩), (List.forall_mem_cons.mpr ⟨rfl, (List.forall_mem_cons.mpr ⟨rfl, (List.forall_mem_cons.mpr ⟨rfl, (List.forall_mem_cons.mpr ⟨rfl, (List.forall_mem_cons.mpr ⟨rfl, (fun _ h => absurd h List.not_mem_nil)⟩)⟩)⟩)⟩)⟩), (fun _ _ => rfl), et_0⟩ hP hD hS
theorem q_7_55 : Cond.code yX10_by prog_12_method_55_code 3 (some FieldType.int) ∈ gw := gw_7 (i := 55) (rfl) rfl
theorem q_7_53 : Cond.instanceMethod yX10_by ∈ gw := gw_7 (i := 53) (by decide +kernel) rfl
theorem q_7_54 : Cond.selects "BeaconDelayModel" yX10_by yX10_by ∈ gw := gw_7 (i := 54) (by decide +kernel) rfl
theorem mt_X10_by : MtV yX10_by cX10_by 3 (some .int) 2 := ⟨⟨q_7_55, q_1_9, by decide +kernel, by decide +kernel, by decide +kernel⟩, q_7_53, q_7_54⟩
theorem q_7_52 : Cond.methodLink "BeaconDelayLaw" 43 yX10_by ∈ gw := gw_7 (i := 52) (by decide +kernel) rfl
theorem dL_law_448 : decode cL_law 448 = .ok (.invokevirtual 43, 3) := by decide +kernel
set_option maxHeartbeats 4000000 in
set_option maxRecDepth 100000 in
theorem cz_6 {p : Program} {e : Env} {s : State} {m : MethodId} {below : List Frame} {meth : Method} {c : Code} {l : Launch} {b Lk : Nat} {xs : Nat → Int32} {V : GV} {z : Nat → Nat} {H : Heap} {locs : List Loc} {cells slots : Nat} {wx : va_W} {ls : Array Slot} {rest : List Value} (G : LCx p s m meth c b Lk xs V) (a1 : Int32) (a2 : Int32) {pz : Nat → Int32} {fz : Nat → Nat → Int32} {gz : Nat → Nat → Int64} {wz : va_W} (kz : KZ V z pz fz gz wz) (hP : va_P V.1 vwCl (wx ++ wz) H) (hD : va_D (AAs s) (wx ++ wz)) (hS : va_S (AAs s) s.heap H locs) (hcs : cells + 0 ≤ 600000 ∧ slots + 0 ≤ 7302250) (hro : (rest.map fun v => v.category).sum ≤ 8) (hlz : ls.size = 4) (kk : (∀ (r : Int32) (H : Heap) (locs : List Loc) (pz' : Nat → Int32) (fz' : Nat → Nat → Int32) (gz' : Nat → Nat → Int64) (wz : va_W), KZ V z pz' fz' gz' wz → (∀ i ∈ [5, 13, 14], pz' i = pz i) ∧ (∀ i ∈ [0, 1, 2, 18, 19], fz' i = fz i) ∧ (∀ i ∈ [3], gz' i = gz i) ∧ (r = (F_k_X10_by_0 a1 a2 (fz 0) (fz 4) (fz 5)).1) → va_P V.1 vwCl (wx ++ wz) H → va_D (AAs s) (wx ++ wz) → va_S (AAs s) s.heap H locs → W p l e room_1 s m #[Value.ref b] below meth c H locs cells slots (lw_Z below #[Value.ref b] s) (F0 m 451 ls (.int r :: rest)))) : W p l e room_1 s m #[Value.ref b] below meth c H locs cells slots (lw_Z below #[Value.ref b] s) (F0 m 448 ls (.int a2 :: .int a1 :: .ref (z 0) :: rest)) := by
  obtain ⟨hp, hz_tz1, hz_tz3, hz_tz4, hz_tz16, hz_tz17, hz_tz20, hz_tz21, hz_tz24, hz_tz25, hz_tz26, hz_tz27, hz_tz33, hz_tz34, hz_tz37, hz_tz38, hz_RW, rfl⟩ := kz
  replace hP := swP hP
  replace hD := swD hD
  refine cSI (X := wZ V z pz fz gz) (pl := wx) (rest := rest) G (k_X10_by_0 l V z a1 a2 (pz 0) (pz 5) (pz 6) (pz 7) (pz 8) (pz 9) (pz 10) (pz 11) (pz 12) (pz 13) (pz 14) (pz 18) (pz 19) (pz 22) (pz 23) (pz 29) (fz 0) (fz 4) (fz 5) (hp 5) (hp 6) (hp 7) (hp 8) (hp 10) (hp 11) (hp 12) (hp 13) (hp 14) (hp 18) (hp 22) (hp 29) hz_tz1 hz_tz16 hz_RW) mt_X10_by q_7_52 ⟨Nat.le_of_ble_eq_true rfl, Nat.le_of_ble_eq_true rfl⟩ hP hD hS [0, 1, 5, 6] [0, 0, 3, 0] (by decide) (by decide +kernel) rfl 0 rfl rfl rfl rfl hlz rfl hro dL_law_448 hcs (fun r w H locs hw hPD hS => ?_)
  refine Exists.elim hw (fun v0 hw => ?_)
  refine Exists.elim hw (fun g1 hw => ?_)
  refine Exists.elim hw (fun g2 hw => ?_)
  refine And.elim (fun bg2 hw => ?_) hw
  refine And.elim (fun br hw => ?_) hw
  refine And.elim (fun g_0 hw => ?_) hw
  refine And.elim (fun et_0 hw => ?_) hw
  refine And.elim (fun et_1 hw => ?_) hw
  refine And.elim (fun et_2 hw => ?_) hw
  refine And.elim (fun et_3 hw => ?_) hw
  subst hw
  obtain ⟨hP, hD⟩ := hPD (wZ V z (up9 pz 0 v0) (up9 (up9 fz 4 g1) 5 g2) gz) rfl rfl
  replace hP := swP hP
  replace hD := swD hD
  exact kk r H locs (up9 pz 0 v0) (up9 (up9 fz 4 g1) 5 g2) gz _ ⟨(ivUp 0 hp (iv_top v0)), hz_tz1, hz_tz3, hz_tz4, bg2, hz_tz17, hz_tz20, hz_tz21, hz_tz24, hz_tz25, hz_tz26, hz_tz27, hz_tz33, hz_tz34, hz_tz37, hz_tz38, g_0, rfl⟩ ⟨(List.forall_mem_cons.mpr ⟨rfl, (List.forall_mem_cons.mpr ⟨rfl, (List.forall_mem_cons.mpr ⟨rfl, (fun _ h => absurd h List.not_mem_nil)⟩)⟩)⟩), (List.forall_mem_cons.mpr ⟨rfl, (List.forall_mem_cons.mpr ⟨rfl, (List.forall_mem_cons.mpr ⟨rfl, (List.forall_mem_cons.mpr ⟨rfl, (List.forall_mem_cons.mpr ⟨rfl, (fun _ h => absurd h List.not_mem_nil)⟩)⟩)⟩)⟩)⟩), (fun _ _ => rfl), et_0⟩ hP hD hS
theorem q_7_59 : Cond.code yX10_night prog_12_method_60_code 2 (some FieldType.int) ∈ gw := gw_7 (i := 59) (rfl) rfl
theorem q_7_57 : Cond.instanceMethod yX10_night ∈ gw := gw_7 (i := 57) (by decide +kernel) rfl
theorem q_7_58 : Cond.selects "BeaconDelayModel" yX10_night yX10_night ∈ gw := gw_7 (i := 58) (by decide +kernel) rfl
theorem mt_X10_night : MtV yX10_night cX10_night 2 (some .int) 1 := ⟨⟨q_7_59, q_1_9, by decide +kernel, by decide +kernel, by decide +kernel⟩, q_7_57, q_7_58⟩
theorem q_7_56 : Cond.methodLink "BeaconDelayLaw" 47 yX10_night ∈ gw := gw_7 (i := 56) (by decide +kernel) rfl
theorem dL_law_471 : decode cL_law 471 = .ok (.invokevirtual 47, 3) := by decide +kernel
set_option maxHeartbeats 4000000 in
set_option maxRecDepth 100000 in
theorem cz_7 {p : Program} {e : Env} {s : State} {m : MethodId} {below : List Frame} {meth : Method} {c : Code} {l : Launch} {b Lk : Nat} {xs : Nat → Int32} {V : GV} {z : Nat → Nat} {H : Heap} {locs : List Loc} {cells slots : Nat} {wx : va_W} {ls : Array Slot} {rest : List Value} (G : LCx p s m meth c b Lk xs V) (a1 : Int32) {pz : Nat → Int32} {fz : Nat → Nat → Int32} {gz : Nat → Nat → Int64} {wz : va_W} (kz : KZ V z pz fz gz wz) (hP : va_P V.1 vwCl (wx ++ wz) H) (hD : va_D (AAs s) (wx ++ wz)) (hS : va_S (AAs s) s.heap H locs) (hcs : cells + 0 ≤ 600000 ∧ slots + 0 ≤ 7302250) (hro : (rest.map fun v => v.category).sum ≤ 8) (hlz : ls.size = 4) (kk : (∀ (r : Int32) (H : Heap) (locs : List Loc) (pz' : Nat → Int32) (fz' : Nat → Nat → Int32) (gz' : Nat → Nat → Int64) (wz : va_W), KZ V z pz' fz' gz' wz → (∀ i ∈ [5, 13, 14], pz' i = pz i) ∧ (∀ i ∈ [1, 2, 18, 19], fz' i = fz i) ∧ (∀ i ∈ [3], gz' i = gz i) ∧ (r = (F_k_X10_night_0 a1 (fz 0) (fz 4) (fz 5) (fz 6)).1) ∧ (fz' 0 = (F_k_X10_night_0 a1 (fz 0) (fz 4) (fz 5) (fz 6)).2.2.1) → va_P V.1 vwCl (wx ++ wz) H → va_D (AAs s) (wx ++ wz) → va_S (AAs s) s.heap H locs → W p l e room_1 s m #[Value.ref b] below meth c H locs cells slots (lw_Z below #[Value.ref b] s) (F0 m 474 ls (.int r :: rest)))) : W p l e room_1 s m #[Value.ref b] below meth c H locs cells slots (lw_Z below #[Value.ref b] s) (F0 m 471 ls (.int a1 :: .ref (z 0) :: rest)) := by
  obtain ⟨hp, hz_tz1, hz_tz3, hz_tz4, hz_tz16, hz_tz17, hz_tz20, hz_tz21, hz_tz24, hz_tz25, hz_tz26, hz_tz27, hz_tz33, hz_tz34, hz_tz37, hz_tz38, hz_RW, rfl⟩ := kz
  replace hP := swP hP
  replace hD := swD hD
  refine cSI (X := wZ V z pz fz gz) (pl := wx) (rest := rest) G (k_X10_night_0 l V z a1 (pz 0) (pz 5) (pz 6) (pz 7) (pz 8) (pz 9) (pz 10) (pz 11) (pz 12) (pz 13) (pz 14) (pz 18) (pz 19) (pz 22) (pz 23) (pz 29) (fz 0) (fz 4) (fz 5) (fz 6) (hp 5) (hp 6) (hp 7) (hp 8) (hp 10) (hp 11) (hp 12) (hp 13) (hp 14) (hp 18) (hp 22) (hp 29) hz_tz1 hz_tz16 hz_tz17 hz_RW) mt_X10_night q_7_56 ⟨Nat.le_of_ble_eq_true rfl, Nat.le_of_ble_eq_true rfl⟩ hP hD hS [0, 1, 5, 6, 7] [0, 0, 3, 0, 0] (by decide) (by decide +kernel) rfl 0 rfl rfl rfl rfl hlz rfl hro dL_law_471 hcs (fun r w H locs hw hPD hS => ?_)
  refine Exists.elim hw (fun v0 hw => ?_)
  refine Exists.elim hw (fun g1 hw => ?_)
  refine Exists.elim hw (fun g2 hw => ?_)
  refine Exists.elim hw (fun g3 hw => ?_)
  refine Exists.elim hw (fun g4 hw => ?_)
  refine And.elim (fun bg1 hw => ?_) hw
  refine And.elim (fun bg3 hw => ?_) hw
  refine And.elim (fun bg4 hw => ?_) hw
  refine And.elim (fun br hw => ?_) hw
  refine And.elim (fun g_0 hw => ?_) hw
  refine And.elim (fun et_0 hw => ?_) hw
  refine And.elim (fun et_1 hw => ?_) hw
  refine And.elim (fun et_2 hw => ?_) hw
  refine And.elim (fun et_3 hw => ?_) hw
  refine And.elim (fun et_4 hw => ?_) hw
  refine And.elim (fun et_5 hw => ?_) hw
  subst hw
  obtain ⟨hP, hD⟩ := hPD (wZ V z (up9 pz 0 v0) (up9 (up9 (up9 (up9 fz 0 g1) 4 g2) 5 g3) 6 g4) gz) rfl rfl
  replace hP := swP hP
  replace hD := swD hD
  exact kk r H locs (up9 pz 0 v0) (up9 (up9 (up9 (up9 fz 0 g1) 4 g2) 5 g3) 6 g4) gz _ ⟨(ivUp 0 hp (iv_top v0)), bg1, hz_tz3, hz_tz4, bg3, bg4, hz_tz20, hz_tz21, hz_tz24, hz_tz25, hz_tz26, hz_tz27, hz_tz33, hz_tz34, hz_tz37, hz_tz38, g_0, rfl⟩ ⟨(List.forall_mem_cons.mpr ⟨rfl, (List.forall_mem_cons.mpr ⟨rfl, (List.forall_mem_cons.mpr ⟨rfl, (fun _ h => absurd h List.not_mem_nil)⟩)⟩)⟩), (List.forall_mem_cons.mpr ⟨rfl, (List.forall_mem_cons.mpr ⟨rfl, (List.forall_mem_cons.mpr ⟨rfl, (List.forall_mem_cons.mpr ⟨rfl, (fun _ h => absurd h List.not_mem_nil)⟩)⟩)⟩)⟩), (fun _ _ => rfl), et_0, et_2⟩ hP hD hS
theorem q_7_79 : Cond.code yX10_nights prog_12_method_61_code 3 (some FieldType.int) ∈ gw := gw_7 (i := 79) (rfl) rfl
theorem q_7_77 : Cond.instanceMethod yX10_nights ∈ gw := gw_7 (i := 77) (by decide +kernel) rfl
theorem q_7_78 : Cond.selects "BeaconDelayModel" yX10_nights yX10_nights ∈ gw := gw_7 (i := 78) (by decide +kernel) rfl
theorem mt_X10_nights : MtV yX10_nights cX10_nights 3 (some .int) 1 := ⟨⟨q_7_79, q_1_9, by decide +kernel, by decide +kernel, by decide +kernel⟩, q_7_77, q_7_78⟩
theorem q_7_76 : Cond.methodLink "BeaconDelayLaw" 51 yX10_nights ∈ gw := gw_7 (i := 76) (by decide +kernel) rfl
theorem dL_law_494 : decode cL_law 494 = .ok (.invokevirtual 51, 3) := by decide +kernel
set_option maxHeartbeats 4000000 in
set_option maxRecDepth 100000 in
theorem cz_8 {p : Program} {e : Env} {s : State} {m : MethodId} {below : List Frame} {meth : Method} {c : Code} {l : Launch} {b Lk : Nat} {xs : Nat → Int32} {V : GV} {z : Nat → Nat} {H : Heap} {locs : List Loc} {cells slots : Nat} {wx : va_W} {ls : Array Slot} {rest : List Value} (G : LCx p s m meth c b Lk xs V) (a1 : Int32) {pz : Nat → Int32} {fz : Nat → Nat → Int32} {gz : Nat → Nat → Int64} {wz : va_W} (kz : KZ V z pz fz gz wz) (hP : va_P V.1 vwCl (wx ++ wz) H) (hD : va_D (AAs s) (wx ++ wz)) (hS : va_S (AAs s) s.heap H locs) (hcs : cells + 0 ≤ 600000 ∧ slots + 0 ≤ 7302250) (hro : (rest.map fun v => v.category).sum ≤ 8) (hlz : ls.size = 4) (kk : (∀ (r : Int32) (H : Heap) (locs : List Loc) (pz' : Nat → Int32) (fz' : Nat → Nat → Int32) (gz' : Nat → Nat → Int64) (wz : va_W), KZ V z pz' fz' gz' wz → (∀ i ∈ [5, 13, 14], pz' i = pz i) ∧ (∀ i ∈ [1, 2, 18, 19], fz' i = fz i) ∧ (∀ i ∈ [3], gz' i = gz i) ∧ (r = (F_k_X10_nights_0 a1 (fz 0) (fz 4) (fz 5) (fz 6)).1) ∧ (fz' 0 = (F_k_X10_nights_0 a1 (fz 0) (fz 4) (fz 5) (fz 6)).2.2.1) → va_P V.1 vwCl (wx ++ wz) H → va_D (AAs s) (wx ++ wz) → va_S (AAs s) s.heap H locs → W p l e room_1 s m #[Value.ref b] below meth c H locs cells slots (lw_Z below #[Value.ref b] s) (F0 m 497 ls (.int r :: rest)))) : W p l e room_1 s m #[Value.ref b] below meth c H locs cells slots (lw_Z below #[Value.ref b] s) (F0 m 494 ls (.int a1 :: .ref (z 0) :: rest)) := by
  obtain ⟨hp, hz_tz1, hz_tz3, hz_tz4, hz_tz16, hz_tz17, hz_tz20, hz_tz21, hz_tz24, hz_tz25, hz_tz26, hz_tz27, hz_tz33, hz_tz34, hz_tz37, hz_tz38, hz_RW, rfl⟩ := kz
  replace hP := swP hP
  replace hD := swD hD
  refine cSI (X := wZ V z pz fz gz) (pl := wx) (rest := rest) G (k_X10_nights_0 l V z a1 (pz 0) (pz 5) (pz 6) (pz 7) (pz 8) (pz 9) (pz 10) (pz 11) (pz 12) (pz 13) (pz 14) (pz 18) (pz 19) (pz 22) (pz 23) (pz 29) (fz 0) (fz 4) (fz 5) (fz 6) (hp 5) (hp 6) (hp 7) (hp 8) (hp 10) (hp 11) (hp 12) (hp 13) (hp 14) (hp 18) (hp 22) (hp 29) hz_tz1 hz_tz16 hz_tz17 hz_RW) mt_X10_nights q_7_76 ⟨Nat.le_of_ble_eq_true rfl, Nat.le_of_ble_eq_true rfl⟩ hP hD hS [0, 1, 5, 6, 7] [0, 0, 3, 0, 0] (by decide) (by decide +kernel) rfl 0 rfl rfl rfl rfl hlz rfl hro dL_law_494 hcs (fun r w H locs hw hPD hS => ?_)
  refine Exists.elim hw (fun v0 hw => ?_)
  refine Exists.elim hw (fun g1 hw => ?_)
  refine Exists.elim hw (fun g2 hw => ?_)
  refine Exists.elim hw (fun g3 hw => ?_)
  refine Exists.elim hw (fun g4 hw => ?_)
  refine And.elim (fun bg1 hw => ?_) hw
  refine And.elim (fun bg3 hw => ?_) hw
  refine And.elim (fun bg4 hw => ?_) hw
  refine And.elim (fun br hw => ?_) hw
  refine And.elim (fun g_0 hw => ?_) hw
  refine And.elim (fun et_0 hw => ?_) hw
  refine And.elim (fun et_1 hw => ?_) hw
  refine And.elim (fun et_2 hw => ?_) hw
  refine And.elim (fun et_3 hw => ?_) hw
  refine And.elim (fun et_4 hw => ?_) hw
  refine And.elim (fun et_5 hw => ?_) hw
  subst hw
  obtain ⟨hP, hD⟩ := hPD (wZ V z (up9 pz 0 v0) (up9 (up9 (up9 (up9 fz 0 g1) 4 g2) 5 g3) 6 g4) gz) rfl rfl
  replace hP := swP hP
  replace hD := swD hD
  exact kk r H locs (up9 pz 0 v0) (up9 (up9 (up9 (up9 fz 0 g1) 4 g2) 5 g3) 6 g4) gz _ ⟨(ivUp 0 hp (iv_top v0)), bg1, hz_tz3, hz_tz4, bg3, bg4, hz_tz20, hz_tz21, hz_tz24, hz_tz25, hz_tz26, hz_tz27, hz_tz33, hz_tz34, hz_tz37, hz_tz38, g_0, rfl⟩ ⟨(List.forall_mem_cons.mpr ⟨rfl, (List.forall_mem_cons.mpr ⟨rfl, (List.forall_mem_cons.mpr ⟨rfl, (fun _ h => absurd h List.not_mem_nil)⟩)⟩)⟩), (List.forall_mem_cons.mpr ⟨rfl, (List.forall_mem_cons.mpr ⟨rfl, (List.forall_mem_cons.mpr ⟨rfl, (List.forall_mem_cons.mpr ⟨rfl, (fun _ h => absurd h List.not_mem_nil)⟩)⟩)⟩)⟩), (fun _ _ => rfl), et_0, et_2⟩ hP hD hS
theorem q_7_84 : Cond.code yX10_steal prog_12_method_64_code 3 (some FieldType.int) ∈ gw := gw_7 (i := 84) (rfl) rfl
theorem q_7_82 : Cond.instanceMethod yX10_steal ∈ gw := gw_7 (i := 82) (by decide +kernel) rfl
theorem q_7_83 : Cond.selects "BeaconDelayModel" yX10_steal yX10_steal ∈ gw := gw_7 (i := 83) (by decide +kernel) rfl
theorem mt_X10_steal : MtV yX10_steal cX10_steal 3 (some .int) 1 := ⟨⟨q_7_84, q_1_9, by decide +kernel, by decide +kernel, by decide +kernel⟩, q_7_82, q_7_83⟩
theorem q_7_81 : Cond.methodLink "BeaconDelayLaw" 55 yX10_steal ∈ gw := gw_7 (i := 81) (by decide +kernel) rfl
theorem dL_law_517 : decode cL_law 517 = .ok (.invokevirtual 55, 3) := by decide +kernel
set_option maxHeartbeats 4000000 in
set_option maxRecDepth 100000 in
theorem cz_9 {p : Program} {e : Env} {s : State} {m : MethodId} {below : List Frame} {meth : Method} {c : Code} {l : Launch} {b Lk : Nat} {xs : Nat → Int32} {V : GV} {z : Nat → Nat} {H : Heap} {locs : List Loc} {cells slots : Nat} {wx : va_W} {ls : Array Slot} {rest : List Value} (G : LCx p s m meth c b Lk xs V) (a1 : Int32) {pz : Nat → Int32} {fz : Nat → Nat → Int32} {gz : Nat → Nat → Int64} {wz : va_W} (kz : KZ V z pz fz gz wz) (hP : va_P V.1 vwCl (wx ++ wz) H) (hD : va_D (AAs s) (wx ++ wz)) (hS : va_S (AAs s) s.heap H locs) (hcs : cells + 0 ≤ 600000 ∧ slots + 0 ≤ 7302250) (hro : (rest.map fun v => v.category).sum ≤ 8) (hlz : ls.size = 4) (kk : (∀ (r : Int32) (H : Heap) (locs : List Loc) (pz' : Nat → Int32) (fz' : Nat → Nat → Int32) (gz' : Nat → Nat → Int64) (wz : va_W), KZ V z pz' fz' gz' wz → (∀ i ∈ [5, 13, 14], pz' i = pz i) ∧ (∀ i ∈ [1, 2, 18, 19], fz' i = fz i) ∧ (∀ i ∈ [3], gz' i = gz i) ∧ (r = (F_k_X10_steal_0 a1 (fz 0) (fz 6)).1) ∧ (fz' 0 = (F_k_X10_steal_0 a1 (fz 0) (fz 6)).2.2.1) → va_P V.1 vwCl (wx ++ wz) H → va_D (AAs s) (wx ++ wz) → va_S (AAs s) s.heap H locs → W p l e room_1 s m #[Value.ref b] below meth c H locs cells slots (lw_Z below #[Value.ref b] s) (F0 m 520 ls (.int r :: rest)))) : W p l e room_1 s m #[Value.ref b] below meth c H locs cells slots (lw_Z below #[Value.ref b] s) (F0 m 517 ls (.int a1 :: .ref (z 0) :: rest)) := by
  obtain ⟨hp, hz_tz1, hz_tz3, hz_tz4, hz_tz16, hz_tz17, hz_tz20, hz_tz21, hz_tz24, hz_tz25, hz_tz26, hz_tz27, hz_tz33, hz_tz34, hz_tz37, hz_tz38, hz_RW, rfl⟩ := kz
  replace hP := swP hP
  replace hD := swD hD
  refine cSI (X := wZ V z pz fz gz) (pl := wx) (rest := rest) G (k_X10_steal_0 l V z a1 (pz 0) (pz 5) (pz 6) (pz 7) (pz 8) (pz 9) (pz 10) (pz 11) (pz 12) (pz 13) (pz 14) (pz 18) (pz 19) (pz 22) (pz 23) (pz 29) (fz 0) (fz 6) (hp 5) (hp 6) (hp 7) (hp 8) (hp 10) (hp 11) (hp 12) (hp 13) (hp 14) (hp 18) (hp 22) (hp 29) hz_tz1 hz_tz17 hz_RW) mt_X10_steal q_7_81 ⟨Nat.le_of_ble_eq_true rfl, Nat.le_of_ble_eq_true rfl⟩ hP hD hS [0, 1, 7] [0, 0, 5] (by decide) (by decide +kernel) rfl 0 rfl rfl rfl rfl hlz rfl hro dL_law_517 hcs (fun r w H locs hw hPD hS => ?_)
  refine Exists.elim hw (fun v0 hw => ?_)
  refine Exists.elim hw (fun g1 hw => ?_)
  refine Exists.elim hw (fun g2 hw => ?_)
  refine And.elim (fun bg1 hw => ?_) hw
  refine And.elim (fun bg2 hw => ?_) hw
  refine And.elim (fun br hw => ?_) hw
  refine And.elim (fun g_0 hw => ?_) hw
  refine And.elim (fun et_0 hw => ?_) hw
  refine And.elim (fun et_1 hw => ?_) hw
  refine And.elim (fun et_2 hw => ?_) hw
  refine And.elim (fun et_3 hw => ?_) hw
  subst hw
  obtain ⟨hP, hD⟩ := hPD (wZ V z (up9 pz 0 v0) (up9 (up9 fz 0 g1) 6 g2) gz) rfl rfl
  replace hP := swP hP
  replace hD := swD hD
  exact kk r H locs (up9 pz 0 v0) (up9 (up9 fz 0 g1) 6 g2) gz _ ⟨(ivUp 0 hp (iv_top v0)), bg1, hz_tz3, hz_tz4, hz_tz16, bg2, hz_tz20, hz_tz21, hz_tz24, hz_tz25, hz_tz26, hz_tz27, hz_tz33, hz_tz34, hz_tz37, hz_tz38, g_0, rfl⟩ ⟨(List.forall_mem_cons.mpr ⟨rfl, (List.forall_mem_cons.mpr ⟨rfl, (List.forall_mem_cons.mpr ⟨rfl, (fun _ h => absurd h List.not_mem_nil)⟩)⟩)⟩), (List.forall_mem_cons.mpr ⟨rfl, (List.forall_mem_cons.mpr ⟨rfl, (List.forall_mem_cons.mpr ⟨rfl, (List.forall_mem_cons.mpr ⟨rfl, (fun _ h => absurd h List.not_mem_nil)⟩)⟩)⟩)⟩), (fun _ _ => rfl), et_0, et_2⟩ hP hD hS
theorem q_7_96 : Cond.code yX10_weather prog_12_method_65_code 2 (some FieldType.int) ∈ gw := gw_7 (i := 96) (rfl) rfl
theorem q_7_94 : Cond.instanceMethod yX10_weather ∈ gw := gw_7 (i := 94) (by decide +kernel) rfl
theorem q_7_95 : Cond.selects "BeaconDelayModel" yX10_weather yX10_weather ∈ gw := gw_7 (i := 95) (by decide +kernel) rfl
theorem mt_X10_weather : MtV yX10_weather cX10_weather 2 (some .int) 1 := ⟨⟨q_7_96, q_1_9, by decide +kernel, by decide +kernel, by decide +kernel⟩, q_7_94, q_7_95⟩
theorem q_7_93 : Cond.methodLink "BeaconDelayLaw" 59 yX10_weather ∈ gw := gw_7 (i := 93) (by decide +kernel) rfl
theorem dL_law_539 : decode cL_law 539 = .ok (.invokevirtual 59, 3) := by decide +kernel
set_option maxHeartbeats 4000000 in
set_option maxRecDepth 100000 in
theorem cz_10 {p : Program} {e : Env} {s : State} {m : MethodId} {below : List Frame} {meth : Method} {c : Code} {l : Launch} {b Lk : Nat} {xs : Nat → Int32} {V : GV} {z : Nat → Nat} {H : Heap} {locs : List Loc} {cells slots : Nat} {wx : va_W} {ls : Array Slot} {rest : List Value} (G : LCx p s m meth c b Lk xs V) (a1 : Int32) {pz : Nat → Int32} {fz : Nat → Nat → Int32} {gz : Nat → Nat → Int64} {wz : va_W} (kz : KZ V z pz fz gz wz) (hP : va_P V.1 vwCl (wx ++ wz) H) (hD : va_D (AAs s) (wx ++ wz)) (hS : va_S (AAs s) s.heap H locs) (hcs : cells + 0 ≤ 600000 ∧ slots + 0 ≤ 7302250) (hro : (rest.map fun v => v.category).sum ≤ 8) (hlz : ls.size = 4) (kk : (∀ (r : Int32) (H : Heap) (locs : List Loc) (pz' : Nat → Int32) (fz' : Nat → Nat → Int32) (gz' : Nat → Nat → Int64) (wz : va_W), KZ V z pz' fz' gz' wz → (∀ i ∈ [5, 13, 14], pz' i = pz i) ∧ (∀ i ∈ [1, 2, 18, 19], fz' i = fz i) ∧ (∀ i ∈ [3], gz' i = gz i) ∧ (r = (F_k_X10_weather_0 a1 (fz 0) (fz 6)).1) ∧ (fz' 0 = (F_k_X10_weather_0 a1 (fz 0) (fz 6)).2.2.1) → va_P V.1 vwCl (wx ++ wz) H → va_D (AAs s) (wx ++ wz) → va_S (AAs s) s.heap H locs → W p l e room_1 s m #[Value.ref b] below meth c H locs cells slots (lw_Z below #[Value.ref b] s) (F0 m 542 ls (.int r :: rest)))) : W p l e room_1 s m #[Value.ref b] below meth c H locs cells slots (lw_Z below #[Value.ref b] s) (F0 m 539 ls (.int a1 :: .ref (z 0) :: rest)) := by
  obtain ⟨hp, hz_tz1, hz_tz3, hz_tz4, hz_tz16, hz_tz17, hz_tz20, hz_tz21, hz_tz24, hz_tz25, hz_tz26, hz_tz27, hz_tz33, hz_tz34, hz_tz37, hz_tz38, hz_RW, rfl⟩ := kz
  replace hP := swP hP
  replace hD := swD hD
  refine cSI (X := wZ V z pz fz gz) (pl := wx) (rest := rest) G (k_X10_weather_0 l V z a1 (pz 0) (pz 5) (pz 6) (pz 7) (pz 8) (pz 9) (pz 10) (pz 11) (pz 12) (pz 13) (pz 14) (pz 18) (pz 19) (pz 22) (pz 23) (pz 29) (fz 0) (fz 6) (hp 5) (hp 6) (hp 7) (hp 8) (hp 10) (hp 11) (hp 12) (hp 13) (hp 14) (hp 18) (hp 22) (hp 29) hz_tz1 hz_tz17 hz_RW) mt_X10_weather q_7_93 ⟨Nat.le_of_ble_eq_true rfl, Nat.le_of_ble_eq_true rfl⟩ hP hD hS [0, 1, 7] [0, 0, 5] (by decide) (by decide +kernel) rfl 0 rfl rfl rfl rfl hlz rfl hro dL_law_539 hcs (fun r w H locs hw hPD hS => ?_)
  refine Exists.elim hw (fun v0 hw => ?_)
  refine Exists.elim hw (fun g1 hw => ?_)
  refine Exists.elim hw (fun g2 hw => ?_)
  refine And.elim (fun bg1 hw => ?_) hw
  refine And.elim (fun bg2 hw => ?_) hw
  refine And.elim (fun br hw => ?_) hw
  refine And.elim (fun g_0 hw => ?_) hw
  refine And.elim (fun et_0 hw => ?_) hw
  refine And.elim (fun et_1 hw => ?_) hw
  refine And.elim (fun et_2 hw => ?_) hw
  refine And.elim (fun et_3 hw => ?_) hw
  subst hw
  obtain ⟨hP, hD⟩ := hPD (wZ V z (up9 pz 0 v0) (up9 (up9 fz 0 g1) 6 g2) gz) rfl rfl
  replace hP := swP hP
  replace hD := swD hD
  exact kk r H locs (up9 pz 0 v0) (up9 (up9 fz 0 g1) 6 g2) gz _ ⟨(ivUp 0 hp (iv_top v0)), bg1, hz_tz3, hz_tz4, hz_tz16, bg2, hz_tz20, hz_tz21, hz_tz24, hz_tz25, hz_tz26, hz_tz27, hz_tz33, hz_tz34, hz_tz37, hz_tz38, g_0, rfl⟩ ⟨(List.forall_mem_cons.mpr ⟨rfl, (List.forall_mem_cons.mpr ⟨rfl, (List.forall_mem_cons.mpr ⟨rfl, (fun _ h => absurd h List.not_mem_nil)⟩)⟩)⟩), (List.forall_mem_cons.mpr ⟨rfl, (List.forall_mem_cons.mpr ⟨rfl, (List.forall_mem_cons.mpr ⟨rfl, (List.forall_mem_cons.mpr ⟨rfl, (fun _ h => absurd h List.not_mem_nil)⟩)⟩)⟩)⟩), (fun _ _ => rfl), et_0, et_2⟩ hP hD hS
theorem q_7_101 : Cond.code yX10_undo prog_12_method_66_code 3 (some FieldType.int) ∈ gw := gw_7 (i := 101) (rfl) rfl
theorem q_7_99 : Cond.instanceMethod yX10_undo ∈ gw := gw_7 (i := 99) (by decide +kernel) rfl
theorem q_7_100 : Cond.selects "BeaconDelayModel" yX10_undo yX10_undo ∈ gw := gw_7 (i := 100) (by decide +kernel) rfl
theorem mt_X10_undo : MtV yX10_undo cX10_undo 3 (some .int) 1 := ⟨⟨q_7_101, q_1_9, by decide +kernel, by decide +kernel, by decide +kernel⟩, q_7_99, q_7_100⟩
theorem q_7_98 : Cond.methodLink "BeaconDelayLaw" 63 yX10_undo ∈ gw := gw_7 (i := 98) (by decide +kernel) rfl
theorem dL_law_563 : decode cL_law 563 = .ok (.invokevirtual 63, 3) := by decide +kernel
set_option maxHeartbeats 4000000 in
set_option maxRecDepth 100000 in
theorem cz_11 {p : Program} {e : Env} {s : State} {m : MethodId} {below : List Frame} {meth : Method} {c : Code} {l : Launch} {b Lk : Nat} {xs : Nat → Int32} {V : GV} {z : Nat → Nat} {H : Heap} {locs : List Loc} {cells slots : Nat} {wx : va_W} {ls : Array Slot} {rest : List Value} (G : LCx p s m meth c b Lk xs V) (a1 : Int32) {pz : Nat → Int32} {fz : Nat → Nat → Int32} {gz : Nat → Nat → Int64} {wz : va_W} (kz : KZ V z pz fz gz wz) (hP : va_P V.1 vwCl (wx ++ wz) H) (hD : va_D (AAs s) (wx ++ wz)) (hS : va_S (AAs s) s.heap H locs) (hcs : cells + 0 ≤ 600000 ∧ slots + 0 ≤ 7302250) (hro : (rest.map fun v => v.category).sum ≤ 8) (hlz : ls.size = 4) (kk : (∀ (r : Int32) (H : Heap) (locs : List Loc) (pz' : Nat → Int32) (fz' : Nat → Nat → Int32) (gz' : Nat → Nat → Int64) (wz : va_W), KZ V z pz' fz' gz' wz → (∀ i ∈ [5, 13, 14], pz' i = pz i) ∧ (∀ i ∈ [1, 2, 18, 19], fz' i = fz i) ∧ (∀ i ∈ [3], gz' i = gz i) ∧ (r = (F_k_X10_undo_0 a1 (fz 0)).1) ∧ (fz' 0 = (F_k_X10_undo_0 a1 (fz 0)).2.2) → va_P V.1 vwCl (wx ++ wz) H → va_D (AAs s) (wx ++ wz) → va_S (AAs s) s.heap H locs → W p l e room_1 s m #[Value.ref b] below meth c H locs cells slots (lw_Z below #[Value.ref b] s) (F0 m 566 ls (.int r :: rest)))) : W p l e room_1 s m #[Value.ref b] below meth c H locs cells slots (lw_Z below #[Value.ref b] s) (F0 m 563 ls (.int a1 :: .ref (z 0) :: rest)) := by
  obtain ⟨hp, hz_tz1, hz_tz3, hz_tz4, hz_tz16, hz_tz17, hz_tz20, hz_tz21, hz_tz24, hz_tz25, hz_tz26, hz_tz27, hz_tz33, hz_tz34, hz_tz37, hz_tz38, hz_RW, rfl⟩ := kz
  replace hP := swP hP
  replace hD := swD hD
  refine cSI (X := wZ V z pz fz gz) (pl := wx) (rest := rest) G (k_X10_undo_0 l V z a1 (pz 0) (pz 5) (pz 6) (pz 7) (pz 8) (pz 9) (pz 10) (pz 11) (pz 12) (pz 13) (pz 14) (pz 18) (pz 19) (pz 22) (pz 23) (pz 29) (fz 0) (hp 5) (hp 6) (hp 7) (hp 8) (hp 10) (hp 11) (hp 12) (hp 13) (hp 14) (hp 18) (hp 22) (hp 29) hz_tz1 hz_RW) mt_X10_undo q_7_98 ⟨Nat.le_of_ble_eq_true rfl, Nat.le_of_ble_eq_true rfl⟩ hP hD hS [0, 1] [0, 0] (by decide) (by decide +kernel) rfl 0 rfl rfl rfl rfl hlz rfl hro dL_law_563 hcs (fun r w H locs hw hPD hS => ?_)
  refine Exists.elim hw (fun v0 hw => ?_)
  refine Exists.elim hw (fun g1 hw => ?_)
  refine And.elim (fun bg1 hw => ?_) hw
  refine And.elim (fun br hw => ?_) hw
  refine And.elim (fun g_0 hw => ?_) hw
  refine And.elim (fun et_0 hw => ?_) hw
  refine And.elim (fun et_1 hw => ?_) hw
  refine And.elim (fun et_2 hw => ?_) hw
  subst hw
  obtain ⟨hP, hD⟩ := hPD (wZ V z (up9 pz 0 v0) (up9 fz 0 g1) gz) rfl rfl
  replace hP := swP hP
  replace hD := swD hD
  exact kk r H locs (up9 pz 0 v0) (up9 fz 0 g1) gz _ ⟨(ivUp 0 hp (iv_top v0)), bg1, hz_tz3, hz_tz4, hz_tz16, hz_tz17, hz_tz20, hz_tz21, hz_tz24, hz_tz25, hz_tz26, hz_tz27, hz_tz33, hz_tz34, hz_tz37, hz_tz38, g_0, rfl⟩ ⟨(List.forall_mem_cons.mpr ⟨rfl, (List.forall_mem_cons.mpr ⟨rfl, (List.forall_mem_cons.mpr ⟨rfl, (fun _ h => absurd h List.not_mem_nil)⟩)⟩)⟩), (List.forall_mem_cons.mpr ⟨rfl, (List.forall_mem_cons.mpr ⟨rfl, (List.forall_mem_cons.mpr ⟨rfl, (List.forall_mem_cons.mpr ⟨rfl, (fun _ h => absurd h List.not_mem_nil)⟩)⟩)⟩)⟩), (fun _ _ => rfl), et_0, et_2⟩ hP hD hS
theorem q_7_106 : Cond.code yX10_judge prog_12_method_71_code 6 (some FieldType.int) ∈ gw := gw_7 (i := 106) (rfl) rfl
theorem q_7_104 : Cond.instanceMethod yX10_judge ∈ gw := gw_7 (i := 104) (by decide +kernel) rfl
theorem q_7_105 : Cond.selects "BeaconDelayModel" yX10_judge yX10_judge ∈ gw := gw_7 (i := 105) (by decide +kernel) rfl
theorem mt_X10_judge : MtV yX10_judge cX10_judge 6 (some .int) 2 := ⟨⟨q_7_106, q_1_9, by decide +kernel, by decide +kernel, by decide +kernel⟩, q_7_104, q_7_105⟩
theorem q_7_103 : Cond.methodLink "BeaconDelayLaw" 67 yX10_judge ∈ gw := gw_7 (i := 103) (by decide +kernel) rfl
theorem dL_law_596 : decode cL_law 596 = .ok (.invokevirtual 67, 3) := by decide +kernel
set_option maxHeartbeats 4000000 in
set_option maxRecDepth 100000 in
theorem cz_12 {p : Program} {e : Env} {s : State} {m : MethodId} {below : List Frame} {meth : Method} {c : Code} {l : Launch} {b Lk : Nat} {xs : Nat → Int32} {V : GV} {z : Nat → Nat} {H : Heap} {locs : List Loc} {cells slots : Nat} {wx : va_W} {ls : Array Slot} {rest : List Value} (G : LCx p s m meth c b Lk xs V) (a1 : Int32) (a2 : Int32) {pz : Nat → Int32} {fz : Nat → Nat → Int32} {gz : Nat → Nat → Int64} {wz : va_W} (kz : KZ V z pz fz gz wz) (hP : va_P V.1 vwCl (wx ++ wz) H) (hD : va_D (AAs s) (wx ++ wz)) (hS : va_S (AAs s) s.heap H locs) (hcs : cells + 0 ≤ 600000 ∧ slots + 0 ≤ 7302250) (hro : (rest.map fun v => v.category).sum ≤ 8) (hlz : ls.size = 4) (kk : (∀ (r : Int32) (H : Heap) (locs : List Loc) (pz' : Nat → Int32) (fz' : Nat → Nat → Int32) (gz' : Nat → Nat → Int64) (wz : va_W), KZ V z pz' fz' gz' wz → (∀ i ∈ [5, 13, 14], pz' i = pz i) ∧ (∀ i ∈ [1, 2, 18, 19], fz' i = fz i) ∧ (∀ i ∈ [3], gz' i = gz i) ∧ (r = (F_k_X10_judge_0 a1 a2 (pz 18) (fz 0) (fz 4) (fz 5) (fz 6) (fz 18) (fz 19) (gz 3)).1) ∧ (fz' 0 = (F_k_X10_judge_0 a1 a2 (pz 18) (fz 0) (fz 4) (fz 5) (fz 6) (fz 18) (fz 19) (gz 3)).2.2.2.1) → va_P V.1 vwCl (wx ++ wz) H → va_D (AAs s) (wx ++ wz) → va_S (AAs s) s.heap H locs → W p l e room_1 s m #[Value.ref b] below meth c H locs cells slots (lw_Z below #[Value.ref b] s) (F0 m 599 ls (.int r :: rest)))) : W p l e room_1 s m #[Value.ref b] below meth c H locs cells slots (lw_Z below #[Value.ref b] s) (F0 m 596 ls (.int a2 :: .int a1 :: .ref (z 0) :: rest)) := by
  obtain ⟨hp, hz_tz1, hz_tz3, hz_tz4, hz_tz16, hz_tz17, hz_tz20, hz_tz21, hz_tz24, hz_tz25, hz_tz26, hz_tz27, hz_tz33, hz_tz34, hz_tz37, hz_tz38, hz_RW, rfl⟩ := kz
  replace hP := swP hP
  replace hD := swD hD
  refine cSI (X := wZ V z pz fz gz) (pl := wx) (rest := rest) G (k_X10_judge_0 l V z a1 a2 (pz 0) (pz 5) (pz 6) (pz 7) (pz 8) (pz 9) (pz 10) (pz 11) (pz 12) (pz 13) (pz 14) (pz 18) (pz 19) (pz 22) (pz 23) (pz 29) (fz 0) (fz 4) (fz 5) (fz 6) (fz 18) (fz 19) (gz 3) (hp 5) (hp 6) (hp 7) (hp 8) (hp 10) (hp 11) (hp 12) (hp 13) (hp 14) (hp 18) (hp 22) (hp 29) hz_tz1 hz_tz16 hz_tz17 hz_tz37 hz_tz38 hz_RW) mt_X10_judge q_7_103 ⟨Nat.le_of_ble_eq_true rfl, Nat.le_of_ble_eq_true rfl⟩ hP hD hS [0, 1, 5, 6, 7, 22, 23, 24] [0, 0, 3, 0, 0, 14, 0, 0] (by decide) (by decide +kernel) rfl 0 rfl rfl rfl rfl hlz rfl hro dL_law_596 hcs (fun r w H locs hw hPD hS => ?_)
  refine Exists.elim hw (fun v0 hw => ?_)
  refine Exists.elim hw (fun v1 hw => ?_)
  refine Exists.elim hw (fun g2 hw => ?_)
  refine Exists.elim hw (fun g3 hw => ?_)
  refine Exists.elim hw (fun g4 hw => ?_)
  refine Exists.elim hw (fun g5 hw => ?_)
  refine And.elim (fun bv1 hw => ?_) hw
  refine And.elim (fun bg2 hw => ?_) hw
  refine And.elim (fun bg4 hw => ?_) hw
  refine And.elim (fun bg5 hw => ?_) hw
  refine And.elim (fun g_0 hw => ?_) hw
  refine And.elim (fun et_0 hw => ?_) hw
  refine And.elim (fun et_1 hw => ?_) hw
  refine And.elim (fun et_2 hw => ?_) hw
  refine And.elim (fun et_3 hw => ?_) hw
  refine And.elim (fun et_4 hw => ?_) hw
  refine And.elim (fun et_5 hw => ?_) hw
  refine And.elim (fun et_6 hw => ?_) hw
  subst hw
  obtain ⟨hP, hD⟩ := hPD (wZ V z (up9 (up9 pz 0 v0) 18 v1) (up9 (up9 (up9 (up9 fz 0 g2) 4 g3) 5 g4) 6 g5) gz) rfl rfl
  replace hP := swP hP
  replace hD := swD hD
  exact kk r H locs (up9 (up9 pz 0 v0) 18 v1) (up9 (up9 (up9 (up9 fz 0 g2) 4 g3) 5 g4) 6 g5) gz _ ⟨(ivUp 18 (ivUp 0 hp (iv_top v0)) bv1), bg2, hz_tz3, hz_tz4, bg4, bg5, hz_tz20, hz_tz21, hz_tz24, hz_tz25, hz_tz26, hz_tz27, hz_tz33, hz_tz34, hz_tz37, hz_tz38, g_0, rfl⟩ ⟨(List.forall_mem_cons.mpr ⟨rfl, (List.forall_mem_cons.mpr ⟨rfl, (List.forall_mem_cons.mpr ⟨rfl, (fun _ h => absurd h List.not_mem_nil)⟩)⟩)⟩), (List.forall_mem_cons.mpr ⟨rfl, (List.forall_mem_cons.mpr ⟨rfl, (List.forall_mem_cons.mpr ⟨rfl, (List.forall_mem_cons.mpr ⟨rfl, (fun _ h => absurd h List.not_mem_nil)⟩)⟩)⟩)⟩), (fun _ _ => rfl), et_0, et_3⟩ hP hD hS
theorem q_7_138 : Cond.code yX10_perform prog_12_method_72_code 4 (some FieldType.int) ∈ gw := gw_7 (i := 138) (rfl) rfl
theorem q_7_136 : Cond.instanceMethod yX10_perform ∈ gw := gw_7 (i := 136) (by decide +kernel) rfl
theorem q_7_137 : Cond.selects "BeaconDelayModel" yX10_perform yX10_perform ∈ gw := gw_7 (i := 137) (by decide +kernel) rfl
theorem mt_X10_perform : MtV yX10_perform cX10_perform 4 (some .int) 1 := ⟨⟨q_7_138, q_1_9, by decide +kernel, by decide +kernel, by decide +kernel⟩, q_7_136, q_7_137⟩
theorem q_7_135 : Cond.methodLink "BeaconDelayLaw" 71 yX10_perform ∈ gw := gw_7 (i := 135) (by decide +kernel) rfl
theorem dL_law_619 : decode cL_law 619 = .ok (.invokevirtual 71, 3) := by decide +kernel
set_option maxHeartbeats 4000000 in
set_option maxRecDepth 100000 in
theorem cz_13 {p : Program} {e : Env} {s : State} {m : MethodId} {below : List Frame} {meth : Method} {c : Code} {l : Launch} {b Lk : Nat} {xs : Nat → Int32} {V : GV} {z : Nat → Nat} {H : Heap} {locs : List Loc} {cells slots : Nat} {wx : va_W} {ls : Array Slot} {rest : List Value} (G : LCx p s m meth c b Lk xs V) (a1 : Int32) {pz : Nat → Int32} {fz : Nat → Nat → Int32} {gz : Nat → Nat → Int64} {wz : va_W} (kz : KZ V z pz fz gz wz) (hP : va_P V.1 vwCl (wx ++ wz) H) (hD : va_D (AAs s) (wx ++ wz)) (hS : va_S (AAs s) s.heap H locs) (hcs : cells + 0 ≤ 600000 ∧ slots + 0 ≤ 7302250) (hro : (rest.map fun v => v.category).sum ≤ 8) (hlz : ls.size = 4) (kk : (∀ (r : Int32) (H : Heap) (locs : List Loc) (pz' : Nat → Int32) (fz' : Nat → Nat → Int32) (gz' : Nat → Nat → Int64) (wz : va_W), KZ V z pz' fz' gz' wz → (∀ i ∈ [5, 13, 14], pz' i = pz i) ∧ (∀ i ∈ [1, 2, 18, 19], fz' i = fz i) ∧ (∀ i ∈ [3], gz' i = gz i) ∧ (r = (F_k_X10_perform_0 a1 (pz 18) (fz 0) (fz 4) (fz 5) (fz 6) (fz 18) (fz 19) (gz 3)).1) ∧ (fz' 0 = (F_k_X10_perform_0 a1 (pz 18) (fz 0) (fz 4) (fz 5) (fz 6) (fz 18) (fz 19) (gz 3)).2.2.2.1) → va_P V.1 vwCl (wx ++ wz) H → va_D (AAs s) (wx ++ wz) → va_S (AAs s) s.heap H locs → W p l e room_1 s m #[Value.ref b] below meth c H locs cells slots (lw_Z below #[Value.ref b] s) (F0 m 622 ls (.int r :: rest)))) : W p l e room_1 s m #[Value.ref b] below meth c H locs cells slots (lw_Z below #[Value.ref b] s) (F0 m 619 ls (.int a1 :: .ref (z 0) :: rest)) := by
  obtain ⟨hp, hz_tz1, hz_tz3, hz_tz4, hz_tz16, hz_tz17, hz_tz20, hz_tz21, hz_tz24, hz_tz25, hz_tz26, hz_tz27, hz_tz33, hz_tz34, hz_tz37, hz_tz38, hz_RW, rfl⟩ := kz
  replace hP := swP hP
  replace hD := swD hD
  refine cSI (X := wZ V z pz fz gz) (pl := wx) (rest := rest) G (k_X10_perform_0 l V z a1 (pz 0) (pz 5) (pz 6) (pz 7) (pz 8) (pz 9) (pz 10) (pz 11) (pz 12) (pz 13) (pz 14) (pz 18) (pz 19) (pz 22) (pz 23) (pz 29) (fz 0) (fz 4) (fz 5) (fz 6) (fz 18) (fz 19) (gz 3) (hp 5) (hp 6) (hp 7) (hp 8) (hp 10) (hp 11) (hp 12) (hp 13) (hp 14) (hp 18) (hp 22) (hp 29) hz_tz1 hz_tz16 hz_tz17 hz_tz37 hz_tz38 hz_RW) mt_X10_perform q_7_135 ⟨Nat.le_of_ble_eq_true rfl, Nat.le_of_ble_eq_true rfl⟩ hP hD hS [0, 1, 5, 6, 7, 22, 23, 24] [0, 0, 3, 0, 0, 14, 0, 0] (by decide) (by decide +kernel) rfl 0 rfl rfl rfl rfl hlz rfl hro dL_law_619 hcs (fun r w H locs hw hPD hS => ?_)
  refine Exists.elim hw (fun v0 hw => ?_)
  refine Exists.elim hw (fun v1 hw => ?_)
  refine Exists.elim hw (fun g2 hw => ?_)
  refine Exists.elim hw (fun g3 hw => ?_)
  refine Exists.elim hw (fun g4 hw => ?_)
  refine Exists.elim hw (fun g5 hw => ?_)
  refine And.elim (fun bv1 hw => ?_) hw
  refine And.elim (fun bg2 hw => ?_) hw
  refine And.elim (fun bg4 hw => ?_) hw
  refine And.elim (fun bg5 hw => ?_) hw
  refine And.elim (fun br hw => ?_) hw
  refine And.elim (fun g_0 hw => ?_) hw
  refine And.elim (fun et_0 hw => ?_) hw
  refine And.elim (fun et_1 hw => ?_) hw
  refine And.elim (fun et_2 hw => ?_) hw
  refine And.elim (fun et_3 hw => ?_) hw
  refine And.elim (fun et_4 hw => ?_) hw
  refine And.elim (fun et_5 hw => ?_) hw
  refine And.elim (fun et_6 hw => ?_) hw
  subst hw
  obtain ⟨hP, hD⟩ := hPD (wZ V z (up9 (up9 pz 0 v0) 18 v1) (up9 (up9 (up9 (up9 fz 0 g2) 4 g3) 5 g4) 6 g5) gz) rfl rfl
  replace hP := swP hP
  replace hD := swD hD
  exact kk r H locs (up9 (up9 pz 0 v0) 18 v1) (up9 (up9 (up9 (up9 fz 0 g2) 4 g3) 5 g4) 6 g5) gz _ ⟨(ivUp 18 (ivUp 0 hp (iv_top v0)) bv1), bg2, hz_tz3, hz_tz4, bg4, bg5, hz_tz20, hz_tz21, hz_tz24, hz_tz25, hz_tz26, hz_tz27, hz_tz33, hz_tz34, hz_tz37, hz_tz38, g_0, rfl⟩ ⟨(List.forall_mem_cons.mpr ⟨rfl, (List.forall_mem_cons.mpr ⟨rfl, (List.forall_mem_cons.mpr ⟨rfl, (fun _ h => absurd h List.not_mem_nil)⟩)⟩)⟩), (List.forall_mem_cons.mpr ⟨rfl, (List.forall_mem_cons.mpr ⟨rfl, (List.forall_mem_cons.mpr ⟨rfl, (List.forall_mem_cons.mpr ⟨rfl, (fun _ h => absurd h List.not_mem_nil)⟩)⟩)⟩)⟩), (fun _ _ => rfl), et_0, et_3⟩ hP hD hS
theorem q_7_142 : Cond.code yX10_century prog_12_method_75_code 6 (some FieldType.int) ∈ gw := gw_7 (i := 142) (rfl) rfl
theorem q_7_140 : Cond.instanceMethod yX10_century ∈ gw := gw_7 (i := 140) (by decide +kernel) rfl
theorem q_7_141 : Cond.selects "BeaconDelayModel" yX10_century yX10_century ∈ gw := gw_7 (i := 141) (by decide +kernel) rfl
theorem mt_X10_century : MtV yX10_century cX10_century 6 (some .int) 2 := ⟨⟨q_7_142, q_1_9, by decide +kernel, by decide +kernel, by decide +kernel⟩, q_7_140, q_7_141⟩
theorem q_7_139 : Cond.methodLink "BeaconDelayLaw" 75 yX10_century ∈ gw := gw_7 (i := 139) (by decide +kernel) rfl
theorem dL_law_652 : decode cL_law 652 = .ok (.invokevirtual 75, 3) := by decide +kernel
set_option maxHeartbeats 4000000 in
set_option maxRecDepth 100000 in
theorem cz_14 {p : Program} {e : Env} {s : State} {m : MethodId} {below : List Frame} {meth : Method} {c : Code} {l : Launch} {b Lk : Nat} {xs : Nat → Int32} {V : GV} {z : Nat → Nat} {H : Heap} {locs : List Loc} {cells slots : Nat} {wx : va_W} {ls : Array Slot} {rest : List Value} (G : LCx p s m meth c b Lk xs V) (a1 : Int32) (a2 : Int32) {pz : Nat → Int32} {fz : Nat → Nat → Int32} {gz : Nat → Nat → Int64} {wz : va_W} (kz : KZ V z pz fz gz wz) (hP : va_P V.1 vwCl (wx ++ wz) H) (hD : va_D (AAs s) (wx ++ wz)) (hS : va_S (AAs s) s.heap H locs) (hcs : cells + 0 ≤ 600000 ∧ slots + 0 ≤ 7302250) (hro : (rest.map fun v => v.category).sum ≤ 8) (hlz : ls.size = 4) (kk : (∀ (r : Int32) (H : Heap) (locs : List Loc) (pz' : Nat → Int32) (fz' : Nat → Nat → Int32) (gz' : Nat → Nat → Int64) (wz : va_W), KZ V z pz' fz' gz' wz → (∀ i ∈ [5, 13, 14], pz' i = pz i) ∧ (∀ i ∈ [1, 2, 18, 19], fz' i = fz i) ∧ (∀ i ∈ [3], gz' i = gz i) ∧ (r = (F_k_X10_century_0 a1 a2 (pz 19) (fz 0) (fz 4) (fz 5) (fz 6)).1) ∧ (fz' 0 = (F_k_X10_century_0 a1 a2 (pz 19) (fz 0) (fz 4) (fz 5) (fz 6)).2.2.2.1) → va_P V.1 vwCl (wx ++ wz) H → va_D (AAs s) (wx ++ wz) → va_S (AAs s) s.heap H locs → W p l e room_1 s m #[Value.ref b] below meth c H locs cells slots (lw_Z below #[Value.ref b] s) (F0 m 655 ls (.int r :: rest)))) : W p l e room_1 s m #[Value.ref b] below meth c H locs cells slots (lw_Z below #[Value.ref b] s) (F0 m 652 ls (.int a2 :: .int a1 :: .ref (z 0) :: rest)) := by
  obtain ⟨hp, hz_tz1, hz_tz3, hz_tz4, hz_tz16, hz_tz17, hz_tz20, hz_tz21, hz_tz24, hz_tz25, hz_tz26, hz_tz27, hz_tz33, hz_tz34, hz_tz37, hz_tz38, hz_RW, rfl⟩ := kz
  replace hP := swP hP
  replace hD := swD hD
  refine cSI (X := wZ V z pz fz gz) (pl := wx) (rest := rest) G (k_X10_century_0 l V z a1 a2 (pz 0) (pz 5) (pz 6) (pz 7) (pz 8) (pz 9) (pz 10) (pz 11) (pz 12) (pz 13) (pz 14) (pz 18) (pz 19) (pz 22) (pz 23) (pz 29) (fz 0) (fz 4) (fz 5) (fz 6) (hp 5) (hp 6) (hp 7) (hp 8) (hp 10) (hp 11) (hp 12) (hp 13) (hp 14) (hp 18) (hp 22) (hp 29) hz_tz1 hz_tz16 hz_tz17 hz_RW) mt_X10_century q_7_139 ⟨Nat.le_of_ble_eq_true rfl, Nat.le_of_ble_eq_true rfl⟩ hP hD hS [0, 1, 5, 6, 7] [0, 0, 3, 0, 0] (by decide) (by decide +kernel) rfl 0 rfl rfl rfl rfl hlz rfl hro dL_law_652 hcs (fun r w H locs hw hPD hS => ?_)
  refine Exists.elim hw (fun v0 hw => ?_)
  refine Exists.elim hw (fun v1 hw => ?_)
  refine Exists.elim hw (fun g2 hw => ?_)
  refine Exists.elim hw (fun g3 hw => ?_)
  refine Exists.elim hw (fun g4 hw => ?_)
  refine Exists.elim hw (fun g5 hw => ?_)
  refine And.elim (fun bg2 hw => ?_) hw
  refine And.elim (fun bg4 hw => ?_) hw
  refine And.elim (fun bg5 hw => ?_) hw
  refine And.elim (fun g_0 hw => ?_) hw
  refine And.elim (fun et_0 hw => ?_) hw
  refine And.elim (fun et_1 hw => ?_) hw
  refine And.elim (fun et_2 hw => ?_) hw
  refine And.elim (fun et_3 hw => ?_) hw
  refine And.elim (fun et_4 hw => ?_) hw
  refine And.elim (fun et_5 hw => ?_) hw
  refine And.elim (fun et_6 hw => ?_) hw
  subst hw
  obtain ⟨hP, hD⟩ := hPD (wZ V z (up9 (up9 pz 0 v0) 19 v1) (up9 (up9 (up9 (up9 fz 0 g2) 4 g3) 5 g4) 6 g5) gz) rfl rfl
  replace hP := swP hP
  replace hD := swD hD
  exact kk r H locs (up9 (up9 pz 0 v0) 19 v1) (up9 (up9 (up9 (up9 fz 0 g2) 4 g3) 5 g4) 6 g5) gz _ ⟨(ivUp 19 (ivUp 0 hp (iv_top v0)) (iv_top v1)), bg2, hz_tz3, hz_tz4, bg4, bg5, hz_tz20, hz_tz21, hz_tz24, hz_tz25, hz_tz26, hz_tz27, hz_tz33, hz_tz34, hz_tz37, hz_tz38, g_0, rfl⟩ ⟨(List.forall_mem_cons.mpr ⟨rfl, (List.forall_mem_cons.mpr ⟨rfl, (List.forall_mem_cons.mpr ⟨rfl, (fun _ h => absurd h List.not_mem_nil)⟩)⟩)⟩), (List.forall_mem_cons.mpr ⟨rfl, (List.forall_mem_cons.mpr ⟨rfl, (List.forall_mem_cons.mpr ⟨rfl, (List.forall_mem_cons.mpr ⟨rfl, (fun _ h => absurd h List.not_mem_nil)⟩)⟩)⟩)⟩), (fun _ _ => rfl), et_0, et_3⟩ hP hD hS
theorem q_7_156 : Cond.code yX10_lies prog_12_method_78_code 3 (some FieldType.int) ∈ gw := gw_7 (i := 156) (rfl) rfl
theorem q_7_154 : Cond.instanceMethod yX10_lies ∈ gw := gw_7 (i := 154) (by decide +kernel) rfl
theorem q_7_155 : Cond.selects "BeaconDelayModel" yX10_lies yX10_lies ∈ gw := gw_7 (i := 155) (by decide +kernel) rfl
theorem mt_X10_lies : MtV yX10_lies cX10_lies 3 (some .int) 2 := ⟨⟨q_7_156, q_1_9, by decide +kernel, by decide +kernel, by decide +kernel⟩, q_7_154, q_7_155⟩
theorem q_7_153 : Cond.methodLink "BeaconDelayLaw" 79 yX10_lies ∈ gw := gw_7 (i := 153) (by decide +kernel) rfl
theorem dL_law_685 : decode cL_law 685 = .ok (.invokevirtual 79, 3) := by decide +kernel
set_option maxHeartbeats 4000000 in
set_option maxRecDepth 100000 in
theorem cz_15 {p : Program} {e : Env} {s : State} {m : MethodId} {below : List Frame} {meth : Method} {c : Code} {l : Launch} {b Lk : Nat} {xs : Nat → Int32} {V : GV} {z : Nat → Nat} {H : Heap} {locs : List Loc} {cells slots : Nat} {wx : va_W} {ls : Array Slot} {rest : List Value} (G : LCx p s m meth c b Lk xs V) (a1 : Int32) (a2 : Int32) {pz : Nat → Int32} {fz : Nat → Nat → Int32} {gz : Nat → Nat → Int64} {wz : va_W} (kz : KZ V z pz fz gz wz) (hP : va_P V.1 vwCl (wx ++ wz) H) (hD : va_D (AAs s) (wx ++ wz)) (hS : va_S (AAs s) s.heap H locs) (hcs : cells + 0 ≤ 600000 ∧ slots + 0 ≤ 7302250) (hro : (rest.map fun v => v.category).sum ≤ 8) (hlz : ls.size = 4) (kk : (∀ (r : Int32) (H : Heap) (locs : List Loc) (pz' : Nat → Int32) (fz' : Nat → Nat → Int32) (gz' : Nat → Nat → Int64) (wz : va_W), KZ V z pz' fz' gz' wz → (∀ i ∈ [5, 13, 14], pz' i = pz i) ∧ (∀ i ∈ [0, 1, 2, 18, 19], fz' i = fz i) ∧ (∀ i ∈ [3], gz' i = gz i) → va_P V.1 vwCl (wx ++ wz) H → va_D (AAs s) (wx ++ wz) → va_S (AAs s) s.heap H locs → W p l e room_1 s m #[Value.ref b] below meth c H locs cells slots (lw_Z below #[Value.ref b] s) (F0 m 688 ls (.int r :: rest)))) : W p l e room_1 s m #[Value.ref b] below meth c H locs cells slots (lw_Z below #[Value.ref b] s) (F0 m 685 ls (.int a2 :: .int a1 :: .ref (z 0) :: rest)) := by
  obtain ⟨hp, hz_tz1, hz_tz3, hz_tz4, hz_tz16, hz_tz17, hz_tz20, hz_tz21, hz_tz24, hz_tz25, hz_tz26, hz_tz27, hz_tz33, hz_tz34, hz_tz37, hz_tz38, hz_RW, rfl⟩ := kz
  replace hP := swP hP
  replace hD := swD hD
  refine cSI (X := wZ V z pz fz gz) (pl := wx) (rest := rest) G (k_X10_lies_0 l V z a1 a2 (pz 0) (pz 5) (pz 6) (pz 7) (pz 8) (pz 9) (pz 10) (pz 11) (pz 12) (pz 13) (pz 14) (pz 18) (pz 19) (pz 22) (pz 23) (pz 29) (fz 0) (fz 4) (fz 5) (fz 7) (fz 8) (hp 5) (hp 6) (hp 7) (hp 8) (hp 10) (hp 11) (hp 12) (hp 13) (hp 14) (hp 18) (hp 22) (hp 29) hz_tz1 hz_tz16 hz_tz20 hz_tz21 hz_RW) mt_X10_lies q_7_153 ⟨Nat.le_of_ble_eq_true rfl, Nat.le_of_ble_eq_true rfl⟩ hP hD hS [0, 1, 5, 6, 8, 9] [0, 0, 3, 0, 1, 0] (by decide) (by decide +kernel) rfl 0 rfl rfl rfl rfl hlz rfl hro dL_law_685 hcs (fun r w H locs hw hPD hS => ?_)
  refine Exists.elim hw (fun v0 hw => ?_)
  refine Exists.elim hw (fun v1 hw => ?_)
  refine Exists.elim hw (fun v2 hw => ?_)
  refine Exists.elim hw (fun g3 hw => ?_)
  refine Exists.elim hw (fun g4 hw => ?_)
  refine Exists.elim hw (fun g5 hw => ?_)
  refine Exists.elim hw (fun g6 hw => ?_)
  refine And.elim (fun bv1 hw => ?_) hw
  refine And.elim (fun bg4 hw => ?_) hw
  refine And.elim (fun bg5 hw => ?_) hw
  refine And.elim (fun bg6 hw => ?_) hw
  refine And.elim (fun br hw => ?_) hw
  refine And.elim (fun g_0 hw => ?_) hw
  subst hw
  obtain ⟨hP, hD⟩ := hPD (wZ V z (up9 (up9 (up9 pz 0 v0) 22 v1) 23 v2) (up9 (up9 (up9 (up9 fz 4 g3) 5 g4) 7 g5) 8 g6) gz) rfl rfl
  replace hP := swP hP
  replace hD := swD hD
  exact kk r H locs (up9 (up9 (up9 pz 0 v0) 22 v1) 23 v2) (up9 (up9 (up9 (up9 fz 4 g3) 5 g4) 7 g5) 8 g6) gz _ ⟨(ivUp 23 (ivUp 22 (ivUp 0 hp (iv_top v0)) bv1) (iv_top v2)), hz_tz1, hz_tz3, hz_tz4, bg4, hz_tz17, bg5, bg6, hz_tz24, hz_tz25, hz_tz26, hz_tz27, hz_tz33, hz_tz34, hz_tz37, hz_tz38, g_0, rfl⟩ ⟨(List.forall_mem_cons.mpr ⟨rfl, (List.forall_mem_cons.mpr ⟨rfl, (List.forall_mem_cons.mpr ⟨rfl, (fun _ h => absurd h List.not_mem_nil)⟩)⟩)⟩), (List.forall_mem_cons.mpr ⟨rfl, (List.forall_mem_cons.mpr ⟨rfl, (List.forall_mem_cons.mpr ⟨rfl, (List.forall_mem_cons.mpr ⟨rfl, (List.forall_mem_cons.mpr ⟨rfl, (fun _ h => absurd h List.not_mem_nil)⟩)⟩)⟩)⟩)⟩), (fun _ _ => rfl)⟩ hP hD hS
theorem q_7_169 : Cond.code yX10_round prog_12_method_79_code 2 (some FieldType.int) ∈ gw := gw_7 (i := 169) (rfl) rfl
theorem q_7_167 : Cond.instanceMethod yX10_round ∈ gw := gw_7 (i := 167) (by decide +kernel) rfl
theorem q_7_168 : Cond.selects "BeaconDelayModel" yX10_round yX10_round ∈ gw := gw_7 (i := 168) (by decide +kernel) rfl
theorem mt_X10_round : MtV yX10_round cX10_round 2 (some .int) 1 := ⟨⟨q_7_169, q_1_9, by decide +kernel, by decide +kernel, by decide +kernel⟩, q_7_167, q_7_168⟩
theorem q_7_166 : Cond.methodLink "BeaconDelayLaw" 83 yX10_round ∈ gw := gw_7 (i := 166) (by decide +kernel) rfl
theorem dL_law_708 : decode cL_law 708 = .ok (.invokevirtual 83, 3) := by decide +kernel
set_option maxHeartbeats 4000000 in
set_option maxRecDepth 100000 in
theorem cz_16 {p : Program} {e : Env} {s : State} {m : MethodId} {below : List Frame} {meth : Method} {c : Code} {l : Launch} {b Lk : Nat} {xs : Nat → Int32} {V : GV} {z : Nat → Nat} {H : Heap} {locs : List Loc} {cells slots : Nat} {wx : va_W} {ls : Array Slot} {rest : List Value} (G : LCx p s m meth c b Lk xs V) (a1 : Int32) {pz : Nat → Int32} {fz : Nat → Nat → Int32} {gz : Nat → Nat → Int64} {wz : va_W} (kz : KZ V z pz fz gz wz) (hP : va_P V.1 vwCl (wx ++ wz) H) (hD : va_D (AAs s) (wx ++ wz)) (hS : va_S (AAs s) s.heap H locs) (hcs : cells + 0 ≤ 600000 ∧ slots + 0 ≤ 7302250) (hro : (rest.map fun v => v.category).sum ≤ 8) (hlz : ls.size = 4) (kk : (∀ (r : Int32) (H : Heap) (locs : List Loc) (pz' : Nat → Int32) (fz' : Nat → Nat → Int32) (gz' : Nat → Nat → Int64) (wz : va_W), KZ V z pz' fz' gz' wz → (∀ i ∈ [5, 13, 14], pz' i = pz i) ∧ (∀ i ∈ [0, 1, 2, 18, 19], fz' i = fz i) ∧ (∀ i ∈ [3], gz' i = gz i) → va_P V.1 vwCl (wx ++ wz) H → va_D (AAs s) (wx ++ wz) → va_S (AAs s) s.heap H locs → W p l e room_1 s m #[Value.ref b] below meth c H locs cells slots (lw_Z below #[Value.ref b] s) (F0 m 711 ls (.int r :: rest)))) : W p l e room_1 s m #[Value.ref b] below meth c H locs cells slots (lw_Z below #[Value.ref b] s) (F0 m 708 ls (.int a1 :: .ref (z 0) :: rest)) := by
  obtain ⟨hp, hz_tz1, hz_tz3, hz_tz4, hz_tz16, hz_tz17, hz_tz20, hz_tz21, hz_tz24, hz_tz25, hz_tz26, hz_tz27, hz_tz33, hz_tz34, hz_tz37, hz_tz38, hz_RW, rfl⟩ := kz
  replace hP := swP hP
  replace hD := swD hD
  refine cSI (X := wZ V z pz fz gz) (pl := wx) (rest := rest) G (k_X10_round_0 l V z a1 (pz 0) (pz 5) (pz 6) (pz 7) (pz 8) (pz 9) (pz 10) (pz 11) (pz 12) (pz 13) (pz 14) (pz 18) (pz 19) (pz 22) (pz 23) (pz 29) (fz 0) (fz 4) (fz 5) (fz 7) (fz 8) (hp 5) (hp 6) (hp 7) (hp 8) (hp 10) (hp 11) (hp 12) (hp 13) (hp 14) (hp 18) (hp 22) (hp 29) hz_tz1 hz_tz16 hz_tz20 hz_tz21 hz_RW) mt_X10_round q_7_166 ⟨Nat.le_of_ble_eq_true rfl, Nat.le_of_ble_eq_true rfl⟩ hP hD hS [0, 1, 5, 6, 8, 9] [0, 0, 3, 0, 1, 0] (by decide) (by decide +kernel) rfl 0 rfl rfl rfl rfl hlz rfl hro dL_law_708 hcs (fun r w H locs hw hPD hS => ?_)
  refine Exists.elim hw (fun v0 hw => ?_)
  refine Exists.elim hw (fun v1 hw => ?_)
  refine Exists.elim hw (fun v2 hw => ?_)
  refine Exists.elim hw (fun g3 hw => ?_)
  refine Exists.elim hw (fun g4 hw => ?_)
  refine Exists.elim hw (fun g5 hw => ?_)
  refine Exists.elim hw (fun g6 hw => ?_)
  refine And.elim (fun bv1 hw => ?_) hw
  refine And.elim (fun bg4 hw => ?_) hw
  refine And.elim (fun bg5 hw => ?_) hw
  refine And.elim (fun bg6 hw => ?_) hw
  refine And.elim (fun g_0 hw => ?_) hw
  subst hw
  obtain ⟨hP, hD⟩ := hPD (wZ V z (up9 (up9 (up9 pz 0 v0) 22 v1) 23 v2) (up9 (up9 (up9 (up9 fz 4 g3) 5 g4) 7 g5) 8 g6) gz) rfl rfl
  replace hP := swP hP
  replace hD := swD hD
  exact kk r H locs (up9 (up9 (up9 pz 0 v0) 22 v1) 23 v2) (up9 (up9 (up9 (up9 fz 4 g3) 5 g4) 7 g5) 8 g6) gz _ ⟨(ivUp 23 (ivUp 22 (ivUp 0 hp (iv_top v0)) bv1) (iv_top v2)), hz_tz1, hz_tz3, hz_tz4, bg4, hz_tz17, bg5, bg6, hz_tz24, hz_tz25, hz_tz26, hz_tz27, hz_tz33, hz_tz34, hz_tz37, hz_tz38, g_0, rfl⟩ ⟨(List.forall_mem_cons.mpr ⟨rfl, (List.forall_mem_cons.mpr ⟨rfl, (List.forall_mem_cons.mpr ⟨rfl, (fun _ h => absurd h List.not_mem_nil)⟩)⟩)⟩), (List.forall_mem_cons.mpr ⟨rfl, (List.forall_mem_cons.mpr ⟨rfl, (List.forall_mem_cons.mpr ⟨rfl, (List.forall_mem_cons.mpr ⟨rfl, (List.forall_mem_cons.mpr ⟨rfl, (fun _ h => absurd h List.not_mem_nil)⟩)⟩)⟩)⟩)⟩), (fun _ _ => rfl)⟩ hP hD hS
theorem q_7_173 : Cond.code yX10_bare prog_12_method_80_code 2 (some FieldType.int) ∈ gw := gw_7 (i := 173) (rfl) rfl
theorem q_7_171 : Cond.instanceMethod yX10_bare ∈ gw := gw_7 (i := 171) (by decide +kernel) rfl
theorem q_7_172 : Cond.selects "BeaconDelayModel" yX10_bare yX10_bare ∈ gw := gw_7 (i := 172) (by decide +kernel) rfl
theorem mt_X10_bare : MtV yX10_bare cX10_bare 2 (some .int) 0 := ⟨⟨q_7_173, q_1_9, by decide +kernel, by decide +kernel, by decide +kernel⟩, q_7_171, q_7_172⟩
theorem q_7_170 : Cond.methodLink "BeaconDelayLaw" 88 yX10_bare ∈ gw := gw_7 (i := 170) (by decide +kernel) rfl
theorem dL_law_721 : decode cL_law 721 = .ok (.invokevirtual 88, 3) := by decide +kernel
set_option maxHeartbeats 4000000 in
set_option maxRecDepth 100000 in
theorem cz_17 {p : Program} {e : Env} {s : State} {m : MethodId} {below : List Frame} {meth : Method} {c : Code} {l : Launch} {b Lk : Nat} {xs : Nat → Int32} {V : GV} {z : Nat → Nat} {H : Heap} {locs : List Loc} {cells slots : Nat} {wx : va_W} {ls : Array Slot} {rest : List Value} (G : LCx p s m meth c b Lk xs V)  {pz : Nat → Int32} {fz : Nat → Nat → Int32} {gz : Nat → Nat → Int64} {wz : va_W} (kz : KZ V z pz fz gz wz) (hP : va_P V.1 vwCl (wx ++ wz) H) (hD : va_D (AAs s) (wx ++ wz)) (hS : va_S (AAs s) s.heap H locs) (hcs : cells + 0 ≤ 600000 ∧ slots + 0 ≤ 7302250) (hro : (rest.map fun v => v.category).sum ≤ 8) (hlz : ls.size = 4) (kk : (∀ (r : Int32) (H : Heap) (locs : List Loc) (pz' : Nat → Int32) (fz' : Nat → Nat → Int32) (gz' : Nat → Nat → Int64) (wz : va_W), KZ V z pz' fz' gz' wz → (∀ i ∈ [5, 13, 14], pz' i = pz i) ∧ (∀ i ∈ [0, 1, 2, 18, 19], fz' i = fz i) ∧ (∀ i ∈ [3], gz' i = gz i) → va_P V.1 vwCl (wx ++ wz) H → va_D (AAs s) (wx ++ wz) → va_S (AAs s) s.heap H locs → W p l e room_1 s m #[Value.ref b] below meth c H locs cells slots (lw_Z below #[Value.ref b] s) (F0 m 724 ls (.int r :: rest)))) : W p l e room_1 s m #[Value.ref b] below meth c H locs cells slots (lw_Z below #[Value.ref b] s) (F0 m 721 ls (.ref (z 0) :: rest)) := by
  obtain ⟨hp, hz_tz1, hz_tz3, hz_tz4, hz_tz16, hz_tz17, hz_tz20, hz_tz21, hz_tz24, hz_tz25, hz_tz26, hz_tz27, hz_tz33, hz_tz34, hz_tz37, hz_tz38, hz_RW, rfl⟩ := kz
  replace hP := swP hP
  replace hD := swD hD
  refine cSI (X := wZ V z pz fz gz) (pl := wx) (rest := rest) G (k_X10_bare_0 l V z (pz 0) (pz 5) (pz 6) (pz 7) (pz 8) (pz 9) (pz 10) (pz 11) (pz 12) (pz 13) (pz 14) (pz 18) (pz 19) (pz 22) (pz 23) (pz 29) (fz 0) (fz 4) (fz 5) (fz 7) (fz 8) (hp 5) (hp 6) (hp 7) (hp 8) (hp 10) (hp 11) (hp 12) (hp 13) (hp 14) (hp 18) (hp 22) (hp 29) hz_tz1 hz_tz16 hz_tz20 hz_tz21 hz_RW) mt_X10_bare q_7_170 ⟨Nat.le_of_ble_eq_true rfl, Nat.le_of_ble_eq_true rfl⟩ hP hD hS [0, 1, 5, 6, 8, 9] [0, 0, 3, 0, 1, 0] (by decide) (by decide +kernel) rfl 0 rfl rfl rfl rfl hlz rfl hro dL_law_721 hcs (fun r w H locs hw hPD hS => ?_)
  refine Exists.elim hw (fun v0 hw => ?_)
  refine Exists.elim hw (fun v1 hw => ?_)
  refine Exists.elim hw (fun v2 hw => ?_)
  refine Exists.elim hw (fun g3 hw => ?_)
  refine Exists.elim hw (fun g4 hw => ?_)
  refine Exists.elim hw (fun g5 hw => ?_)
  refine Exists.elim hw (fun g6 hw => ?_)
  refine And.elim (fun bv1 hw => ?_) hw
  refine And.elim (fun bg4 hw => ?_) hw
  refine And.elim (fun bg5 hw => ?_) hw
  refine And.elim (fun bg6 hw => ?_) hw
  refine And.elim (fun br hw => ?_) hw
  refine And.elim (fun g_0 hw => ?_) hw
  subst hw
  obtain ⟨hP, hD⟩ := hPD (wZ V z (up9 (up9 (up9 pz 0 v0) 22 v1) 23 v2) (up9 (up9 (up9 (up9 fz 4 g3) 5 g4) 7 g5) 8 g6) gz) rfl rfl
  replace hP := swP hP
  replace hD := swD hD
  exact kk r H locs (up9 (up9 (up9 pz 0 v0) 22 v1) 23 v2) (up9 (up9 (up9 (up9 fz 4 g3) 5 g4) 7 g5) 8 g6) gz _ ⟨(ivUp 23 (ivUp 22 (ivUp 0 hp (iv_top v0)) bv1) (iv_top v2)), hz_tz1, hz_tz3, hz_tz4, bg4, hz_tz17, bg5, bg6, hz_tz24, hz_tz25, hz_tz26, hz_tz27, hz_tz33, hz_tz34, hz_tz37, hz_tz38, g_0, rfl⟩ ⟨(List.forall_mem_cons.mpr ⟨rfl, (List.forall_mem_cons.mpr ⟨rfl, (List.forall_mem_cons.mpr ⟨rfl, (fun _ h => absurd h List.not_mem_nil)⟩)⟩)⟩), (List.forall_mem_cons.mpr ⟨rfl, (List.forall_mem_cons.mpr ⟨rfl, (List.forall_mem_cons.mpr ⟨rfl, (List.forall_mem_cons.mpr ⟨rfl, (List.forall_mem_cons.mpr ⟨rfl, (fun _ h => absurd h List.not_mem_nil)⟩)⟩)⟩)⟩)⟩), (fun _ _ => rfl)⟩ hP hD hS
theorem q_7_177 : Cond.code yX10_rests prog_12_method_81_code 5 (some FieldType.int) ∈ gw := gw_7 (i := 177) (rfl) rfl
theorem q_7_175 : Cond.instanceMethod yX10_rests ∈ gw := gw_7 (i := 175) (by decide +kernel) rfl
theorem q_7_176 : Cond.selects "BeaconDelayModel" yX10_rests yX10_rests ∈ gw := gw_7 (i := 176) (by decide +kernel) rfl
theorem mt_X10_rests : MtV yX10_rests cX10_rests 5 (some .int) 0 := ⟨⟨q_7_177, q_1_9, by decide +kernel, by decide +kernel, by decide +kernel⟩, q_7_175, q_7_176⟩
theorem q_7_174 : Cond.methodLink "BeaconDelayLaw" 92 yX10_rests ∈ gw := gw_7 (i := 174) (by decide +kernel) rfl
theorem dL_law_734 : decode cL_law 734 = .ok (.invokevirtual 92, 3) := by decide +kernel
set_option maxHeartbeats 4000000 in
set_option maxRecDepth 100000 in
theorem cz_18 {p : Program} {e : Env} {s : State} {m : MethodId} {below : List Frame} {meth : Method} {c : Code} {l : Launch} {b Lk : Nat} {xs : Nat → Int32} {V : GV} {z : Nat → Nat} {H : Heap} {locs : List Loc} {cells slots : Nat} {wx : va_W} {ls : Array Slot} {rest : List Value} (G : LCx p s m meth c b Lk xs V)  {pz : Nat → Int32} {fz : Nat → Nat → Int32} {gz : Nat → Nat → Int64} {wz : va_W} (kz : KZ V z pz fz gz wz) (hP : va_P V.1 vwCl (wx ++ wz) H) (hD : va_D (AAs s) (wx ++ wz)) (hS : va_S (AAs s) s.heap H locs) (hcs : cells + 0 ≤ 600000 ∧ slots + 0 ≤ 7302250) (hro : (rest.map fun v => v.category).sum ≤ 8) (hlz : ls.size = 4) (kk : (∀ (r : Int32) (H : Heap) (locs : List Loc) (pz' : Nat → Int32) (fz' : Nat → Nat → Int32) (gz' : Nat → Nat → Int64) (wz : va_W), KZ V z pz' fz' gz' wz → (∀ i ∈ [5, 13, 14], pz' i = pz i) ∧ (∀ i ∈ [0, 1, 2, 18, 19], fz' i = fz i) ∧ (∀ i ∈ [3], gz' i = gz i) → va_P V.1 vwCl (wx ++ wz) H → va_D (AAs s) (wx ++ wz) → va_S (AAs s) s.heap H locs → W p l e room_1 s m #[Value.ref b] below meth c H locs cells slots (lw_Z below #[Value.ref b] s) (F0 m 737 ls (.int r :: rest)))) : W p l e room_1 s m #[Value.ref b] below meth c H locs cells slots (lw_Z below #[Value.ref b] s) (F0 m 734 ls (.ref (z 0) :: rest)) := by
  obtain ⟨hp, hz_tz1, hz_tz3, hz_tz4, hz_tz16, hz_tz17, hz_tz20, hz_tz21, hz_tz24, hz_tz25, hz_tz26, hz_tz27, hz_tz33, hz_tz34, hz_tz37, hz_tz38, hz_RW, rfl⟩ := kz
  replace hP := swP hP
  replace hD := swD hD
  refine cSI (X := wZ V z pz fz gz) (pl := wx) (rest := rest) G (k_X10_rests_0 l V z (pz 0) (pz 5) (pz 6) (pz 7) (pz 8) (pz 9) (pz 10) (pz 11) (pz 12) (pz 13) (pz 14) (pz 18) (pz 19) (pz 22) (pz 23) (pz 29) (fz 0) (fz 4) (fz 5) (hp 5) (hp 6) (hp 7) (hp 8) (hp 10) (hp 11) (hp 12) (hp 13) (hp 14) (hp 18) (hp 22) (hp 29) hz_tz1 hz_tz16 hz_RW) mt_X10_rests q_7_174 ⟨Nat.le_of_ble_eq_true rfl, Nat.le_of_ble_eq_true rfl⟩ hP hD hS [0, 1, 5, 6] [0, 0, 3, 0] (by decide) (by decide +kernel) rfl 0 rfl rfl rfl rfl hlz rfl hro dL_law_734 hcs (fun r w H locs hw hPD hS => ?_)
  refine Exists.elim hw (fun v0 hw => ?_)
  refine Exists.elim hw (fun g1 hw => ?_)
  refine Exists.elim hw (fun g2 hw => ?_)
  refine And.elim (fun bg2 hw => ?_) hw
  refine And.elim (fun g_0 hw => ?_) hw
  subst hw
  obtain ⟨hP, hD⟩ := hPD (wZ V z (up9 pz 0 v0) (up9 (up9 fz 4 g1) 5 g2) gz) rfl rfl
  replace hP := swP hP
  replace hD := swD hD
  exact kk r H locs (up9 pz 0 v0) (up9 (up9 fz 4 g1) 5 g2) gz _ ⟨(ivUp 0 hp (iv_top v0)), hz_tz1, hz_tz3, hz_tz4, bg2, hz_tz17, hz_tz20, hz_tz21, hz_tz24, hz_tz25, hz_tz26, hz_tz27, hz_tz33, hz_tz34, hz_tz37, hz_tz38, g_0, rfl⟩ ⟨(List.forall_mem_cons.mpr ⟨rfl, (List.forall_mem_cons.mpr ⟨rfl, (List.forall_mem_cons.mpr ⟨rfl, (fun _ h => absurd h List.not_mem_nil)⟩)⟩)⟩), (List.forall_mem_cons.mpr ⟨rfl, (List.forall_mem_cons.mpr ⟨rfl, (List.forall_mem_cons.mpr ⟨rfl, (List.forall_mem_cons.mpr ⟨rfl, (List.forall_mem_cons.mpr ⟨rfl, (fun _ h => absurd h List.not_mem_nil)⟩)⟩)⟩)⟩)⟩), (fun _ _ => rfl)⟩ hP hD hS
theorem q_7_181 : Cond.code yX10_soonest prog_12_method_89_code 4 (some FieldType.int) ∈ gw := gw_7 (i := 181) (rfl) rfl
theorem q_7_179 : Cond.instanceMethod yX10_soonest ∈ gw := gw_7 (i := 179) (by decide +kernel) rfl
theorem q_7_180 : Cond.selects "BeaconDelayModel" yX10_soonest yX10_soonest ∈ gw := gw_7 (i := 180) (by decide +kernel) rfl
theorem mt_X10_soonest : MtV yX10_soonest cX10_soonest 4 (some .int) 2 := ⟨⟨q_7_181, q_1_9, by decide +kernel, by decide +kernel, by decide +kernel⟩, q_7_179, q_7_180⟩
theorem q_7_178 : Cond.methodLink "BeaconDelayLaw" 96 yX10_soonest ∈ gw := gw_7 (i := 178) (by decide +kernel) rfl
theorem dL_law_767 : decode cL_law 767 = .ok (.invokevirtual 96, 3) := by decide +kernel
set_option maxHeartbeats 4000000 in
set_option maxRecDepth 100000 in
theorem cz_19 {p : Program} {e : Env} {s : State} {m : MethodId} {below : List Frame} {meth : Method} {c : Code} {l : Launch} {b Lk : Nat} {xs : Nat → Int32} {V : GV} {z : Nat → Nat} {H : Heap} {locs : List Loc} {cells slots : Nat} {wx : va_W} {ls : Array Slot} {rest : List Value} (G : LCx p s m meth c b Lk xs V) (a1 : Int32) (a2 : Int32) {pz : Nat → Int32} {fz : Nat → Nat → Int32} {gz : Nat → Nat → Int64} {wz : va_W} (kz : KZ V z pz fz gz wz) (hP : va_P V.1 vwCl (wx ++ wz) H) (hD : va_D (AAs s) (wx ++ wz)) (hS : va_S (AAs s) s.heap H locs) (hcs : cells + 0 ≤ 600000 ∧ slots + 0 ≤ 7302250) (hro : (rest.map fun v => v.category).sum ≤ 8) (hlz : ls.size = 4) (kk : (∀ (r : Int32) (H : Heap) (locs : List Loc) (pz' : Nat → Int32) (fz' : Nat → Nat → Int32) (gz' : Nat → Nat → Int64) (wz : va_W), KZ V z pz' fz' gz' wz → (∀ i ∈ [5, 13, 14], pz' i = pz i) ∧ (∀ i ∈ [0, 1, 2, 18, 19], fz' i = fz i) ∧ (∀ i ∈ [3], gz' i = gz i) → va_P V.1 vwCl (wx ++ wz) H → va_D (AAs s) (wx ++ wz) → va_S (AAs s) s.heap H locs → W p l e room_1 s m #[Value.ref b] below meth c H locs cells slots (lw_Z below #[Value.ref b] s) (F0 m 770 ls (.int r :: rest)))) : W p l e room_1 s m #[Value.ref b] below meth c H locs cells slots (lw_Z below #[Value.ref b] s) (F0 m 767 ls (.int a2 :: .int a1 :: .ref (z 0) :: rest)) := by
  obtain ⟨hp, hz_tz1, hz_tz3, hz_tz4, hz_tz16, hz_tz17, hz_tz20, hz_tz21, hz_tz24, hz_tz25, hz_tz26, hz_tz27, hz_tz33, hz_tz34, hz_tz37, hz_tz38, hz_RW, rfl⟩ := kz
  replace hP := swP hP
  replace hD := swD hD
  refine cSI (X := wZ V z pz fz gz) (pl := wx) (rest := rest) G (k_X10_soonest_0 l V z a1 a2 (pz 0) (pz 5) (pz 6) (pz 7) (pz 8) (pz 9) (pz 10) (pz 11) (pz 12) (pz 13) (pz 14) (pz 18) (pz 19) (pz 22) (pz 23) (pz 29) (fz 0) (fz 4) (fz 5) (fz 9) (fz 10) (fz 11) (fz 13) (hp 5) (hp 6) (hp 7) (hp 8) (hp 10) (hp 11) (hp 12) (hp 13) (hp 14) (hp 18) (hp 22) (hp 29) hz_tz1 hz_tz16 hz_tz24 hz_tz25 hz_tz26 hz_RW) mt_X10_soonest q_7_178 ⟨Nat.le_of_ble_eq_true rfl, Nat.le_of_ble_eq_true rfl⟩ hP hD hS [0, 1, 5, 6, 10, 11, 12, 14] [0, 0, 3, 0, 3, 0, 0, 1] (by decide) (by decide +kernel) rfl 0 rfl rfl rfl rfl hlz rfl hro dL_law_767 hcs (fun r w H locs hw hPD hS => ?_)
  refine Exists.elim hw (fun v0 hw => ?_)
  refine Exists.elim hw (fun v1 hw => ?_)
  refine Exists.elim hw (fun g2 hw => ?_)
  refine Exists.elim hw (fun g3 hw => ?_)
  refine Exists.elim hw (fun g4 hw => ?_)
  refine Exists.elim hw (fun g5 hw => ?_)
  refine Exists.elim hw (fun g6 hw => ?_)
  refine Exists.elim hw (fun g7 hw => ?_)
  refine And.elim (fun bv1 hw => ?_) hw
  refine And.elim (fun bg3 hw => ?_) hw
  refine And.elim (fun bg4 hw => ?_) hw
  refine And.elim (fun bg5 hw => ?_) hw
  refine And.elim (fun bg6 hw => ?_) hw
  refine And.elim (fun g_0 hw => ?_) hw
  subst hw
  obtain ⟨hP, hD⟩ := hPD (wZ V z (up9 (up9 pz 0 v0) 29 v1) (br9 14 (br9 7 (br9 3 fz (br9 5 (br9 4 fz (lf9 g2)) (br9 6 (lf9 g3) fz))) (br9 10 (br9 8 fz (br9 9 fz (lf9 g4))) (br9 12 (br9 11 (lf9 g5) (lf9 g6)) (br9 13 fz (lf9 g7))))) fz) gz) rfl rfl
  replace hP := swP hP
  replace hD := swD hD
  exact kk r H locs (up9 (up9 pz 0 v0) 29 v1) (br9 14 (br9 7 (br9 3 fz (br9 5 (br9 4 fz (lf9 g2)) (br9 6 (lf9 g3) fz))) (br9 10 (br9 8 fz (br9 9 fz (lf9 g4))) (br9 12 (br9 11 (lf9 g5) (lf9 g6)) (br9 13 fz (lf9 g7))))) fz) gz _ ⟨(ivUp 29 (ivUp 0 hp (iv_top v0)) bv1), hz_tz1, hz_tz3, hz_tz4, bg3, hz_tz17, hz_tz20, hz_tz21, bg4, bg5, bg6, hz_tz27, hz_tz33, hz_tz34, hz_tz37, hz_tz38, g_0, rfl⟩ ⟨(List.forall_mem_cons.mpr ⟨rfl, (List.forall_mem_cons.mpr ⟨rfl, (List.forall_mem_cons.mpr ⟨rfl, (fun _ h => absurd h List.not_mem_nil)⟩)⟩)⟩), (List.forall_mem_cons.mpr ⟨rfl, (List.forall_mem_cons.mpr ⟨rfl, (List.forall_mem_cons.mpr ⟨rfl, (List.forall_mem_cons.mpr ⟨rfl, (List.forall_mem_cons.mpr ⟨rfl, (fun _ h => absurd h List.not_mem_nil)⟩)⟩)⟩)⟩)⟩), (fun _ _ => rfl)⟩ hP hD hS
theorem q_7_213 : Cond.code yX10_way prog_12_method_90_code 8 (some FieldType.int) ∈ gw := gw_7 (i := 213) (rfl) rfl
theorem q_7_211 : Cond.instanceMethod yX10_way ∈ gw := gw_7 (i := 211) (by decide +kernel) rfl
theorem q_7_212 : Cond.selects "BeaconDelayModel" yX10_way yX10_way ∈ gw := gw_7 (i := 212) (by decide +kernel) rfl
theorem mt_X10_way : MtV yX10_way cX10_way 8 (some .int) 3 := ⟨⟨q_7_213, q_1_9, by decide +kernel, by decide +kernel, by decide +kernel⟩, q_7_211, q_7_212⟩
theorem q_7_210 : Cond.methodLink "BeaconDelayLaw" 101 yX10_way ∈ gw := gw_7 (i := 210) (by decide +kernel) rfl
theorem dL_law_810 : decode cL_law 810 = .ok (.invokevirtual 101, 3) := by decide +kernel
set_option maxHeartbeats 4000000 in
set_option maxRecDepth 100000 in
theorem cz_20 {p : Program} {e : Env} {s : State} {m : MethodId} {below : List Frame} {meth : Method} {c : Code} {l : Launch} {b Lk : Nat} {xs : Nat → Int32} {V : GV} {z : Nat → Nat} {H : Heap} {locs : List Loc} {cells slots : Nat} {wx : va_W} {ls : Array Slot} {rest : List Value} (G : LCx p s m meth c b Lk xs V) (a1 : Int32) (a2 : Int32) (a3 : Int32) {pz : Nat → Int32} {fz : Nat → Nat → Int32} {gz : Nat → Nat → Int64} {wz : va_W} (kz : KZ V z pz fz gz wz) (hP : va_P V.1 vwCl (wx ++ wz) H) (hD : va_D (AAs s) (wx ++ wz)) (hS : va_S (AAs s) s.heap H locs) (hcs : cells + 0 ≤ 600000 ∧ slots + 0 ≤ 7302250) (hro : (rest.map fun v => v.category).sum ≤ 8) (hlz : ls.size = 4) (kk : (∀ (r : Int32) (H : Heap) (locs : List Loc) (pz' : Nat → Int32) (fz' : Nat → Nat → Int32) (gz' : Nat → Nat → Int64) (wz : va_W), KZ V z pz' fz' gz' wz → (∀ i ∈ [5, 13, 14], pz' i = pz i) ∧ (∀ i ∈ [0, 1, 2, 18, 19], fz' i = fz i) ∧ (∀ i ∈ [3], gz' i = gz i) → va_P V.1 vwCl (wx ++ wz) H → va_D (AAs s) (wx ++ wz) → va_S (AAs s) s.heap H locs → W p l e room_1 s m #[Value.ref b] below meth c H locs cells slots (lw_Z below #[Value.ref b] s) (F0 m 813 ls (.int r :: rest)))) : W p l e room_1 s m #[Value.ref b] below meth c H locs cells slots (lw_Z below #[Value.ref b] s) (F0 m 810 ls (.int a3 :: .int a2 :: .int a1 :: .ref (z 0) :: rest)) := by
  obtain ⟨hp, hz_tz1, hz_tz3, hz_tz4, hz_tz16, hz_tz17, hz_tz20, hz_tz21, hz_tz24, hz_tz25, hz_tz26, hz_tz27, hz_tz33, hz_tz34, hz_tz37, hz_tz38, hz_RW, rfl⟩ := kz
  replace hP := swP hP
  replace hD := swD hD
  refine cSI (X := wZ V z pz fz gz) (pl := wx) (rest := rest) G (k_X10_way_0 l V z a1 a2 a3 (pz 0) (pz 5) (pz 6) (pz 7) (pz 8) (pz 9) (pz 10) (pz 11) (pz 12) (pz 13) (pz 14) (pz 18) (pz 19) (pz 22) (pz 23) (pz 29) (fz 0) (fz 4) (fz 5) (fz 9) (fz 10) (fz 11) (fz 13) (hp 5) (hp 6) (hp 7) (hp 8) (hp 10) (hp 11) (hp 12) (hp 13) (hp 14) (hp 18) (hp 22) (hp 29) hz_tz1 hz_tz16 hz_tz24 hz_tz25 hz_tz26 hz_RW) mt_X10_way q_7_210 ⟨Nat.le_of_ble_eq_true rfl, Nat.le_of_ble_eq_true rfl⟩ hP hD hS [0, 1, 5, 6, 10, 11, 12, 14] [0, 0, 3, 0, 3, 0, 0, 1] (by decide) (by decide +kernel) rfl 0 rfl rfl rfl rfl hlz rfl hro dL_law_810 hcs (fun r w H locs hw hPD hS => ?_)
  refine Exists.elim hw (fun v0 hw => ?_)
  refine Exists.elim hw (fun v1 hw => ?_)
  refine Exists.elim hw (fun g2 hw => ?_)
  refine Exists.elim hw (fun g3 hw => ?_)
  refine Exists.elim hw (fun g4 hw => ?_)
  refine Exists.elim hw (fun g5 hw => ?_)
  refine Exists.elim hw (fun g6 hw => ?_)
  refine Exists.elim hw (fun g7 hw => ?_)
  refine And.elim (fun bv1 hw => ?_) hw
  refine And.elim (fun bg3 hw => ?_) hw
  refine And.elim (fun bg4 hw => ?_) hw
  refine And.elim (fun bg5 hw => ?_) hw
  refine And.elim (fun bg6 hw => ?_) hw
  refine And.elim (fun br hw => ?_) hw
  refine And.elim (fun g_0 hw => ?_) hw
  subst hw
  obtain ⟨hP, hD⟩ := hPD (wZ V z (up9 (up9 pz 0 v0) 29 v1) (br9 14 (br9 7 (br9 3 fz (br9 5 (br9 4 fz (lf9 g2)) (br9 6 (lf9 g3) fz))) (br9 10 (br9 8 fz (br9 9 fz (lf9 g4))) (br9 12 (br9 11 (lf9 g5) (lf9 g6)) (br9 13 fz (lf9 g7))))) fz) gz) rfl rfl
  replace hP := swP hP
  replace hD := swD hD
  exact kk r H locs (up9 (up9 pz 0 v0) 29 v1) (br9 14 (br9 7 (br9 3 fz (br9 5 (br9 4 fz (lf9 g2)) (br9 6 (lf9 g3) fz))) (br9 10 (br9 8 fz (br9 9 fz (lf9 g4))) (br9 12 (br9 11 (lf9 g5) (lf9 g6)) (br9 13 fz (lf9 g7))))) fz) gz _ ⟨(ivUp 29 (ivUp 0 hp (iv_top v0)) bv1), hz_tz1, hz_tz3, hz_tz4, bg3, hz_tz17, hz_tz20, hz_tz21, bg4, bg5, bg6, hz_tz27, hz_tz33, hz_tz34, hz_tz37, hz_tz38, g_0, rfl⟩ ⟨(List.forall_mem_cons.mpr ⟨rfl, (List.forall_mem_cons.mpr ⟨rfl, (List.forall_mem_cons.mpr ⟨rfl, (fun _ h => absurd h List.not_mem_nil)⟩)⟩)⟩), (List.forall_mem_cons.mpr ⟨rfl, (List.forall_mem_cons.mpr ⟨rfl, (List.forall_mem_cons.mpr ⟨rfl, (List.forall_mem_cons.mpr ⟨rfl, (List.forall_mem_cons.mpr ⟨rfl, (fun _ h => absurd h List.not_mem_nil)⟩)⟩)⟩)⟩)⟩), (fun _ _ => rfl)⟩ hP hD hS
theorem q_7_217 : Cond.code yX10_rows prog_12_method_94_code 8 (some FieldType.long) ∈ gw := gw_7 (i := 217) (rfl) rfl
theorem q_7_215 : Cond.instanceMethod yX10_rows ∈ gw := gw_7 (i := 215) (by decide +kernel) rfl
theorem q_7_216 : Cond.selects "BeaconDelayModel" yX10_rows yX10_rows ∈ gw := gw_7 (i := 216) (by decide +kernel) rfl
theorem mt_X10_rows : MtV yX10_rows cX10_rows 8 (some .long) 3 := ⟨⟨q_7_217, q_1_9, by decide +kernel, by decide +kernel, by decide +kernel⟩, q_7_215, q_7_216⟩
theorem q_7_214 : Cond.methodLink "BeaconDelayLaw" 106 yX10_rows ∈ gw := gw_7 (i := 214) (by decide +kernel) rfl
theorem dL_law_853 : decode cL_law 853 = .ok (.invokevirtual 106, 3) := by decide +kernel
set_option maxHeartbeats 4000000 in
set_option maxRecDepth 100000 in
theorem cz_21 {p : Program} {e : Env} {s : State} {m : MethodId} {below : List Frame} {meth : Method} {c : Code} {l : Launch} {b Lk : Nat} {xs : Nat → Int32} {V : GV} {z : Nat → Nat} {H : Heap} {locs : List Loc} {cells slots : Nat} {wx : va_W} {ls : Array Slot} {rest : List Value} (G : LCx p s m meth c b Lk xs V) (a1 : Int32) (a2 : Int32) (a3 : Int32) {pz : Nat → Int32} {fz : Nat → Nat → Int32} {gz : Nat → Nat → Int64} {wz : va_W} (kz : KZ V z pz fz gz wz) (hP : va_P V.1 vwCl (wx ++ wz) H) (hD : va_D (AAs s) (wx ++ wz)) (hS : va_S (AAs s) s.heap H locs) (hcs : cells + 0 ≤ 600000 ∧ slots + 0 ≤ 7302250) (hro : (rest.map fun v => v.category).sum ≤ 8) (hlz : ls.size = 4) (kk : (∀ (r : Int64) (H : Heap) (locs : List Loc) (pz' : Nat → Int32) (fz' : Nat → Nat → Int32) (gz' : Nat → Nat → Int64) (wz : va_W), KZ V z pz' fz' gz' wz → (∀ i ∈ [5, 13, 14], pz' i = pz i) ∧ (∀ i ∈ [0, 1, 2, 18, 19], fz' i = fz i) ∧ (∀ i ∈ [3], gz' i = gz i) → va_P V.1 vwCl (wx ++ wz) H → va_D (AAs s) (wx ++ wz) → va_S (AAs s) s.heap H locs → W p l e room_1 s m #[Value.ref b] below meth c H locs cells slots (lw_Z below #[Value.ref b] s) (F0 m 856 ls (.long r :: rest)))) : W p l e room_1 s m #[Value.ref b] below meth c H locs cells slots (lw_Z below #[Value.ref b] s) (F0 m 853 ls (.int a3 :: .int a2 :: .int a1 :: .ref (z 0) :: rest)) := by
  obtain ⟨hp, hz_tz1, hz_tz3, hz_tz4, hz_tz16, hz_tz17, hz_tz20, hz_tz21, hz_tz24, hz_tz25, hz_tz26, hz_tz27, hz_tz33, hz_tz34, hz_tz37, hz_tz38, hz_RW, rfl⟩ := kz
  replace hP := swP hP
  replace hD := swD hD
  refine cSL (X := wZ V z pz fz gz) (pl := wx) (rest := rest) G (k_X10_rows_0 l V z a1 a2 a3 (pz 0) (pz 5) (pz 6) (pz 7) (pz 8) (pz 9) (pz 10) (pz 11) (pz 12) (pz 13) (pz 14) (pz 18) (pz 19) (pz 22) (pz 23) (pz 29) (fz 0) (fz 4) (fz 5) (fz 9) (fz 10) (fz 13) (gz 0) (gz 1) (hp 5) (hp 6) (hp 7) (hp 8) (hp 10) (hp 11) (hp 12) (hp 13) (hp 14) (hp 18) (hp 22) (hp 29) hz_tz1 hz_tz16 hz_tz24 hz_tz25 hz_RW) mt_X10_rows q_7_214 ⟨Nat.le_of_ble_eq_true rfl, Nat.le_of_ble_eq_true rfl⟩ hP hD hS [0, 1, 5, 6, 10, 11, 14, 15, 16] [0, 0, 3, 0, 3, 0, 2, 0, 0] (by decide) (by decide +kernel) rfl 0 rfl rfl rfl rfl hlz rfl hro dL_law_853 hcs (fun r w H locs hw hPD hS => ?_)
  refine Exists.elim hw (fun v0 hw => ?_)
  refine Exists.elim hw (fun v1 hw => ?_)
  refine Exists.elim hw (fun g2 hw => ?_)
  refine Exists.elim hw (fun g3 hw => ?_)
  refine Exists.elim hw (fun g4 hw => ?_)
  refine Exists.elim hw (fun g5 hw => ?_)
  refine Exists.elim hw (fun g6 hw => ?_)
  refine Exists.elim hw (fun g7 hw => ?_)
  refine Exists.elim hw (fun g8 hw => ?_)
  refine And.elim (fun bv1 hw => ?_) hw
  refine And.elim (fun bg3 hw => ?_) hw
  refine And.elim (fun bg4 hw => ?_) hw
  refine And.elim (fun bg5 hw => ?_) hw
  refine And.elim (fun g_0 hw => ?_) hw
  subst hw
  obtain ⟨hP, hD⟩ := hPD (wZ V z (up9 (up9 pz 0 v0) 29 v1) (br9 14 (br9 7 (br9 3 fz (br9 5 (br9 4 fz (lf9 g2)) (br9 6 (lf9 g3) fz))) (br9 10 (br9 8 fz (br9 9 fz (lf9 g4))) (br9 12 (br9 11 (lf9 g5) fz) (br9 13 fz (lf9 g6))))) fz) (up9 (up9 gz 0 g7) 1 g8)) rfl rfl
  replace hP := swP hP
  replace hD := swD hD
  exact kk r H locs (up9 (up9 pz 0 v0) 29 v1) (br9 14 (br9 7 (br9 3 fz (br9 5 (br9 4 fz (lf9 g2)) (br9 6 (lf9 g3) fz))) (br9 10 (br9 8 fz (br9 9 fz (lf9 g4))) (br9 12 (br9 11 (lf9 g5) fz) (br9 13 fz (lf9 g6))))) fz) (up9 (up9 gz 0 g7) 1 g8) _ ⟨(ivUp 29 (ivUp 0 hp (iv_top v0)) bv1), hz_tz1, hz_tz3, hz_tz4, bg3, hz_tz17, hz_tz20, hz_tz21, bg4, bg5, hz_tz26, hz_tz27, hz_tz33, hz_tz34, hz_tz37, hz_tz38, g_0, rfl⟩ ⟨(List.forall_mem_cons.mpr ⟨rfl, (List.forall_mem_cons.mpr ⟨rfl, (List.forall_mem_cons.mpr ⟨rfl, (fun _ h => absurd h List.not_mem_nil)⟩)⟩)⟩), (List.forall_mem_cons.mpr ⟨rfl, (List.forall_mem_cons.mpr ⟨rfl, (List.forall_mem_cons.mpr ⟨rfl, (List.forall_mem_cons.mpr ⟨rfl, (List.forall_mem_cons.mpr ⟨rfl, (fun _ h => absurd h List.not_mem_nil)⟩)⟩)⟩)⟩)⟩), (List.forall_mem_cons.mpr ⟨rfl, (fun _ h => absurd h List.not_mem_nil)⟩)⟩ hP hD hS
theorem q_7_235 : Cond.code yX10_keeps prog_12_method_96_code 7 (some FieldType.int) ∈ gw := gw_7 (i := 235) (rfl) rfl
theorem q_7_233 : Cond.instanceMethod yX10_keeps ∈ gw := gw_7 (i := 233) (by decide +kernel) rfl
theorem q_7_234 : Cond.selects "BeaconDelayModel" yX10_keeps yX10_keeps ∈ gw := gw_7 (i := 234) (by decide +kernel) rfl
theorem mt_X10_keeps : MtV yX10_keeps cX10_keeps 7 (some .int) 1 := ⟨⟨q_7_235, q_1_9, by decide +kernel, by decide +kernel, by decide +kernel⟩, q_7_233, q_7_234⟩
theorem q_7_232 : Cond.methodLink "BeaconDelayLaw" 110 yX10_keeps ∈ gw := gw_7 (i := 232) (by decide +kernel) rfl
theorem dL_law_876 : decode cL_law 876 = .ok (.invokevirtual 110, 3) := by decide +kernel
set_option maxHeartbeats 4000000 in
set_option maxRecDepth 100000 in
theorem cz_22 {p : Program} {e : Env} {s : State} {m : MethodId} {below : List Frame} {meth : Method} {c : Code} {l : Launch} {b Lk : Nat} {xs : Nat → Int32} {V : GV} {z : Nat → Nat} {H : Heap} {locs : List Loc} {cells slots : Nat} {wx : va_W} {ls : Array Slot} {rest : List Value} (G : LCx p s m meth c b Lk xs V) (a1 : Int32) {pz : Nat → Int32} {fz : Nat → Nat → Int32} {gz : Nat → Nat → Int64} {wz : va_W} (kz : KZ V z pz fz gz wz) (hP : va_P V.1 vwCl (wx ++ wz) H) (hD : va_D (AAs s) (wx ++ wz)) (hS : va_S (AAs s) s.heap H locs) (hcs : cells + 0 ≤ 600000 ∧ slots + 0 ≤ 7302250) (hro : (rest.map fun v => v.category).sum ≤ 8) (hlz : ls.size = 4) (kk : (∀ (r : Int32) (H : Heap) (locs : List Loc) (pz' : Nat → Int32) (fz' : Nat → Nat → Int32) (gz' : Nat → Nat → Int64) (wz : va_W), KZ V z pz' fz' gz' wz → (∀ i ∈ [5, 13, 14], pz' i = pz i) ∧ (∀ i ∈ [0, 1, 2, 18, 19], fz' i = fz i) ∧ (∀ i ∈ [3], gz' i = gz i) → va_P V.1 vwCl (wx ++ wz) H → va_D (AAs s) (wx ++ wz) → va_S (AAs s) s.heap H locs → W p l e room_1 s m #[Value.ref b] below meth c H locs cells slots (lw_Z below #[Value.ref b] s) (F0 m 879 ls (.int r :: rest)))) : W p l e room_1 s m #[Value.ref b] below meth c H locs cells slots (lw_Z below #[Value.ref b] s) (F0 m 876 ls (.int a1 :: .ref (z 0) :: rest)) := by
  obtain ⟨hp, hz_tz1, hz_tz3, hz_tz4, hz_tz16, hz_tz17, hz_tz20, hz_tz21, hz_tz24, hz_tz25, hz_tz26, hz_tz27, hz_tz33, hz_tz34, hz_tz37, hz_tz38, hz_RW, rfl⟩ := kz
  replace hP := swP hP
  replace hD := swD hD
  refine cSI (X := wZ V z pz fz gz) (pl := wx) (rest := rest) G (k_X10_keeps_0 l V z a1 (pz 0) (pz 5) (pz 6) (pz 7) (pz 8) (pz 9) (pz 10) (pz 11) (pz 12) (pz 13) (pz 14) (pz 18) (pz 19) (pz 22) (pz 23) (pz 29) (fz 0) (fz 4) (fz 5) (fz 9) (fz 10) (fz 11) (fz 13) (hp 5) (hp 6) (hp 7) (hp 8) (hp 10) (hp 11) (hp 12) (hp 13) (hp 14) (hp 18) (hp 22) (hp 29) hz_tz1 hz_tz16 hz_tz24 hz_tz25 hz_tz26 hz_RW) mt_X10_keeps q_7_232 ⟨Nat.le_of_ble_eq_true rfl, Nat.le_of_ble_eq_true rfl⟩ hP hD hS [0, 1, 5, 6, 10, 11, 12, 14] [0, 0, 3, 0, 3, 0, 0, 1] (by decide) (by decide +kernel) rfl 0 rfl rfl rfl rfl hlz rfl hro dL_law_876 hcs (fun r w H locs hw hPD hS => ?_)
  refine Exists.elim hw (fun v0 hw => ?_)
  refine Exists.elim hw (fun v1 hw => ?_)
  refine Exists.elim hw (fun g2 hw => ?_)
  refine Exists.elim hw (fun g3 hw => ?_)
  refine Exists.elim hw (fun g4 hw => ?_)
  refine Exists.elim hw (fun g5 hw => ?_)
  refine Exists.elim hw (fun g6 hw => ?_)
  refine Exists.elim hw (fun g7 hw => ?_)
  refine And.elim (fun bv1 hw => ?_) hw
  refine And.elim (fun bg3 hw => ?_) hw
  refine And.elim (fun bg4 hw => ?_) hw
  refine And.elim (fun bg5 hw => ?_) hw
  refine And.elim (fun bg6 hw => ?_) hw
  refine And.elim (fun g_0 hw => ?_) hw
  subst hw
  obtain ⟨hP, hD⟩ := hPD (wZ V z (up9 (up9 pz 0 v0) 29 v1) (br9 14 (br9 7 (br9 3 fz (br9 5 (br9 4 fz (lf9 g2)) (br9 6 (lf9 g3) fz))) (br9 10 (br9 8 fz (br9 9 fz (lf9 g4))) (br9 12 (br9 11 (lf9 g5) (lf9 g6)) (br9 13 fz (lf9 g7))))) fz) gz) rfl rfl
  replace hP := swP hP
  replace hD := swD hD
  exact kk r H locs (up9 (up9 pz 0 v0) 29 v1) (br9 14 (br9 7 (br9 3 fz (br9 5 (br9 4 fz (lf9 g2)) (br9 6 (lf9 g3) fz))) (br9 10 (br9 8 fz (br9 9 fz (lf9 g4))) (br9 12 (br9 11 (lf9 g5) (lf9 g6)) (br9 13 fz (lf9 g7))))) fz) gz _ ⟨(ivUp 29 (ivUp 0 hp (iv_top v0)) bv1), hz_tz1, hz_tz3, hz_tz4, bg3, hz_tz17, hz_tz20, hz_tz21, bg4, bg5, bg6, hz_tz27, hz_tz33, hz_tz34, hz_tz37, hz_tz38, g_0, rfl⟩ ⟨(List.forall_mem_cons.mpr ⟨rfl, (List.forall_mem_cons.mpr ⟨rfl, (List.forall_mem_cons.mpr ⟨rfl, (fun _ h => absurd h List.not_mem_nil)⟩)⟩)⟩), (List.forall_mem_cons.mpr ⟨rfl, (List.forall_mem_cons.mpr ⟨rfl, (List.forall_mem_cons.mpr ⟨rfl, (List.forall_mem_cons.mpr ⟨rfl, (List.forall_mem_cons.mpr ⟨rfl, (fun _ h => absurd h List.not_mem_nil)⟩)⟩)⟩)⟩)⟩), (fun _ _ => rfl)⟩ hP hD hS
theorem q_8_7 : Cond.code yX10_reaches prog_12_method_97_code 6 (some FieldType.int) ∈ gw := gw_8 (i := 7) (rfl) rfl
theorem q_8_5 : Cond.instanceMethod yX10_reaches ∈ gw := gw_8 (i := 5) (by decide +kernel) rfl
theorem q_8_6 : Cond.selects "BeaconDelayModel" yX10_reaches yX10_reaches ∈ gw := gw_8 (i := 6) (by decide +kernel) rfl
theorem mt_X10_reaches : MtV yX10_reaches cX10_reaches 6 (some .int) 2 := ⟨⟨q_8_7, q_1_9, by decide +kernel, by decide +kernel, by decide +kernel⟩, q_8_5, q_8_6⟩
theorem q_8_4 : Cond.methodLink "BeaconDelayLaw" 114 yX10_reaches ∈ gw := gw_8 (i := 4) (by decide +kernel) rfl
theorem dL_law_909 : decode cL_law 909 = .ok (.invokevirtual 114, 3) := by decide +kernel
set_option maxHeartbeats 4000000 in
set_option maxRecDepth 100000 in
theorem cz_23 {p : Program} {e : Env} {s : State} {m : MethodId} {below : List Frame} {meth : Method} {c : Code} {l : Launch} {b Lk : Nat} {xs : Nat → Int32} {V : GV} {z : Nat → Nat} {H : Heap} {locs : List Loc} {cells slots : Nat} {wx : va_W} {ls : Array Slot} {rest : List Value} (G : LCx p s m meth c b Lk xs V) (a1 : Int32) (a2 : Int32) {pz : Nat → Int32} {fz : Nat → Nat → Int32} {gz : Nat → Nat → Int64} {wz : va_W} (kz : KZ V z pz fz gz wz) (hP : va_P V.1 vwCl (wx ++ wz) H) (hD : va_D (AAs s) (wx ++ wz)) (hS : va_S (AAs s) s.heap H locs) (hcs : cells + 0 ≤ 600000 ∧ slots + 0 ≤ 7302250) (hro : (rest.map fun v => v.category).sum ≤ 8) (hlz : ls.size = 4) (kk : (∀ (r : Int32) (H : Heap) (locs : List Loc) (pz' : Nat → Int32) (fz' : Nat → Nat → Int32) (gz' : Nat → Nat → Int64) (wz : va_W), KZ V z pz' fz' gz' wz → (∀ i ∈ [5, 13, 14], pz' i = pz i) ∧ (∀ i ∈ [0, 1, 2, 18, 19], fz' i = fz i) ∧ (∀ i ∈ [3], gz' i = gz i) → va_P V.1 vwCl (wx ++ wz) H → va_D (AAs s) (wx ++ wz) → va_S (AAs s) s.heap H locs → W p l e room_1 s m #[Value.ref b] below meth c H locs cells slots (lw_Z below #[Value.ref b] s) (F0 m 912 ls (.int r :: rest)))) : W p l e room_1 s m #[Value.ref b] below meth c H locs cells slots (lw_Z below #[Value.ref b] s) (F0 m 909 ls (.int a2 :: .int a1 :: .ref (z 0) :: rest)) := by
  obtain ⟨hp, hz_tz1, hz_tz3, hz_tz4, hz_tz16, hz_tz17, hz_tz20, hz_tz21, hz_tz24, hz_tz25, hz_tz26, hz_tz27, hz_tz33, hz_tz34, hz_tz37, hz_tz38, hz_RW, rfl⟩ := kz
  replace hP := swP hP
  replace hD := swD hD
  refine cSI (X := wZ V z pz fz gz) (pl := wx) (rest := rest) G (k_X10_reaches_0 l V z a1 a2 (pz 0) (pz 5) (pz 6) (pz 7) (pz 8) (pz 9) (pz 10) (pz 11) (pz 12) (pz 13) (pz 14) (pz 18) (pz 19) (pz 22) (pz 23) (pz 29) (fz 0) (fz 4) (fz 5) (fz 9) (fz 10) (fz 13) (hp 5) (hp 6) (hp 7) (hp 8) (hp 10) (hp 11) (hp 12) (hp 13) (hp 14) (hp 18) (hp 22) (hp 29) hz_tz1 hz_tz16 hz_tz24 hz_tz25 hz_RW) mt_X10_reaches q_8_4 ⟨Nat.le_of_ble_eq_true rfl, Nat.le_of_ble_eq_true rfl⟩ hP hD hS [0, 1, 5, 6, 10, 11, 14] [0, 0, 3, 0, 3, 0, 2] (by decide) (by decide +kernel) rfl 0 rfl rfl rfl rfl hlz rfl hro dL_law_909 hcs (fun r w H locs hw hPD hS => ?_)
  refine Exists.elim hw (fun v0 hw => ?_)
  refine Exists.elim hw (fun v1 hw => ?_)
  refine Exists.elim hw (fun g2 hw => ?_)
  refine Exists.elim hw (fun g3 hw => ?_)
  refine Exists.elim hw (fun g4 hw => ?_)
  refine Exists.elim hw (fun g5 hw => ?_)
  refine Exists.elim hw (fun g6 hw => ?_)
  refine And.elim (fun bv1 hw => ?_) hw
  refine And.elim (fun bg3 hw => ?_) hw
  refine And.elim (fun bg4 hw => ?_) hw
  refine And.elim (fun bg5 hw => ?_) hw
  refine And.elim (fun g_0 hw => ?_) hw
  subst hw
  obtain ⟨hP, hD⟩ := hPD (wZ V z (up9 (up9 pz 0 v0) 29 v1) (br9 14 (br9 7 (br9 3 fz (br9 5 (br9 4 fz (lf9 g2)) (br9 6 (lf9 g3) fz))) (br9 10 (br9 8 fz (br9 9 fz (lf9 g4))) (br9 12 (br9 11 (lf9 g5) fz) (br9 13 fz (lf9 g6))))) fz) gz) rfl rfl
  replace hP := swP hP
  replace hD := swD hD
  exact kk r H locs (up9 (up9 pz 0 v0) 29 v1) (br9 14 (br9 7 (br9 3 fz (br9 5 (br9 4 fz (lf9 g2)) (br9 6 (lf9 g3) fz))) (br9 10 (br9 8 fz (br9 9 fz (lf9 g4))) (br9 12 (br9 11 (lf9 g5) fz) (br9 13 fz (lf9 g6))))) fz) gz _ ⟨(ivUp 29 (ivUp 0 hp (iv_top v0)) bv1), hz_tz1, hz_tz3, hz_tz4, bg3, hz_tz17, hz_tz20, hz_tz21, bg4, bg5, hz_tz26, hz_tz27, hz_tz33, hz_tz34, hz_tz37, hz_tz38, g_0, rfl⟩ ⟨(List.forall_mem_cons.mpr ⟨rfl, (List.forall_mem_cons.mpr ⟨rfl, (List.forall_mem_cons.mpr ⟨rfl, (fun _ h => absurd h List.not_mem_nil)⟩)⟩)⟩), (List.forall_mem_cons.mpr ⟨rfl, (List.forall_mem_cons.mpr ⟨rfl, (List.forall_mem_cons.mpr ⟨rfl, (List.forall_mem_cons.mpr ⟨rfl, (List.forall_mem_cons.mpr ⟨rfl, (fun _ h => absurd h List.not_mem_nil)⟩)⟩)⟩)⟩)⟩), (fun _ _ => rfl)⟩ hP hD hS
theorem q_8_11 : Cond.code yX10_stands prog_12_method_98_code 1 (some FieldType.int) ∈ gw := gw_8 (i := 11) (rfl) rfl
theorem q_8_9 : Cond.instanceMethod yX10_stands ∈ gw := gw_8 (i := 9) (by decide +kernel) rfl
theorem q_8_10 : Cond.selects "BeaconDelayModel" yX10_stands yX10_stands ∈ gw := gw_8 (i := 10) (by decide +kernel) rfl
theorem mt_X10_stands : MtV yX10_stands cX10_stands 1 (some .int) 0 := ⟨⟨q_8_11, q_1_9, by decide +kernel, by decide +kernel, by decide +kernel⟩, q_8_9, q_8_10⟩
theorem q_8_8 : Cond.methodLink "BeaconDelayLaw" 118 yX10_stands ∈ gw := gw_8 (i := 8) (by decide +kernel) rfl
theorem dL_law_922 : decode cL_law 922 = .ok (.invokevirtual 118, 3) := by decide +kernel
set_option maxHeartbeats 4000000 in
set_option maxRecDepth 100000 in
theorem cz_24 {p : Program} {e : Env} {s : State} {m : MethodId} {below : List Frame} {meth : Method} {c : Code} {l : Launch} {b Lk : Nat} {xs : Nat → Int32} {V : GV} {z : Nat → Nat} {H : Heap} {locs : List Loc} {cells slots : Nat} {wx : va_W} {ls : Array Slot} {rest : List Value} (G : LCx p s m meth c b Lk xs V)  {pz : Nat → Int32} {fz : Nat → Nat → Int32} {gz : Nat → Nat → Int64} {wz : va_W} (kz : KZ V z pz fz gz wz) (hP : va_P V.1 vwCl (wx ++ wz) H) (hD : va_D (AAs s) (wx ++ wz)) (hS : va_S (AAs s) s.heap H locs) (hcs : cells + 0 ≤ 600000 ∧ slots + 0 ≤ 7302250) (hro : (rest.map fun v => v.category).sum ≤ 8) (hlz : ls.size = 4) (kk : (∀ (r : Int32) (H : Heap) (locs : List Loc) (pz' : Nat → Int32) (fz' : Nat → Nat → Int32) (gz' : Nat → Nat → Int64) (wz : va_W), KZ V z pz' fz' gz' wz → (∀ i ∈ [5, 13, 14], pz' i = pz i) ∧ (∀ i ∈ [0, 1, 2, 18, 19], fz' i = fz i) ∧ (∀ i ∈ [3], gz' i = gz i) → va_P V.1 vwCl (wx ++ wz) H → va_D (AAs s) (wx ++ wz) → va_S (AAs s) s.heap H locs → W p l e room_1 s m #[Value.ref b] below meth c H locs cells slots (lw_Z below #[Value.ref b] s) (F0 m 925 ls (.int r :: rest)))) : W p l e room_1 s m #[Value.ref b] below meth c H locs cells slots (lw_Z below #[Value.ref b] s) (F0 m 922 ls (.ref (z 0) :: rest)) := by
  obtain ⟨hp, hz_tz1, hz_tz3, hz_tz4, hz_tz16, hz_tz17, hz_tz20, hz_tz21, hz_tz24, hz_tz25, hz_tz26, hz_tz27, hz_tz33, hz_tz34, hz_tz37, hz_tz38, hz_RW, rfl⟩ := kz
  replace hP := swP hP
  replace hD := swD hD
  refine cSI (X := wZ V z pz fz gz) (pl := wx) (rest := rest) G (k_X10_stands_0 l V z (pz 0) (pz 5) (pz 6) (pz 7) (pz 8) (pz 9) (pz 10) (pz 11) (pz 12) (pz 13) (pz 14) (pz 18) (pz 19) (pz 22) (pz 23) (pz 29) (fz 0) (fz 4) (fz 5) (fz 9) (fz 10) (fz 13) (hp 5) (hp 6) (hp 7) (hp 8) (hp 10) (hp 11) (hp 12) (hp 13) (hp 14) (hp 18) (hp 22) (hp 29) hz_tz1 hz_tz16 hz_tz24 hz_tz25 hz_RW) mt_X10_stands q_8_8 ⟨Nat.le_of_ble_eq_true rfl, Nat.le_of_ble_eq_true rfl⟩ hP hD hS [0, 1, 5, 6, 10, 11, 14] [0, 0, 3, 0, 3, 0, 2] (by decide) (by decide +kernel) rfl 0 rfl rfl rfl rfl hlz rfl hro dL_law_922 hcs (fun r w H locs hw hPD hS => ?_)
  refine Exists.elim hw (fun v0 hw => ?_)
  refine Exists.elim hw (fun v1 hw => ?_)
  refine Exists.elim hw (fun g2 hw => ?_)
  refine Exists.elim hw (fun g3 hw => ?_)
  refine Exists.elim hw (fun g4 hw => ?_)
  refine Exists.elim hw (fun g5 hw => ?_)
  refine Exists.elim hw (fun g6 hw => ?_)
  refine And.elim (fun bv1 hw => ?_) hw
  refine And.elim (fun bg3 hw => ?_) hw
  refine And.elim (fun bg4 hw => ?_) hw
  refine And.elim (fun bg5 hw => ?_) hw
  refine And.elim (fun br hw => ?_) hw
  refine And.elim (fun g_0 hw => ?_) hw
  subst hw
  obtain ⟨hP, hD⟩ := hPD (wZ V z (up9 (up9 pz 0 v0) 29 v1) (br9 14 (br9 7 (br9 3 fz (br9 5 (br9 4 fz (lf9 g2)) (br9 6 (lf9 g3) fz))) (br9 10 (br9 8 fz (br9 9 fz (lf9 g4))) (br9 12 (br9 11 (lf9 g5) fz) (br9 13 fz (lf9 g6))))) fz) gz) rfl rfl
  replace hP := swP hP
  replace hD := swD hD
  exact kk r H locs (up9 (up9 pz 0 v0) 29 v1) (br9 14 (br9 7 (br9 3 fz (br9 5 (br9 4 fz (lf9 g2)) (br9 6 (lf9 g3) fz))) (br9 10 (br9 8 fz (br9 9 fz (lf9 g4))) (br9 12 (br9 11 (lf9 g5) fz) (br9 13 fz (lf9 g6))))) fz) gz _ ⟨(ivUp 29 (ivUp 0 hp (iv_top v0)) bv1), hz_tz1, hz_tz3, hz_tz4, bg3, hz_tz17, hz_tz20, hz_tz21, bg4, bg5, hz_tz26, hz_tz27, hz_tz33, hz_tz34, hz_tz37, hz_tz38, g_0, rfl⟩ ⟨(List.forall_mem_cons.mpr ⟨rfl, (List.forall_mem_cons.mpr ⟨rfl, (List.forall_mem_cons.mpr ⟨rfl, (fun _ h => absurd h List.not_mem_nil)⟩)⟩)⟩), (List.forall_mem_cons.mpr ⟨rfl, (List.forall_mem_cons.mpr ⟨rfl, (List.forall_mem_cons.mpr ⟨rfl, (List.forall_mem_cons.mpr ⟨rfl, (List.forall_mem_cons.mpr ⟨rfl, (fun _ h => absurd h List.not_mem_nil)⟩)⟩)⟩)⟩)⟩), (fun _ _ => rfl)⟩ hP hD hS
theorem q_8_15 : Cond.code yX10_lit prog_12_method_100_code 2 (some FieldType.int) ∈ gw := gw_8 (i := 15) (rfl) rfl
theorem q_8_13 : Cond.instanceMethod yX10_lit ∈ gw := gw_8 (i := 13) (by decide +kernel) rfl
theorem q_8_14 : Cond.selects "BeaconDelayModel" yX10_lit yX10_lit ∈ gw := gw_8 (i := 14) (by decide +kernel) rfl
theorem mt_X10_lit : MtV yX10_lit cX10_lit 2 (some .int) 1 := ⟨⟨q_8_15, q_1_9, by decide +kernel, by decide +kernel, by decide +kernel⟩, q_8_13, q_8_14⟩
theorem q_8_12 : Cond.methodLink "BeaconDelayLaw" 122 yX10_lit ∈ gw := gw_8 (i := 12) (by decide +kernel) rfl
theorem dL_law_945 : decode cL_law 945 = .ok (.invokevirtual 122, 3) := by decide +kernel
set_option maxHeartbeats 4000000 in
set_option maxRecDepth 100000 in
theorem cz_25 {p : Program} {e : Env} {s : State} {m : MethodId} {below : List Frame} {meth : Method} {c : Code} {l : Launch} {b Lk : Nat} {xs : Nat → Int32} {V : GV} {z : Nat → Nat} {H : Heap} {locs : List Loc} {cells slots : Nat} {wx : va_W} {ls : Array Slot} {rest : List Value} (G : LCx p s m meth c b Lk xs V) (a1 : Int32) {pz : Nat → Int32} {fz : Nat → Nat → Int32} {gz : Nat → Nat → Int64} {wz : va_W} (kz : KZ V z pz fz gz wz) (hP : va_P V.1 vwCl (wx ++ wz) H) (hD : va_D (AAs s) (wx ++ wz)) (hS : va_S (AAs s) s.heap H locs) (hcs : cells + 0 ≤ 600000 ∧ slots + 0 ≤ 7302250) (hro : (rest.map fun v => v.category).sum ≤ 8) (hlz : ls.size = 4) (kk : (∀ (r : Int32) (H : Heap) (locs : List Loc) (pz' : Nat → Int32) (fz' : Nat → Nat → Int32) (gz' : Nat → Nat → Int64) (wz : va_W), KZ V z pz' fz' gz' wz → (∀ i ∈ [5, 13, 14], pz' i = pz i) ∧ (∀ i ∈ [0, 1, 2, 18, 19], fz' i = fz i) ∧ (∀ i ∈ [3], gz' i = gz i) → va_P V.1 vwCl (wx ++ wz) H → va_D (AAs s) (wx ++ wz) → va_S (AAs s) s.heap H locs → W p l e room_1 s m #[Value.ref b] below meth c H locs cells slots (lw_Z below #[Value.ref b] s) (F0 m 948 ls (.int r :: rest)))) : W p l e room_1 s m #[Value.ref b] below meth c H locs cells slots (lw_Z below #[Value.ref b] s) (F0 m 945 ls (.int a1 :: .ref (z 0) :: rest)) := by
  obtain ⟨hp, hz_tz1, hz_tz3, hz_tz4, hz_tz16, hz_tz17, hz_tz20, hz_tz21, hz_tz24, hz_tz25, hz_tz26, hz_tz27, hz_tz33, hz_tz34, hz_tz37, hz_tz38, hz_RW, rfl⟩ := kz
  replace hP := swP hP
  replace hD := swD hD
  refine cSI (X := wZ V z pz fz gz) (pl := wx) (rest := rest) G (k_X10_lit_0 l V z a1 (pz 0) (pz 5) (pz 6) (pz 7) (pz 8) (pz 9) (pz 10) (pz 11) (pz 12) (pz 13) (pz 14) (pz 18) (pz 19) (pz 22) (pz 23) (pz 29) (fz 0) (hp 5) (hp 6) (hp 7) (hp 8) (hp 10) (hp 11) (hp 12) (hp 13) (hp 14) (hp 18) (hp 22) (hp 29) hz_tz1) mt_X10_lit q_8_12 ⟨Nat.le_of_ble_eq_true rfl, Nat.le_of_ble_eq_true rfl⟩ hP hD hS [0, 1] [0, 0] (by decide) (by decide +kernel) rfl 0 rfl rfl rfl rfl hlz rfl hro dL_law_945 hcs (fun r w H locs hw hPD hS => ?_)
  refine Exists.elim hw (fun v0 hw => ?_)
  refine And.elim (fun br hw => ?_) hw
  subst hw
  obtain ⟨hP, hD⟩ := hPD (wZ V z (up9 pz 0 v0) fz gz) rfl rfl
  replace hP := swP hP
  replace hD := swD hD
  exact kk r H locs (up9 pz 0 v0) fz gz _ ⟨(ivUp 0 hp (iv_top v0)), hz_tz1, hz_tz3, hz_tz4, hz_tz16, hz_tz17, hz_tz20, hz_tz21, hz_tz24, hz_tz25, hz_tz26, hz_tz27, hz_tz33, hz_tz34, hz_tz37, hz_tz38, hz_RW, rfl⟩ ⟨(List.forall_mem_cons.mpr ⟨rfl, (List.forall_mem_cons.mpr ⟨rfl, (List.forall_mem_cons.mpr ⟨rfl, (fun _ h => absurd h List.not_mem_nil)⟩)⟩)⟩), (fun _ _ => rfl), (fun _ _ => rfl)⟩ hP hD hS
theorem q_8_23 : Cond.code yX10_brightest prog_12_method_101_code 4 (some FieldType.int) ∈ gw := gw_8 (i := 23) (rfl) rfl
theorem q_8_21 : Cond.instanceMethod yX10_brightest ∈ gw := gw_8 (i := 21) (by decide +kernel) rfl
theorem q_8_22 : Cond.selects "BeaconDelayModel" yX10_brightest yX10_brightest ∈ gw := gw_8 (i := 22) (by decide +kernel) rfl
theorem mt_X10_brightest : MtV yX10_brightest cX10_brightest 4 (some .int) 0 := ⟨⟨q_8_23, q_1_9, by decide +kernel, by decide +kernel, by decide +kernel⟩, q_8_21, q_8_22⟩
theorem q_8_20 : Cond.methodLink "BeaconDelayLaw" 126 yX10_brightest ∈ gw := gw_8 (i := 20) (by decide +kernel) rfl
theorem dL_law_958 : decode cL_law 958 = .ok (.invokevirtual 126, 3) := by decide +kernel
set_option maxHeartbeats 4000000 in
set_option maxRecDepth 100000 in
theorem cz_26 {p : Program} {e : Env} {s : State} {m : MethodId} {below : List Frame} {meth : Method} {c : Code} {l : Launch} {b Lk : Nat} {xs : Nat → Int32} {V : GV} {z : Nat → Nat} {H : Heap} {locs : List Loc} {cells slots : Nat} {wx : va_W} {ls : Array Slot} {rest : List Value} (G : LCx p s m meth c b Lk xs V)  {pz : Nat → Int32} {fz : Nat → Nat → Int32} {gz : Nat → Nat → Int64} {wz : va_W} (kz : KZ V z pz fz gz wz) (hP : va_P V.1 vwCl (wx ++ wz) H) (hD : va_D (AAs s) (wx ++ wz)) (hS : va_S (AAs s) s.heap H locs) (hcs : cells + 0 ≤ 600000 ∧ slots + 0 ≤ 7302250) (hro : (rest.map fun v => v.category).sum ≤ 8) (hlz : ls.size = 4) (kk : (∀ (r : Int32) (H : Heap) (locs : List Loc) (pz' : Nat → Int32) (fz' : Nat → Nat → Int32) (gz' : Nat → Nat → Int64) (wz : va_W), KZ V z pz' fz' gz' wz → (∀ i ∈ [5, 13, 14], pz' i = pz i) ∧ (∀ i ∈ [0, 1, 2, 18, 19], fz' i = fz i) ∧ (∀ i ∈ [3], gz' i = gz i) → va_P V.1 vwCl (wx ++ wz) H → va_D (AAs s) (wx ++ wz) → va_S (AAs s) s.heap H locs → W p l e room_1 s m #[Value.ref b] below meth c H locs cells slots (lw_Z below #[Value.ref b] s) (F0 m 961 ls (.int r :: rest)))) : W p l e room_1 s m #[Value.ref b] below meth c H locs cells slots (lw_Z below #[Value.ref b] s) (F0 m 958 ls (.ref (z 0) :: rest)) := by
  obtain ⟨hp, hz_tz1, hz_tz3, hz_tz4, hz_tz16, hz_tz17, hz_tz20, hz_tz21, hz_tz24, hz_tz25, hz_tz26, hz_tz27, hz_tz33, hz_tz34, hz_tz37, hz_tz38, hz_RW, rfl⟩ := kz
  replace hP := swP hP
  replace hD := swD hD
  refine cSI (X := wZ V z pz fz gz) (pl := wx) (rest := rest) G (k_X10_brightest_0 l V z (pz 0) (pz 5) (pz 6) (pz 7) (pz 8) (pz 9) (pz 10) (pz 11) (pz 12) (pz 13) (pz 14) (pz 18) (pz 19) (pz 22) (pz 23) (pz 29) (fz 0) (hp 5) (hp 6) (hp 7) (hp 8) (hp 10) (hp 11) (hp 12) (hp 13) (hp 14) (hp 18) (hp 22) (hp 29) hz_tz1) mt_X10_brightest q_8_20 ⟨Nat.le_of_ble_eq_true rfl, Nat.le_of_ble_eq_true rfl⟩ hP hD hS [0, 1] [0, 0] (by decide) (by decide +kernel) rfl 0 rfl rfl rfl rfl hlz rfl hro dL_law_958 hcs (fun r w H locs hw hPD hS => ?_)
  refine Exists.elim hw (fun v0 hw => ?_)
  subst hw
  obtain ⟨hP, hD⟩ := hPD (wZ V z (up9 pz 0 v0) fz gz) rfl rfl
  replace hP := swP hP
  replace hD := swD hD
  exact kk r H locs (up9 pz 0 v0) fz gz _ ⟨(ivUp 0 hp (iv_top v0)), hz_tz1, hz_tz3, hz_tz4, hz_tz16, hz_tz17, hz_tz20, hz_tz21, hz_tz24, hz_tz25, hz_tz26, hz_tz27, hz_tz33, hz_tz34, hz_tz37, hz_tz38, hz_RW, rfl⟩ ⟨(List.forall_mem_cons.mpr ⟨rfl, (List.forall_mem_cons.mpr ⟨rfl, (List.forall_mem_cons.mpr ⟨rfl, (fun _ h => absurd h List.not_mem_nil)⟩)⟩)⟩), (fun _ _ => rfl), (fun _ _ => rfl)⟩ hP hD hS
theorem q_8_30 : Cond.code yX10_wood prog_12_method_105_code 1 (some FieldType.int) ∈ gw := gw_8 (i := 30) (rfl) rfl
theorem q_8_28 : Cond.instanceMethod yX10_wood ∈ gw := gw_8 (i := 28) (by decide +kernel) rfl
theorem q_8_29 : Cond.selects "BeaconDelayModel" yX10_wood yX10_wood ∈ gw := gw_8 (i := 29) (by decide +kernel) rfl
theorem mt_X10_wood : MtV yX10_wood cX10_wood 1 (some .int) 0 := ⟨⟨q_8_30, q_1_9, by decide +kernel, by decide +kernel, by decide +kernel⟩, q_8_28, q_8_29⟩
theorem q_8_27 : Cond.methodLink "BeaconDelayLaw" 130 yX10_wood ∈ gw := gw_8 (i := 27) (by decide +kernel) rfl
theorem dL_law_971 : decode cL_law 971 = .ok (.invokevirtual 130, 3) := by decide +kernel
set_option maxHeartbeats 4000000 in
set_option maxRecDepth 100000 in
theorem cz_27 {p : Program} {e : Env} {s : State} {m : MethodId} {below : List Frame} {meth : Method} {c : Code} {l : Launch} {b Lk : Nat} {xs : Nat → Int32} {V : GV} {z : Nat → Nat} {H : Heap} {locs : List Loc} {cells slots : Nat} {wx : va_W} {ls : Array Slot} {rest : List Value} (G : LCx p s m meth c b Lk xs V)  {pz : Nat → Int32} {fz : Nat → Nat → Int32} {gz : Nat → Nat → Int64} {wz : va_W} (kz : KZ V z pz fz gz wz) (hP : va_P V.1 vwCl (wx ++ wz) H) (hD : va_D (AAs s) (wx ++ wz)) (hS : va_S (AAs s) s.heap H locs) (hcs : cells + 0 ≤ 600000 ∧ slots + 0 ≤ 7302250) (hro : (rest.map fun v => v.category).sum ≤ 8) (hlz : ls.size = 4) (kk : (∀ (r : Int32) (H : Heap) (locs : List Loc) (pz' : Nat → Int32) (fz' : Nat → Nat → Int32) (gz' : Nat → Nat → Int64) (wz : va_W), KZ V z pz' fz' gz' wz → (∀ i ∈ [5, 13, 14], pz' i = pz i) ∧ (∀ i ∈ [0, 1, 2, 18, 19], fz' i = fz i) ∧ (∀ i ∈ [3], gz' i = gz i) → va_P V.1 vwCl (wx ++ wz) H → va_D (AAs s) (wx ++ wz) → va_S (AAs s) s.heap H locs → W p l e room_1 s m #[Value.ref b] below meth c H locs cells slots (lw_Z below #[Value.ref b] s) (F0 m 974 ls (.int r :: rest)))) : W p l e room_1 s m #[Value.ref b] below meth c H locs cells slots (lw_Z below #[Value.ref b] s) (F0 m 971 ls (.ref (z 0) :: rest)) := by
  obtain ⟨hp, hz_tz1, hz_tz3, hz_tz4, hz_tz16, hz_tz17, hz_tz20, hz_tz21, hz_tz24, hz_tz25, hz_tz26, hz_tz27, hz_tz33, hz_tz34, hz_tz37, hz_tz38, hz_RW, rfl⟩ := kz
  replace hP := swP hP
  replace hD := swD hD
  refine cSI (X := wZ V z pz fz gz) (pl := wx) (rest := rest) G (k_X10_wood_0 l V z (pz 0) (pz 5) (pz 6) (pz 7) (pz 8) (pz 9) (pz 10) (pz 11) (pz 12) (pz 13) (pz 14) (pz 18) (pz 19) (pz 22) (pz 23) (pz 29) (fz 0) (fz 14) (fz 15) (fz 16) (hp 5) (hp 6) (hp 7) (hp 8) (hp 10) (hp 11) (hp 12) (hp 13) (hp 14) (hp 18) (hp 22) (hp 29) hz_tz1 hz_tz33 hz_tz34) mt_X10_wood q_8_27 ⟨Nat.le_of_ble_eq_true rfl, Nat.le_of_ble_eq_true rfl⟩ hP hD hS [0, 1, 17, 18, 19] [0, 0, 15, 0, 0] (by decide) (by decide +kernel) rfl 0 rfl rfl rfl rfl hlz rfl hro dL_law_971 hcs (fun r w H locs hw hPD hS => ?_)
  refine Exists.elim hw (fun v0 hw => ?_)
  refine Exists.elim hw (fun g1 hw => ?_)
  refine Exists.elim hw (fun g2 hw => ?_)
  refine Exists.elim hw (fun g3 hw => ?_)
  refine And.elim (fun bg2 hw => ?_) hw
  refine And.elim (fun bg3 hw => ?_) hw
  subst hw
  obtain ⟨hP, hD⟩ := hPD (wZ V z (up9 pz 0 v0) (up9 (up9 (up9 fz 14 g1) 15 g2) 16 g3) gz) rfl rfl
  replace hP := swP hP
  replace hD := swD hD
  exact kk r H locs (up9 pz 0 v0) (up9 (up9 (up9 fz 14 g1) 15 g2) 16 g3) gz _ ⟨(ivUp 0 hp (iv_top v0)), hz_tz1, hz_tz3, hz_tz4, hz_tz16, hz_tz17, hz_tz20, hz_tz21, hz_tz24, hz_tz25, hz_tz26, hz_tz27, bg2, bg3, hz_tz37, hz_tz38, hz_RW, rfl⟩ ⟨(List.forall_mem_cons.mpr ⟨rfl, (List.forall_mem_cons.mpr ⟨rfl, (List.forall_mem_cons.mpr ⟨rfl, (fun _ h => absurd h List.not_mem_nil)⟩)⟩)⟩), (List.forall_mem_cons.mpr ⟨rfl, (List.forall_mem_cons.mpr ⟨rfl, (List.forall_mem_cons.mpr ⟨rfl, (List.forall_mem_cons.mpr ⟨rfl, (List.forall_mem_cons.mpr ⟨rfl, (fun _ h => absurd h List.not_mem_nil)⟩)⟩)⟩)⟩)⟩), (fun _ _ => rfl)⟩ hP hD hS
theorem q_8_46 : Cond.code yX10_needed prog_12_method_106_code 4 (some FieldType.int) ∈ gw := gw_8 (i := 46) (rfl) rfl
theorem q_8_44 : Cond.instanceMethod yX10_needed ∈ gw := gw_8 (i := 44) (by decide +kernel) rfl
theorem q_8_45 : Cond.selects "BeaconDelayModel" yX10_needed yX10_needed ∈ gw := gw_8 (i := 45) (by decide +kernel) rfl
theorem mt_X10_needed : MtV yX10_needed cX10_needed 4 (some .int) 0 := ⟨⟨q_8_46, q_1_9, by decide +kernel, by decide +kernel, by decide +kernel⟩, q_8_44, q_8_45⟩
theorem q_8_43 : Cond.methodLink "BeaconDelayLaw" 134 yX10_needed ∈ gw := gw_8 (i := 43) (by decide +kernel) rfl
theorem dL_law_984 : decode cL_law 984 = .ok (.invokevirtual 134, 3) := by decide +kernel
set_option maxHeartbeats 4000000 in
set_option maxRecDepth 100000 in
theorem cz_28 {p : Program} {e : Env} {s : State} {m : MethodId} {below : List Frame} {meth : Method} {c : Code} {l : Launch} {b Lk : Nat} {xs : Nat → Int32} {V : GV} {z : Nat → Nat} {H : Heap} {locs : List Loc} {cells slots : Nat} {wx : va_W} {ls : Array Slot} {rest : List Value} (G : LCx p s m meth c b Lk xs V)  {pz : Nat → Int32} {fz : Nat → Nat → Int32} {gz : Nat → Nat → Int64} {wz : va_W} (kz : KZ V z pz fz gz wz) (hP : va_P V.1 vwCl (wx ++ wz) H) (hD : va_D (AAs s) (wx ++ wz)) (hS : va_S (AAs s) s.heap H locs) (hcs : cells + 0 ≤ 600000 ∧ slots + 0 ≤ 7302250) (hro : (rest.map fun v => v.category).sum ≤ 8) (hlz : ls.size = 4) (kk : (∀ (r : Int32) (H : Heap) (locs : List Loc) (pz' : Nat → Int32) (fz' : Nat → Nat → Int32) (gz' : Nat → Nat → Int64) (wz : va_W), KZ V z pz' fz' gz' wz → (∀ i ∈ [5, 13, 14], pz' i = pz i) ∧ (∀ i ∈ [0, 1, 2, 18, 19], fz' i = fz i) ∧ (∀ i ∈ [3], gz' i = gz i) → va_P V.1 vwCl (wx ++ wz) H → va_D (AAs s) (wx ++ wz) → va_S (AAs s) s.heap H locs → W p l e room_1 s m #[Value.ref b] below meth c H locs cells slots (lw_Z below #[Value.ref b] s) (F0 m 987 ls (.int r :: rest)))) : W p l e room_1 s m #[Value.ref b] below meth c H locs cells slots (lw_Z below #[Value.ref b] s) (F0 m 984 ls (.ref (z 0) :: rest)) := by
  obtain ⟨hp, hz_tz1, hz_tz3, hz_tz4, hz_tz16, hz_tz17, hz_tz20, hz_tz21, hz_tz24, hz_tz25, hz_tz26, hz_tz27, hz_tz33, hz_tz34, hz_tz37, hz_tz38, hz_RW, rfl⟩ := kz
  replace hP := swP hP
  replace hD := swD hD
  refine cSI (X := wZ V z pz fz gz) (pl := wx) (rest := rest) G (k_X10_needed_0 l V z (pz 0) (pz 5) (pz 6) (pz 7) (pz 8) (pz 9) (pz 10) (pz 11) (pz 12) (pz 13) (pz 14) (pz 18) (pz 19) (pz 22) (pz 23) (pz 29) (fz 0) (fz 14) (fz 15) (fz 16) (hp 5) (hp 6) (hp 7) (hp 8) (hp 10) (hp 11) (hp 12) (hp 13) (hp 14) (hp 18) (hp 22) (hp 29) hz_tz1 hz_tz33 hz_tz34) mt_X10_needed q_8_43 ⟨Nat.le_of_ble_eq_true rfl, Nat.le_of_ble_eq_true rfl⟩ hP hD hS [0, 1, 17, 18, 19] [0, 0, 15, 0, 0] (by decide) (by decide +kernel) rfl 0 rfl rfl rfl rfl hlz rfl hro dL_law_984 hcs (fun r w H locs hw hPD hS => ?_)
  refine Exists.elim hw (fun v0 hw => ?_)
  refine Exists.elim hw (fun g1 hw => ?_)
  refine Exists.elim hw (fun g2 hw => ?_)
  refine Exists.elim hw (fun g3 hw => ?_)
  refine And.elim (fun bg2 hw => ?_) hw
  refine And.elim (fun bg3 hw => ?_) hw
  subst hw
  obtain ⟨hP, hD⟩ := hPD (wZ V z (up9 pz 0 v0) (up9 (up9 (up9 fz 14 g1) 15 g2) 16 g3) gz) rfl rfl
  replace hP := swP hP
  replace hD := swD hD
  exact kk r H locs (up9 pz 0 v0) (up9 (up9 (up9 fz 14 g1) 15 g2) 16 g3) gz _ ⟨(ivUp 0 hp (iv_top v0)), hz_tz1, hz_tz3, hz_tz4, hz_tz16, hz_tz17, hz_tz20, hz_tz21, hz_tz24, hz_tz25, hz_tz26, hz_tz27, bg2, bg3, hz_tz37, hz_tz38, hz_RW, rfl⟩ ⟨(List.forall_mem_cons.mpr ⟨rfl, (List.forall_mem_cons.mpr ⟨rfl, (List.forall_mem_cons.mpr ⟨rfl, (fun _ h => absurd h List.not_mem_nil)⟩)⟩)⟩), (List.forall_mem_cons.mpr ⟨rfl, (List.forall_mem_cons.mpr ⟨rfl, (List.forall_mem_cons.mpr ⟨rfl, (List.forall_mem_cons.mpr ⟨rfl, (List.forall_mem_cons.mpr ⟨rfl, (fun _ h => absurd h List.not_mem_nil)⟩)⟩)⟩)⟩)⟩), (fun _ _ => rfl)⟩ hP hD hS
theorem q_8_50 : Cond.code yX10_high prog_12_method_110_code 4 (some FieldType.long) ∈ gw := gw_8 (i := 50) (rfl) rfl
theorem q_8_48 : Cond.instanceMethod yX10_high ∈ gw := gw_8 (i := 48) (by decide +kernel) rfl
theorem q_8_49 : Cond.selects "BeaconDelayModel" yX10_high yX10_high ∈ gw := gw_8 (i := 49) (by decide +kernel) rfl
theorem mt_X10_high : MtV yX10_high cX10_high 4 (some .long) 2 := ⟨⟨q_8_50, q_1_9, by decide +kernel, by decide +kernel, by decide +kernel⟩, q_8_48, q_8_49⟩
theorem q_8_47 : Cond.methodLink "BeaconDelayLaw" 139 yX10_high ∈ gw := gw_8 (i := 47) (by decide +kernel) rfl
theorem dL_law_1017 : decode cL_law 1017 = .ok (.invokevirtual 139, 3) := by decide +kernel
set_option maxHeartbeats 4000000 in
set_option maxRecDepth 100000 in
theorem cz_29 {p : Program} {e : Env} {s : State} {m : MethodId} {below : List Frame} {meth : Method} {c : Code} {l : Launch} {b Lk : Nat} {xs : Nat → Int32} {V : GV} {z : Nat → Nat} {H : Heap} {locs : List Loc} {cells slots : Nat} {wx : va_W} {ls : Array Slot} {rest : List Value} (G : LCx p s m meth c b Lk xs V) (a1 : Int32) (a2 : Int32) {pz : Nat → Int32} {fz : Nat → Nat → Int32} {gz : Nat → Nat → Int64} {wz : va_W} (kz : KZ V z pz fz gz wz) (hP : va_P V.1 vwCl (wx ++ wz) H) (hD : va_D (AAs s) (wx ++ wz)) (hS : va_S (AAs s) s.heap H locs) (hcs : cells + 0 ≤ 600000 ∧ slots + 0 ≤ 7302250) (hro : (rest.map fun v => v.category).sum ≤ 8) (hlz : ls.size = 4) (kk : (∀ (r : Int64) (H : Heap) (locs : List Loc) (pz' : Nat → Int32) (fz' : Nat → Nat → Int32) (gz' : Nat → Nat → Int64) (wz : va_W), KZ V z pz' fz' gz' wz → (∀ i ∈ [5, 13, 14], pz' i = pz i) ∧ (∀ i ∈ [0, 1, 2, 18, 19], fz' i = fz i) ∧ (∀ i ∈ [3], gz' i = gz i) → va_P V.1 vwCl (wx ++ wz) H → va_D (AAs s) (wx ++ wz) → va_S (AAs s) s.heap H locs → W p l e room_1 s m #[Value.ref b] below meth c H locs cells slots (lw_Z below #[Value.ref b] s) (F0 m 1020 ls (.long r :: rest)))) : W p l e room_1 s m #[Value.ref b] below meth c H locs cells slots (lw_Z below #[Value.ref b] s) (F0 m 1017 ls (.int a2 :: .int a1 :: .ref (z 0) :: rest)) := by
  obtain ⟨hp, hz_tz1, hz_tz3, hz_tz4, hz_tz16, hz_tz17, hz_tz20, hz_tz21, hz_tz24, hz_tz25, hz_tz26, hz_tz27, hz_tz33, hz_tz34, hz_tz37, hz_tz38, hz_RW, rfl⟩ := kz
  replace hP := swP hP
  replace hD := swD hD
  refine cSL (X := wZ V z pz fz gz) (pl := wx) (rest := rest) G (k_X10_high_0 l V z a1 a2 (pz 0) (pz 5) (pz 6) (pz 7) (pz 8) (pz 9) (pz 10) (pz 11) (pz 12) (pz 13) (pz 14) (pz 18) (pz 19) (pz 22) (pz 23) (pz 29) (fz 0) (fz 4) (fz 5) (fz 9) (fz 10) (fz 13) (gz 2) (fz 18) (fz 19) (gz 3) (hp 5) (hp 6) (hp 7) (hp 8) (hp 10) (hp 11) (hp 12) (hp 13) (hp 14) (hp 18) (hp 22) (hp 29) hz_tz1 hz_tz16 hz_tz24 hz_tz25 hz_tz37 hz_tz38 hz_RW) mt_X10_high q_8_47 ⟨Nat.le_of_ble_eq_true rfl, Nat.le_of_ble_eq_true rfl⟩ hP hD hS [0, 1, 5, 6, 10, 11, 14, 20, 22, 23, 24] [0, 0, 3, 0, 3, 0, 2, 5, 1, 0, 0] (by decide) (by decide +kernel) rfl 0 rfl rfl rfl rfl hlz rfl hro dL_law_1017 hcs (fun r w H locs hw hPD hS => ?_)
  refine Exists.elim hw (fun v0 hw => ?_)
  refine Exists.elim hw (fun v1 hw => ?_)
  refine Exists.elim hw (fun g2 hw => ?_)
  refine Exists.elim hw (fun g3 hw => ?_)
  refine Exists.elim hw (fun g4 hw => ?_)
  refine Exists.elim hw (fun g5 hw => ?_)
  refine Exists.elim hw (fun g6 hw => ?_)
  refine Exists.elim hw (fun g7 hw => ?_)
  refine And.elim (fun bv1 hw => ?_) hw
  refine And.elim (fun bg3 hw => ?_) hw
  refine And.elim (fun bg4 hw => ?_) hw
  refine And.elim (fun bg5 hw => ?_) hw
  refine And.elim (fun g_0 hw => ?_) hw
  subst hw
  obtain ⟨hP, hD⟩ := hPD (wZ V z (up9 (up9 pz 0 v0) 29 v1) (br9 14 (br9 7 (br9 3 fz (br9 5 (br9 4 fz (lf9 g2)) (br9 6 (lf9 g3) fz))) (br9 10 (br9 8 fz (br9 9 fz (lf9 g4))) (br9 12 (br9 11 (lf9 g5) fz) (br9 13 fz (lf9 g6))))) fz) (up9 gz 2 g7)) rfl rfl
  replace hP := swP hP
  replace hD := swD hD
  exact kk r H locs (up9 (up9 pz 0 v0) 29 v1) (br9 14 (br9 7 (br9 3 fz (br9 5 (br9 4 fz (lf9 g2)) (br9 6 (lf9 g3) fz))) (br9 10 (br9 8 fz (br9 9 fz (lf9 g4))) (br9 12 (br9 11 (lf9 g5) fz) (br9 13 fz (lf9 g6))))) fz) (up9 gz 2 g7) _ ⟨(ivUp 29 (ivUp 0 hp (iv_top v0)) bv1), hz_tz1, hz_tz3, hz_tz4, bg3, hz_tz17, hz_tz20, hz_tz21, bg4, bg5, hz_tz26, hz_tz27, hz_tz33, hz_tz34, hz_tz37, hz_tz38, g_0, rfl⟩ ⟨(List.forall_mem_cons.mpr ⟨rfl, (List.forall_mem_cons.mpr ⟨rfl, (List.forall_mem_cons.mpr ⟨rfl, (fun _ h => absurd h List.not_mem_nil)⟩)⟩)⟩), (List.forall_mem_cons.mpr ⟨rfl, (List.forall_mem_cons.mpr ⟨rfl, (List.forall_mem_cons.mpr ⟨rfl, (List.forall_mem_cons.mpr ⟨rfl, (List.forall_mem_cons.mpr ⟨rfl, (fun _ h => absurd h List.not_mem_nil)⟩)⟩)⟩)⟩)⟩), (List.forall_mem_cons.mpr ⟨rfl, (fun _ h => absurd h List.not_mem_nil)⟩)⟩ hP hD hS
theorem q_8_68 : Cond.code yX10_highBy prog_12_method_111_code 8 (some FieldType.int) ∈ gw := gw_8 (i := 68) (rfl) rfl
theorem q_8_66 : Cond.instanceMethod yX10_highBy ∈ gw := gw_8 (i := 66) (by decide +kernel) rfl
theorem q_8_67 : Cond.selects "BeaconDelayModel" yX10_highBy yX10_highBy ∈ gw := gw_8 (i := 67) (by decide +kernel) rfl
theorem mt_X10_highBy : MtV yX10_highBy cX10_highBy 8 (some .int) 3 := ⟨⟨q_8_68, q_1_9, by decide +kernel, by decide +kernel, by decide +kernel⟩, q_8_66, q_8_67⟩
theorem q_8_65 : Cond.methodLink "BeaconDelayLaw" 143 yX10_highBy ∈ gw := gw_8 (i := 65) (by decide +kernel) rfl
theorem dL_law_1060 : decode cL_law 1060 = .ok (.invokevirtual 143, 3) := by decide +kernel
set_option maxHeartbeats 4000000 in
set_option maxRecDepth 100000 in
theorem cz_30 {p : Program} {e : Env} {s : State} {m : MethodId} {below : List Frame} {meth : Method} {c : Code} {l : Launch} {b Lk : Nat} {xs : Nat → Int32} {V : GV} {z : Nat → Nat} {H : Heap} {locs : List Loc} {cells slots : Nat} {wx : va_W} {ls : Array Slot} {rest : List Value} (G : LCx p s m meth c b Lk xs V) (a1 : Int32) (a2 : Int32) (a3 : Int32) {pz : Nat → Int32} {fz : Nat → Nat → Int32} {gz : Nat → Nat → Int64} {wz : va_W} (kz : KZ V z pz fz gz wz) (hP : va_P V.1 vwCl (wx ++ wz) H) (hD : va_D (AAs s) (wx ++ wz)) (hS : va_S (AAs s) s.heap H locs) (hcs : cells + 0 ≤ 600000 ∧ slots + 0 ≤ 7302250) (hro : (rest.map fun v => v.category).sum ≤ 8) (hlz : ls.size = 4) (kk : (∀ (r : Int32) (H : Heap) (locs : List Loc) (pz' : Nat → Int32) (fz' : Nat → Nat → Int32) (gz' : Nat → Nat → Int64) (wz : va_W), KZ V z pz' fz' gz' wz → (∀ i ∈ [5, 13, 14], pz' i = pz i) ∧ (∀ i ∈ [0, 1, 2, 18, 19], fz' i = fz i) ∧ (∀ i ∈ [3], gz' i = gz i) → va_P V.1 vwCl (wx ++ wz) H → va_D (AAs s) (wx ++ wz) → va_S (AAs s) s.heap H locs → W p l e room_1 s m #[Value.ref b] below meth c H locs cells slots (lw_Z below #[Value.ref b] s) (F0 m 1063 ls (.int r :: rest)))) : W p l e room_1 s m #[Value.ref b] below meth c H locs cells slots (lw_Z below #[Value.ref b] s) (F0 m 1060 ls (.int a3 :: .int a2 :: .int a1 :: .ref (z 0) :: rest)) := by
  obtain ⟨hp, hz_tz1, hz_tz3, hz_tz4, hz_tz16, hz_tz17, hz_tz20, hz_tz21, hz_tz24, hz_tz25, hz_tz26, hz_tz27, hz_tz33, hz_tz34, hz_tz37, hz_tz38, hz_RW, rfl⟩ := kz
  replace hP := swP hP
  replace hD := swD hD
  refine cSI (X := wZ V z pz fz gz) (pl := wx) (rest := rest) G (k_X10_highBy_0 l V z a1 a2 a3 (pz 0) (pz 5) (pz 6) (pz 7) (pz 8) (pz 9) (pz 10) (pz 11) (pz 12) (pz 13) (pz 14) (pz 18) (pz 19) (pz 22) (pz 23) (pz 29) (fz 0) (fz 4) (fz 5) (fz 9) (fz 10) (fz 13) (gz 2) (fz 18) (fz 19) (gz 3) (hp 5) (hp 6) (hp 7) (hp 8) (hp 10) (hp 11) (hp 12) (hp 13) (hp 14) (hp 18) (hp 22) (hp 29) hz_tz1 hz_tz16 hz_tz24 hz_tz25 hz_tz37 hz_tz38 hz_RW) mt_X10_highBy q_8_65 ⟨Nat.le_of_ble_eq_true rfl, Nat.le_of_ble_eq_true rfl⟩ hP hD hS [0, 1, 5, 6, 10, 11, 14, 20, 22, 23, 24] [0, 0, 3, 0, 3, 0, 2, 5, 1, 0, 0] (by decide) (by decide +kernel) rfl 0 rfl rfl rfl rfl hlz rfl hro dL_law_1060 hcs (fun r w H locs hw hPD hS => ?_)
  refine Exists.elim hw (fun v0 hw => ?_)
  refine Exists.elim hw (fun v1 hw => ?_)
  refine Exists.elim hw (fun g2 hw => ?_)
  refine Exists.elim hw (fun g3 hw => ?_)
  refine Exists.elim hw (fun g4 hw => ?_)
  refine Exists.elim hw (fun g5 hw => ?_)
  refine Exists.elim hw (fun g6 hw => ?_)
  refine Exists.elim hw (fun g7 hw => ?_)
  refine And.elim (fun bv1 hw => ?_) hw
  refine And.elim (fun bg3 hw => ?_) hw
  refine And.elim (fun bg4 hw => ?_) hw
  refine And.elim (fun bg5 hw => ?_) hw
  refine And.elim (fun br hw => ?_) hw
  refine And.elim (fun g_0 hw => ?_) hw
  subst hw
  obtain ⟨hP, hD⟩ := hPD (wZ V z (up9 (up9 pz 0 v0) 29 v1) (br9 14 (br9 7 (br9 3 fz (br9 5 (br9 4 fz (lf9 g2)) (br9 6 (lf9 g3) fz))) (br9 10 (br9 8 fz (br9 9 fz (lf9 g4))) (br9 12 (br9 11 (lf9 g5) fz) (br9 13 fz (lf9 g6))))) fz) (up9 gz 2 g7)) rfl rfl
  replace hP := swP hP
  replace hD := swD hD
  exact kk r H locs (up9 (up9 pz 0 v0) 29 v1) (br9 14 (br9 7 (br9 3 fz (br9 5 (br9 4 fz (lf9 g2)) (br9 6 (lf9 g3) fz))) (br9 10 (br9 8 fz (br9 9 fz (lf9 g4))) (br9 12 (br9 11 (lf9 g5) fz) (br9 13 fz (lf9 g6))))) fz) (up9 gz 2 g7) _ ⟨(ivUp 29 (ivUp 0 hp (iv_top v0)) bv1), hz_tz1, hz_tz3, hz_tz4, bg3, hz_tz17, hz_tz20, hz_tz21, bg4, bg5, hz_tz26, hz_tz27, hz_tz33, hz_tz34, hz_tz37, hz_tz38, g_0, rfl⟩ ⟨(List.forall_mem_cons.mpr ⟨rfl, (List.forall_mem_cons.mpr ⟨rfl, (List.forall_mem_cons.mpr ⟨rfl, (fun _ h => absurd h List.not_mem_nil)⟩)⟩)⟩), (List.forall_mem_cons.mpr ⟨rfl, (List.forall_mem_cons.mpr ⟨rfl, (List.forall_mem_cons.mpr ⟨rfl, (List.forall_mem_cons.mpr ⟨rfl, (List.forall_mem_cons.mpr ⟨rfl, (fun _ h => absurd h List.not_mem_nil)⟩)⟩)⟩)⟩)⟩), (List.forall_mem_cons.mpr ⟨rfl, (fun _ h => absurd h List.not_mem_nil)⟩)⟩ hP hD hS
theorem q_8_72 : Cond.code yX10_fogs prog_12_method_112_code 10 (some FieldType.int) ∈ gw := gw_8 (i := 72) (rfl) rfl
theorem q_8_70 : Cond.instanceMethod yX10_fogs ∈ gw := gw_8 (i := 70) (by decide +kernel) rfl
theorem q_8_71 : Cond.selects "BeaconDelayModel" yX10_fogs yX10_fogs ∈ gw := gw_8 (i := 71) (by decide +kernel) rfl
theorem mt_X10_fogs : MtV yX10_fogs cX10_fogs 10 (some .int) 3 := ⟨⟨q_8_72, q_1_9, by decide +kernel, by decide +kernel, by decide +kernel⟩, q_8_70, q_8_71⟩
theorem q_8_69 : Cond.methodLink "BeaconDelayLaw" 147 yX10_fogs ∈ gw := gw_8 (i := 69) (by decide +kernel) rfl
theorem dL_law_1103 : decode cL_law 1103 = .ok (.invokevirtual 147, 3) := by decide +kernel
set_option maxHeartbeats 4000000 in
set_option maxRecDepth 100000 in
theorem cz_31 {p : Program} {e : Env} {s : State} {m : MethodId} {below : List Frame} {meth : Method} {c : Code} {l : Launch} {b Lk : Nat} {xs : Nat → Int32} {V : GV} {z : Nat → Nat} {H : Heap} {locs : List Loc} {cells slots : Nat} {wx : va_W} {ls : Array Slot} {rest : List Value} (G : LCx p s m meth c b Lk xs V) (a1 : Int32) (a2 : Int32) (a3 : Int32) {pz : Nat → Int32} {fz : Nat → Nat → Int32} {gz : Nat → Nat → Int64} {wz : va_W} (kz : KZ V z pz fz gz wz) (hP : va_P V.1 vwCl (wx ++ wz) H) (hD : va_D (AAs s) (wx ++ wz)) (hS : va_S (AAs s) s.heap H locs) (hcs : cells + 0 ≤ 600000 ∧ slots + 0 ≤ 7302250) (hro : (rest.map fun v => v.category).sum ≤ 8) (hlz : ls.size = 4) (kk : (∀ (r : Int32) (H : Heap) (locs : List Loc) (pz' : Nat → Int32) (fz' : Nat → Nat → Int32) (gz' : Nat → Nat → Int64) (wz : va_W), KZ V z pz' fz' gz' wz → (∀ i ∈ [5, 13, 14], pz' i = pz i) ∧ (∀ i ∈ [0, 1, 2, 18, 19], fz' i = fz i) ∧ (∀ i ∈ [3], gz' i = gz i) → va_P V.1 vwCl (wx ++ wz) H → va_D (AAs s) (wx ++ wz) → va_S (AAs s) s.heap H locs → W p l e room_1 s m #[Value.ref b] below meth c H locs cells slots (lw_Z below #[Value.ref b] s) (F0 m 1106 ls (.int r :: rest)))) : W p l e room_1 s m #[Value.ref b] below meth c H locs cells slots (lw_Z below #[Value.ref b] s) (F0 m 1103 ls (.int a3 :: .int a2 :: .int a1 :: .ref (z 0) :: rest)) := by
  obtain ⟨hp, hz_tz1, hz_tz3, hz_tz4, hz_tz16, hz_tz17, hz_tz20, hz_tz21, hz_tz24, hz_tz25, hz_tz26, hz_tz27, hz_tz33, hz_tz34, hz_tz37, hz_tz38, hz_RW, rfl⟩ := kz
  replace hP := swP hP
  replace hD := swD hD
  refine cSI (X := wZ V z pz fz gz) (pl := wx) (rest := rest) G (k_X10_fogs_0 l V z a1 a2 a3 (pz 0) (pz 5) (pz 6) (pz 7) (pz 8) (pz 9) (pz 10) (pz 11) (pz 12) (pz 13) (pz 14) (pz 18) (pz 19) (pz 22) (pz 23) (pz 29) (fz 0) (fz 4) (fz 5) (fz 9) (fz 10) (fz 13) (gz 0) (gz 1) (gz 2) (fz 18) (fz 19) (gz 3) (hp 5) (hp 6) (hp 7) (hp 8) (hp 10) (hp 11) (hp 12) (hp 13) (hp 14) (hp 18) (hp 22) (hp 29) hz_tz1 hz_tz16 hz_tz24 hz_tz25 hz_tz37 hz_tz38 hz_RW) mt_X10_fogs q_8_69 ⟨Nat.le_of_ble_eq_true rfl, Nat.le_of_ble_eq_true rfl⟩ hP hD hS [0, 1, 5, 6, 10, 11, 14, 15, 16, 20, 22, 23, 24] [0, 0, 3, 0, 3, 0, 2, 0, 0, 3, 1, 0, 0] (by decide) (by decide +kernel) rfl 0 rfl rfl rfl rfl hlz rfl hro dL_law_1103 hcs (fun r w H locs hw hPD hS => ?_)
  refine Exists.elim hw (fun v0 hw => ?_)
  refine Exists.elim hw (fun v1 hw => ?_)
  refine Exists.elim hw (fun g2 hw => ?_)
  refine Exists.elim hw (fun g3 hw => ?_)
  refine Exists.elim hw (fun g4 hw => ?_)
  refine Exists.elim hw (fun g5 hw => ?_)
  refine Exists.elim hw (fun g6 hw => ?_)
  refine Exists.elim hw (fun g7 hw => ?_)
  refine Exists.elim hw (fun g8 hw => ?_)
  refine Exists.elim hw (fun g9 hw => ?_)
  refine And.elim (fun bv1 hw => ?_) hw
  refine And.elim (fun bg3 hw => ?_) hw
  refine And.elim (fun bg4 hw => ?_) hw
  refine And.elim (fun bg5 hw => ?_) hw
  refine And.elim (fun g_0 hw => ?_) hw
  subst hw
  obtain ⟨hP, hD⟩ := hPD (wZ V z (up9 (up9 pz 0 v0) 29 v1) (br9 14 (br9 7 (br9 3 fz (br9 5 (br9 4 fz (lf9 g2)) (br9 6 (lf9 g3) fz))) (br9 10 (br9 8 fz (br9 9 fz (lf9 g4))) (br9 12 (br9 11 (lf9 g5) fz) (br9 13 fz (lf9 g6))))) fz) (up9 (up9 (up9 gz 0 g7) 1 g8) 2 g9)) rfl rfl
  replace hP := swP hP
  replace hD := swD hD
  exact kk r H locs (up9 (up9 pz 0 v0) 29 v1) (br9 14 (br9 7 (br9 3 fz (br9 5 (br9 4 fz (lf9 g2)) (br9 6 (lf9 g3) fz))) (br9 10 (br9 8 fz (br9 9 fz (lf9 g4))) (br9 12 (br9 11 (lf9 g5) fz) (br9 13 fz (lf9 g6))))) fz) (up9 (up9 (up9 gz 0 g7) 1 g8) 2 g9) _ ⟨(ivUp 29 (ivUp 0 hp (iv_top v0)) bv1), hz_tz1, hz_tz3, hz_tz4, bg3, hz_tz17, hz_tz20, hz_tz21, bg4, bg5, hz_tz26, hz_tz27, hz_tz33, hz_tz34, hz_tz37, hz_tz38, g_0, rfl⟩ ⟨(List.forall_mem_cons.mpr ⟨rfl, (List.forall_mem_cons.mpr ⟨rfl, (List.forall_mem_cons.mpr ⟨rfl, (fun _ h => absurd h List.not_mem_nil)⟩)⟩)⟩), (List.forall_mem_cons.mpr ⟨rfl, (List.forall_mem_cons.mpr ⟨rfl, (List.forall_mem_cons.mpr ⟨rfl, (List.forall_mem_cons.mpr ⟨rfl, (List.forall_mem_cons.mpr ⟨rfl, (fun _ h => absurd h List.not_mem_nil)⟩)⟩)⟩)⟩)⟩), (List.forall_mem_cons.mpr ⟨rfl, (fun _ h => absurd h List.not_mem_nil)⟩)⟩ hP hD hS
theorem q_8_76 : Cond.code yX10_weathers prog_12_method_114_code 4 (some FieldType.int) ∈ gw := gw_8 (i := 76) (rfl) rfl
theorem q_8_74 : Cond.instanceMethod yX10_weathers ∈ gw := gw_8 (i := 74) (by decide +kernel) rfl
theorem q_8_75 : Cond.selects "BeaconDelayModel" yX10_weathers yX10_weathers ∈ gw := gw_8 (i := 75) (by decide +kernel) rfl
theorem mt_X10_weathers : MtV yX10_weathers cX10_weathers 4 (some .int) 2 := ⟨⟨q_8_76, q_1_9, by decide +kernel, by decide +kernel, by decide +kernel⟩, q_8_74, q_8_75⟩
theorem q_8_73 : Cond.methodLink "BeaconDelayLaw" 151 yX10_weathers ∈ gw := gw_8 (i := 73) (by decide +kernel) rfl
theorem dL_law_1136 : decode cL_law 1136 = .ok (.invokevirtual 151, 3) := by decide +kernel
set_option maxHeartbeats 4000000 in
set_option maxRecDepth 100000 in
theorem cz_32 {p : Program} {e : Env} {s : State} {m : MethodId} {below : List Frame} {meth : Method} {c : Code} {l : Launch} {b Lk : Nat} {xs : Nat → Int32} {V : GV} {z : Nat → Nat} {H : Heap} {locs : List Loc} {cells slots : Nat} {wx : va_W} {ls : Array Slot} {rest : List Value} (G : LCx p s m meth c b Lk xs V) (a1 : Int32) (a2 : Int32) {pz : Nat → Int32} {fz : Nat → Nat → Int32} {gz : Nat → Nat → Int64} {wz : va_W} (kz : KZ V z pz fz gz wz) (hP : va_P V.1 vwCl (wx ++ wz) H) (hD : va_D (AAs s) (wx ++ wz)) (hS : va_S (AAs s) s.heap H locs) (hcs : cells + 0 ≤ 600000 ∧ slots + 0 ≤ 7302250) (hro : (rest.map fun v => v.category).sum ≤ 8) (hlz : ls.size = 4) (kk : (∀ (r : Int32) (H : Heap) (locs : List Loc) (pz' : Nat → Int32) (fz' : Nat → Nat → Int32) (gz' : Nat → Nat → Int64) (wz : va_W), KZ V z pz' fz' gz' wz → (∀ i ∈ [5, 13, 14], pz' i = pz i) ∧ (∀ i ∈ [0, 1, 2, 18, 19], fz' i = fz i) ∧ (∀ i ∈ [3], gz' i = gz i) → va_P V.1 vwCl (wx ++ wz) H → va_D (AAs s) (wx ++ wz) → va_S (AAs s) s.heap H locs → W p l e room_1 s m #[Value.ref b] below meth c H locs cells slots (lw_Z below #[Value.ref b] s) (F0 m 1139 ls (.int r :: rest)))) : W p l e room_1 s m #[Value.ref b] below meth c H locs cells slots (lw_Z below #[Value.ref b] s) (F0 m 1136 ls (.int a2 :: .int a1 :: .ref (z 0) :: rest)) := by
  obtain ⟨hp, hz_tz1, hz_tz3, hz_tz4, hz_tz16, hz_tz17, hz_tz20, hz_tz21, hz_tz24, hz_tz25, hz_tz26, hz_tz27, hz_tz33, hz_tz34, hz_tz37, hz_tz38, hz_RW, rfl⟩ := kz
  replace hP := swP hP
  replace hD := swD hD
  refine cSI (X := wZ V z pz fz gz) (pl := wx) (rest := rest) G (k_X10_weathers_0 l V z a1 a2 (pz 0) (pz 5) (pz 6) (pz 7) (pz 8) (pz 9) (pz 10) (pz 11) (pz 12) (pz 13) (pz 14) (pz 18) (pz 19) (pz 22) (pz 23) (pz 29) (fz 0) (fz 4) (fz 5) (fz 18) (fz 19) (gz 3) (hp 5) (hp 6) (hp 7) (hp 8) (hp 10) (hp 11) (hp 12) (hp 13) (hp 14) (hp 18) (hp 22) (hp 29) hz_tz1 hz_tz16 hz_tz37 hz_tz38 hz_RW) mt_X10_weathers q_8_73 ⟨Nat.le_of_ble_eq_true rfl, Nat.le_of_ble_eq_true rfl⟩ hP hD hS [0, 1, 5, 6, 22, 23, 24] [0, 0, 3, 0, 15, 0, 0] (by decide) (by decide +kernel) rfl 0 rfl rfl rfl rfl hlz rfl hro dL_law_1136 hcs (fun r w H locs hw hPD hS => ?_)
  refine Exists.elim hw (fun v0 hw => ?_)
  refine Exists.elim hw (fun g1 hw => ?_)
  refine Exists.elim hw (fun g2 hw => ?_)
  refine And.elim (fun bg2 hw => ?_) hw
  refine And.elim (fun g_0 hw => ?_) hw
  subst hw
  obtain ⟨hP, hD⟩ := hPD (wZ V z (up9 pz 0 v0) (up9 (up9 fz 4 g1) 5 g2) gz) rfl rfl
  replace hP := swP hP
  replace hD := swD hD
  exact kk r H locs (up9 pz 0 v0) (up9 (up9 fz 4 g1) 5 g2) gz _ ⟨(ivUp 0 hp (iv_top v0)), hz_tz1, hz_tz3, hz_tz4, bg2, hz_tz17, hz_tz20, hz_tz21, hz_tz24, hz_tz25, hz_tz26, hz_tz27, hz_tz33, hz_tz34, hz_tz37, hz_tz38, g_0, rfl⟩ ⟨(List.forall_mem_cons.mpr ⟨rfl, (List.forall_mem_cons.mpr ⟨rfl, (List.forall_mem_cons.mpr ⟨rfl, (fun _ h => absurd h List.not_mem_nil)⟩)⟩)⟩), (List.forall_mem_cons.mpr ⟨rfl, (List.forall_mem_cons.mpr ⟨rfl, (List.forall_mem_cons.mpr ⟨rfl, (List.forall_mem_cons.mpr ⟨rfl, (List.forall_mem_cons.mpr ⟨rfl, (fun _ h => absurd h List.not_mem_nil)⟩)⟩)⟩)⟩)⟩), (fun _ _ => rfl)⟩ hP hD hS
theorem q_8_84 : Cond.code yX10_attempt prog_12_method_116_code 9 (some FieldType.int) ∈ gw := gw_8 (i := 84) (rfl) rfl
theorem q_8_82 : Cond.instanceMethod yX10_attempt ∈ gw := gw_8 (i := 82) (by decide +kernel) rfl
theorem q_8_83 : Cond.selects "BeaconDelayModel" yX10_attempt yX10_attempt ∈ gw := gw_8 (i := 83) (by decide +kernel) rfl
theorem mt_X10_attempt : MtV yX10_attempt cX10_attempt 9 (some .int) 2 := ⟨⟨q_8_84, q_1_9, by decide +kernel, by decide +kernel, by decide +kernel⟩, q_8_82, q_8_83⟩
theorem q_8_81 : Cond.methodLink "BeaconDelayLaw" 155 yX10_attempt ∈ gw := gw_8 (i := 81) (by decide +kernel) rfl
theorem dL_law_1169 : decode cL_law 1169 = .ok (.invokevirtual 155, 3) := by decide +kernel
set_option maxHeartbeats 4000000 in
set_option maxRecDepth 100000 in
theorem cz_33 {p : Program} {e : Env} {s : State} {m : MethodId} {below : List Frame} {meth : Method} {c : Code} {l : Launch} {b Lk : Nat} {xs : Nat → Int32} {V : GV} {z : Nat → Nat} {H : Heap} {locs : List Loc} {cells slots : Nat} {wx : va_W} {ls : Array Slot} {rest : List Value} (G : LCx p s m meth c b Lk xs V) (a1 : Int32) (a2 : Int32) {pz : Nat → Int32} {fz : Nat → Nat → Int32} {gz : Nat → Nat → Int64} {wz : va_W} (kz : KZ V z pz fz gz wz) (hP : va_P V.1 vwCl (wx ++ wz) H) (hD : va_D (AAs s) (wx ++ wz)) (hS : va_S (AAs s) s.heap H locs) (hcs : cells + 0 ≤ 600000 ∧ slots + 0 ≤ 7302250) (hro : (rest.map fun v => v.category).sum ≤ 8) (hlz : ls.size = 4) (kk : (∀ (r : Int32) (H : Heap) (locs : List Loc) (pz' : Nat → Int32) (fz' : Nat → Nat → Int32) (gz' : Nat → Nat → Int64) (wz : va_W), KZ V z pz' fz' gz' wz → (∀ i ∈ [5, 13, 14], pz' i = pz i) ∧ (∀ i ∈ [0, 1, 2, 18, 19], fz' i = fz i) ∧ (∀ i ∈ [3], gz' i = gz i) → va_P V.1 vwCl (wx ++ wz) H → va_D (AAs s) (wx ++ wz) → va_S (AAs s) s.heap H locs → W p l e room_1 s m #[Value.ref b] below meth c H locs cells slots (lw_Z below #[Value.ref b] s) (F0 m 1172 ls (.int r :: rest)))) : W p l e room_1 s m #[Value.ref b] below meth c H locs cells slots (lw_Z below #[Value.ref b] s) (F0 m 1169 ls (.int a2 :: .int a1 :: .ref (z 0) :: rest)) := by
  obtain ⟨hp, hz_tz1, hz_tz3, hz_tz4, hz_tz16, hz_tz17, hz_tz20, hz_tz21, hz_tz24, hz_tz25, hz_tz26, hz_tz27, hz_tz33, hz_tz34, hz_tz37, hz_tz38, hz_RW, rfl⟩ := kz
  replace hP := swP hP
  replace hD := swD hD
  refine cSI (X := wZ V z pz fz gz) (pl := wx) (rest := rest) G (k_X10_attempt_0 l V z a1 a2 (pz 0) (pz 5) (pz 6) (pz 7) (pz 8) (pz 9) (pz 10) (pz 11) (pz 12) (pz 13) (pz 14) (pz 18) (pz 19) (pz 22) (pz 23) (pz 29) (fz 0) (fz 4) (fz 5) (fz 17) (fz 18) (fz 19) (gz 3) (hp 5) (hp 6) (hp 7) (hp 8) (hp 10) (hp 11) (hp 12) (hp 13) (hp 14) (hp 18) (hp 22) (hp 29) hz_tz1 hz_tz16 hz_tz37 hz_tz38 hz_RW) mt_X10_attempt q_8_81 ⟨Nat.le_of_ble_eq_true rfl, Nat.le_of_ble_eq_true rfl⟩ hP hD hS [0, 1, 5, 6, 21, 22, 23, 24] [0, 0, 3, 0, 14, 0, 0, 0] (by decide) (by decide +kernel) rfl 0 rfl rfl rfl rfl hlz rfl hro dL_law_1169 hcs (fun r w H locs hw hPD hS => ?_)
  refine Exists.elim hw (fun v0 hw => ?_)
  refine Exists.elim hw (fun g1 hw => ?_)
  refine Exists.elim hw (fun g2 hw => ?_)
  refine Exists.elim hw (fun g3 hw => ?_)
  refine And.elim (fun bg2 hw => ?_) hw
  refine And.elim (fun g_0 hw => ?_) hw
  subst hw
  obtain ⟨hP, hD⟩ := hPD (wZ V z (up9 pz 0 v0) (up9 (up9 (up9 fz 4 g1) 5 g2) 17 g3) gz) rfl rfl
  replace hP := swP hP
  replace hD := swD hD
  exact kk r H locs (up9 pz 0 v0) (up9 (up9 (up9 fz 4 g1) 5 g2) 17 g3) gz _ ⟨(ivUp 0 hp (iv_top v0)), hz_tz1, hz_tz3, hz_tz4, bg2, hz_tz17, hz_tz20, hz_tz21, hz_tz24, hz_tz25, hz_tz26, hz_tz27, hz_tz33, hz_tz34, hz_tz37, hz_tz38, g_0, rfl⟩ ⟨(List.forall_mem_cons.mpr ⟨rfl, (List.forall_mem_cons.mpr ⟨rfl, (List.forall_mem_cons.mpr ⟨rfl, (fun _ h => absurd h List.not_mem_nil)⟩)⟩)⟩), (List.forall_mem_cons.mpr ⟨rfl, (List.forall_mem_cons.mpr ⟨rfl, (List.forall_mem_cons.mpr ⟨rfl, (List.forall_mem_cons.mpr ⟨rfl, (List.forall_mem_cons.mpr ⟨rfl, (fun _ h => absurd h List.not_mem_nil)⟩)⟩)⟩)⟩)⟩), (fun _ _ => rfl)⟩ hP hD hS
theorem q_8_92 : Cond.code yX10_forces prog_12_method_120_code 4 (some FieldType.int) ∈ gw := gw_8 (i := 92) (rfl) rfl
theorem q_8_90 : Cond.instanceMethod yX10_forces ∈ gw := gw_8 (i := 90) (by decide +kernel) rfl
theorem q_8_91 : Cond.selects "BeaconDelayModel" yX10_forces yX10_forces ∈ gw := gw_8 (i := 91) (by decide +kernel) rfl
theorem mt_X10_forces : MtV yX10_forces cX10_forces 4 (some .int) 2 := ⟨⟨q_8_92, q_1_9, by decide +kernel, by decide +kernel, by decide +kernel⟩, q_8_90, q_8_91⟩
theorem q_8_89 : Cond.methodLink "BeaconDelayLaw" 159 yX10_forces ∈ gw := gw_8 (i := 89) (by decide +kernel) rfl
theorem dL_law_1202 : decode cL_law 1202 = .ok (.invokevirtual 159, 3) := by decide +kernel
set_option maxHeartbeats 4000000 in
set_option maxRecDepth 100000 in
theorem cz_34 {p : Program} {e : Env} {s : State} {m : MethodId} {below : List Frame} {meth : Method} {c : Code} {l : Launch} {b Lk : Nat} {xs : Nat → Int32} {V : GV} {z : Nat → Nat} {H : Heap} {locs : List Loc} {cells slots : Nat} {wx : va_W} {ls : Array Slot} {rest : List Value} (G : LCx p s m meth c b Lk xs V) (a1 : Int32) (a2 : Int32) {pz : Nat → Int32} {fz : Nat → Nat → Int32} {gz : Nat → Nat → Int64} {wz : va_W} (kz : KZ V z pz fz gz wz) (hP : va_P V.1 vwCl (wx ++ wz) H) (hD : va_D (AAs s) (wx ++ wz)) (hS : va_S (AAs s) s.heap H locs) (hcs : cells + 0 ≤ 600000 ∧ slots + 0 ≤ 7302250) (hro : (rest.map fun v => v.category).sum ≤ 8) (hlz : ls.size = 4) (kk : (∀ (r : Int32) (H : Heap) (locs : List Loc) (pz' : Nat → Int32) (fz' : Nat → Nat → Int32) (gz' : Nat → Nat → Int64) (wz : va_W), KZ V z pz' fz' gz' wz → (∀ i ∈ [5, 13, 14], pz' i = pz i) ∧ (∀ i ∈ [0, 1, 2, 18, 19], fz' i = fz i) ∧ (∀ i ∈ [3], gz' i = gz i) → va_P V.1 vwCl (wx ++ wz) H → va_D (AAs s) (wx ++ wz) → va_S (AAs s) s.heap H locs → W p l e room_1 s m #[Value.ref b] below meth c H locs cells slots (lw_Z below #[Value.ref b] s) (F0 m 1205 ls (.int r :: rest)))) : W p l e room_1 s m #[Value.ref b] below meth c H locs cells slots (lw_Z below #[Value.ref b] s) (F0 m 1202 ls (.int a2 :: .int a1 :: .ref (z 0) :: rest)) := by
  obtain ⟨hp, hz_tz1, hz_tz3, hz_tz4, hz_tz16, hz_tz17, hz_tz20, hz_tz21, hz_tz24, hz_tz25, hz_tz26, hz_tz27, hz_tz33, hz_tz34, hz_tz37, hz_tz38, hz_RW, rfl⟩ := kz
  replace hP := swP hP
  replace hD := swD hD
  refine cSI (X := wZ V z pz fz gz) (pl := wx) (rest := rest) G (k_X10_forces_0 l V z a1 a2 (pz 0) (pz 5) (pz 6) (pz 7) (pz 8) (pz 9) (pz 10) (pz 11) (pz 12) (pz 13) (pz 14) (pz 18) (pz 19) (pz 22) (pz 23) (pz 29) (fz 0) (fz 4) (fz 5) (fz 9) (fz 10) (fz 11) (fz 12) (fz 13) (hp 5) (hp 6) (hp 7) (hp 8) (hp 10) (hp 11) (hp 12) (hp 13) (hp 14) (hp 18) (hp 22) (hp 29) hz_tz1 hz_tz16 hz_tz24 hz_tz25 hz_tz26 hz_tz27 hz_RW) mt_X10_forces q_8_89 ⟨Nat.le_of_ble_eq_true rfl, Nat.le_of_ble_eq_true rfl⟩ hP hD hS [0, 1, 5, 6, 10, 11, 12, 13, 14] [0, 0, 3, 0, 3, 0, 0, 0, 0] (by decide) (by decide +kernel) rfl 0 rfl rfl rfl rfl hlz rfl hro dL_law_1202 hcs (fun r w H locs hw hPD hS => ?_)
  refine Exists.elim hw (fun v0 hw => ?_)
  refine Exists.elim hw (fun v1 hw => ?_)
  refine Exists.elim hw (fun g2 hw => ?_)
  refine Exists.elim hw (fun g3 hw => ?_)
  refine Exists.elim hw (fun g4 hw => ?_)
  refine Exists.elim hw (fun g5 hw => ?_)
  refine Exists.elim hw (fun g6 hw => ?_)
  refine Exists.elim hw (fun g7 hw => ?_)
  refine Exists.elim hw (fun g8 hw => ?_)
  refine And.elim (fun bv1 hw => ?_) hw
  refine And.elim (fun bg3 hw => ?_) hw
  refine And.elim (fun bg4 hw => ?_) hw
  refine And.elim (fun bg5 hw => ?_) hw
  refine And.elim (fun bg6 hw => ?_) hw
  refine And.elim (fun bg7 hw => ?_) hw
  refine And.elim (fun g_0 hw => ?_) hw
  subst hw
  obtain ⟨hP, hD⟩ := hPD (wZ V z (up9 (up9 pz 0 v0) 29 v1) (br9 14 (br9 7 (br9 3 fz (br9 5 (br9 4 fz (lf9 g2)) (br9 6 (lf9 g3) fz))) (br9 10 (br9 8 fz (br9 9 fz (lf9 g4))) (br9 12 (br9 11 (lf9 g5) (lf9 g6)) (br9 13 (lf9 g7) (lf9 g8))))) fz) gz) rfl rfl
  replace hP := swP hP
  replace hD := swD hD
  exact kk r H locs (up9 (up9 pz 0 v0) 29 v1) (br9 14 (br9 7 (br9 3 fz (br9 5 (br9 4 fz (lf9 g2)) (br9 6 (lf9 g3) fz))) (br9 10 (br9 8 fz (br9 9 fz (lf9 g4))) (br9 12 (br9 11 (lf9 g5) (lf9 g6)) (br9 13 (lf9 g7) (lf9 g8))))) fz) gz _ ⟨(ivUp 29 (ivUp 0 hp (iv_top v0)) bv1), hz_tz1, hz_tz3, hz_tz4, bg3, hz_tz17, hz_tz20, hz_tz21, bg4, bg5, bg6, bg7, hz_tz33, hz_tz34, hz_tz37, hz_tz38, g_0, rfl⟩ ⟨(List.forall_mem_cons.mpr ⟨rfl, (List.forall_mem_cons.mpr ⟨rfl, (List.forall_mem_cons.mpr ⟨rfl, (fun _ h => absurd h List.not_mem_nil)⟩)⟩)⟩), (List.forall_mem_cons.mpr ⟨rfl, (List.forall_mem_cons.mpr ⟨rfl, (List.forall_mem_cons.mpr ⟨rfl, (List.forall_mem_cons.mpr ⟨rfl, (List.forall_mem_cons.mpr ⟨rfl, (fun _ h => absurd h List.not_mem_nil)⟩)⟩)⟩)⟩)⟩), (fun _ _ => rfl)⟩ hP hD hS
theorem q_8_108 : Cond.code yX10_best prog_12_method_121_code 6 (some FieldType.int) ∈ gw := gw_8 (i := 108) (rfl) rfl
theorem q_8_106 : Cond.instanceMethod yX10_best ∈ gw := gw_8 (i := 106) (by decide +kernel) rfl
theorem q_8_107 : Cond.selects "BeaconDelayModel" yX10_best yX10_best ∈ gw := gw_8 (i := 107) (by decide +kernel) rfl
theorem mt_X10_best : MtV yX10_best cX10_best 6 (some .int) 2 := ⟨⟨q_8_108, q_1_9, by decide +kernel, by decide +kernel, by decide +kernel⟩, q_8_106, q_8_107⟩
theorem q_8_105 : Cond.methodLink "BeaconDelayLaw" 163 yX10_best ∈ gw := gw_8 (i := 105) (by decide +kernel) rfl
theorem dL_law_1235 : decode cL_law 1235 = .ok (.invokevirtual 163, 3) := by decide +kernel
set_option maxHeartbeats 4000000 in
set_option maxRecDepth 100000 in
theorem cz_35 {p : Program} {e : Env} {s : State} {m : MethodId} {below : List Frame} {meth : Method} {c : Code} {l : Launch} {b Lk : Nat} {xs : Nat → Int32} {V : GV} {z : Nat → Nat} {H : Heap} {locs : List Loc} {cells slots : Nat} {wx : va_W} {ls : Array Slot} {rest : List Value} (G : LCx p s m meth c b Lk xs V) (a1 : Int32) (a2 : Int32) {pz : Nat → Int32} {fz : Nat → Nat → Int32} {gz : Nat → Nat → Int64} {wz : va_W} (kz : KZ V z pz fz gz wz) (hP : va_P V.1 vwCl (wx ++ wz) H) (hD : va_D (AAs s) (wx ++ wz)) (hS : va_S (AAs s) s.heap H locs) (hcs : cells + 0 ≤ 600000 ∧ slots + 0 ≤ 7302250) (hro : (rest.map fun v => v.category).sum ≤ 8) (hlz : ls.size = 4) (kk : (∀ (r : Int32) (H : Heap) (locs : List Loc) (pz' : Nat → Int32) (fz' : Nat → Nat → Int32) (gz' : Nat → Nat → Int64) (wz : va_W), KZ V z pz' fz' gz' wz → (∀ i ∈ [5, 13, 14], pz' i = pz i) ∧ (∀ i ∈ [0, 1, 2, 18, 19], fz' i = fz i) ∧ (∀ i ∈ [3], gz' i = gz i) → va_P V.1 vwCl (wx ++ wz) H → va_D (AAs s) (wx ++ wz) → va_S (AAs s) s.heap H locs → W p l e room_1 s m #[Value.ref b] below meth c H locs cells slots (lw_Z below #[Value.ref b] s) (F0 m 1238 ls (.int r :: rest)))) : W p l e room_1 s m #[Value.ref b] below meth c H locs cells slots (lw_Z below #[Value.ref b] s) (F0 m 1235 ls (.int a2 :: .int a1 :: .ref (z 0) :: rest)) := by
  obtain ⟨hp, hz_tz1, hz_tz3, hz_tz4, hz_tz16, hz_tz17, hz_tz20, hz_tz21, hz_tz24, hz_tz25, hz_tz26, hz_tz27, hz_tz33, hz_tz34, hz_tz37, hz_tz38, hz_RW, rfl⟩ := kz
  replace hP := swP hP
  replace hD := swD hD
  refine cSI (X := wZ V z pz fz gz) (pl := wx) (rest := rest) G (k_X10_best_0 l V z a1 a2 (pz 0) (pz 5) (pz 6) (pz 7) (pz 8) (pz 9) (pz 10) (pz 11) (pz 12) (pz 13) (pz 14) (pz 18) (pz 19) (pz 22) (pz 23) (pz 29) (fz 0) (fz 4) (fz 5) (fz 9) (fz 10) (fz 11) (fz 12) (fz 13) (hp 5) (hp 6) (hp 7) (hp 8) (hp 10) (hp 11) (hp 12) (hp 13) (hp 14) (hp 18) (hp 22) (hp 29) hz_tz1 hz_tz16 hz_tz24 hz_tz25 hz_tz26 hz_tz27 hz_RW) mt_X10_best q_8_105 ⟨Nat.le_of_ble_eq_true rfl, Nat.le_of_ble_eq_true rfl⟩ hP hD hS [0, 1, 5, 6, 10, 11, 12, 13, 14] [0, 0, 3, 0, 3, 0, 0, 0, 0] (by decide) (by decide +kernel) rfl 0 rfl rfl rfl rfl hlz rfl hro dL_law_1235 hcs (fun r w H locs hw hPD hS => ?_)
  refine Exists.elim hw (fun v0 hw => ?_)
  refine Exists.elim hw (fun v1 hw => ?_)
  refine Exists.elim hw (fun g2 hw => ?_)
  refine Exists.elim hw (fun g3 hw => ?_)
  refine Exists.elim hw (fun g4 hw => ?_)
  refine Exists.elim hw (fun g5 hw => ?_)
  refine Exists.elim hw (fun g6 hw => ?_)
  refine Exists.elim hw (fun g7 hw => ?_)
  refine Exists.elim hw (fun g8 hw => ?_)
  refine And.elim (fun bv1 hw => ?_) hw
  refine And.elim (fun bg3 hw => ?_) hw
  refine And.elim (fun bg4 hw => ?_) hw
  refine And.elim (fun bg5 hw => ?_) hw
  refine And.elim (fun bg6 hw => ?_) hw
  refine And.elim (fun bg7 hw => ?_) hw
  refine And.elim (fun br hw => ?_) hw
  refine And.elim (fun g_0 hw => ?_) hw
  subst hw
  obtain ⟨hP, hD⟩ := hPD (wZ V z (up9 (up9 pz 0 v0) 29 v1) (br9 14 (br9 7 (br9 3 fz (br9 5 (br9 4 fz (lf9 g2)) (br9 6 (lf9 g3) fz))) (br9 10 (br9 8 fz (br9 9 fz (lf9 g4))) (br9 12 (br9 11 (lf9 g5) (lf9 g6)) (br9 13 (lf9 g7) (lf9 g8))))) fz) gz) rfl rfl
  replace hP := swP hP
  replace hD := swD hD
  exact kk r H locs (up9 (up9 pz 0 v0) 29 v1) (br9 14 (br9 7 (br9 3 fz (br9 5 (br9 4 fz (lf9 g2)) (br9 6 (lf9 g3) fz))) (br9 10 (br9 8 fz (br9 9 fz (lf9 g4))) (br9 12 (br9 11 (lf9 g5) (lf9 g6)) (br9 13 (lf9 g7) (lf9 g8))))) fz) gz _ ⟨(ivUp 29 (ivUp 0 hp (iv_top v0)) bv1), hz_tz1, hz_tz3, hz_tz4, bg3, hz_tz17, hz_tz20, hz_tz21, bg4, bg5, bg6, bg7, hz_tz33, hz_tz34, hz_tz37, hz_tz38, g_0, rfl⟩ ⟨(List.forall_mem_cons.mpr ⟨rfl, (List.forall_mem_cons.mpr ⟨rfl, (List.forall_mem_cons.mpr ⟨rfl, (fun _ h => absurd h List.not_mem_nil)⟩)⟩)⟩), (List.forall_mem_cons.mpr ⟨rfl, (List.forall_mem_cons.mpr ⟨rfl, (List.forall_mem_cons.mpr ⟨rfl, (List.forall_mem_cons.mpr ⟨rfl, (List.forall_mem_cons.mpr ⟨rfl, (fun _ h => absurd h List.not_mem_nil)⟩)⟩)⟩)⟩)⟩), (fun _ _ => rfl)⟩ hP hD hS
theorem q_8_112 : Cond.code yX10_chance prog_12_method_126_code 8 (some FieldType.int) ∈ gw := gw_8 (i := 112) (rfl) rfl
theorem q_8_110 : Cond.instanceMethod yX10_chance ∈ gw := gw_8 (i := 110) (by decide +kernel) rfl
theorem q_8_111 : Cond.selects "BeaconDelayModel" yX10_chance yX10_chance ∈ gw := gw_8 (i := 111) (by decide +kernel) rfl
theorem mt_X10_chance : MtV yX10_chance cX10_chance 8 (some .int) 4 := ⟨⟨q_8_112, q_1_9, by decide +kernel, by decide +kernel, by decide +kernel⟩, q_8_110, q_8_111⟩
theorem q_8_109 : Cond.methodLink "BeaconDelayLaw" 168 yX10_chance ∈ gw := gw_8 (i := 109) (by decide +kernel) rfl
theorem dL_law_1288 : decode cL_law 1288 = .ok (.invokevirtual 168, 3) := by decide +kernel
set_option maxHeartbeats 4000000 in
set_option maxRecDepth 100000 in
theorem cz_36 {p : Program} {e : Env} {s : State} {m : MethodId} {below : List Frame} {meth : Method} {c : Code} {l : Launch} {b Lk : Nat} {xs : Nat → Int32} {V : GV} {z : Nat → Nat} {H : Heap} {locs : List Loc} {cells slots : Nat} {wx : va_W} {ls : Array Slot} {rest : List Value} (G : LCx p s m meth c b Lk xs V) (a1 : Int32) (a2 : Int32) (a3 : Int32) (a4 : Int32) {pz : Nat → Int32} {fz : Nat → Nat → Int32} {gz : Nat → Nat → Int64} {wz : va_W} (kz : KZ V z pz fz gz wz) (hP : va_P V.1 vwCl (wx ++ wz) H) (hD : va_D (AAs s) (wx ++ wz)) (hS : va_S (AAs s) s.heap H locs) (hcs : cells + 0 ≤ 600000 ∧ slots + 0 ≤ 7302250) (hro : (rest.map fun v => v.category).sum ≤ 8) (hlz : ls.size = 4) (kk : (∀ (r : Int32) (H : Heap) (locs : List Loc) (pz' : Nat → Int32) (fz' : Nat → Nat → Int32) (gz' : Nat → Nat → Int64) (wz : va_W), KZ V z pz' fz' gz' wz → (∀ i ∈ [5, 13, 14], pz' i = pz i) ∧ (∀ i ∈ [0, 1, 2, 18, 19], fz' i = fz i) ∧ (∀ i ∈ [3], gz' i = gz i) → va_P V.1 vwCl (wx ++ wz) H → va_D (AAs s) (wx ++ wz) → va_S (AAs s) s.heap H locs → W p l e room_1 s m #[Value.ref b] below meth c H locs cells slots (lw_Z below #[Value.ref b] s) (F0 m 1291 ls (.int r :: rest)))) : W p l e room_1 s m #[Value.ref b] below meth c H locs cells slots (lw_Z below #[Value.ref b] s) (F0 m 1288 ls (.int a4 :: .int a3 :: .int a2 :: .int a1 :: .ref (z 0) :: rest)) := by
  obtain ⟨hp, hz_tz1, hz_tz3, hz_tz4, hz_tz16, hz_tz17, hz_tz20, hz_tz21, hz_tz24, hz_tz25, hz_tz26, hz_tz27, hz_tz33, hz_tz34, hz_tz37, hz_tz38, hz_RW, rfl⟩ := kz
  replace hP := swP hP
  replace hD := swD hD
  refine cSI (X := wZ V z pz fz gz) (pl := wx) (rest := rest) G (k_X10_chance_0 l V z a1 a2 a3 a4 (pz 0) (pz 5) (pz 6) (pz 7) (pz 8) (pz 9) (pz 10) (pz 11) (pz 12) (pz 13) (pz 14) (pz 18) (pz 19) (pz 22) (pz 23) (pz 29) (fz 0) (fz 4) (fz 5) (fz 9) (fz 10) (fz 13) (gz 0) (gz 1) (hp 5) (hp 6) (hp 7) (hp 8) (hp 10) (hp 11) (hp 12) (hp 13) (hp 14) (hp 18) (hp 22) (hp 29) hz_tz1 hz_tz16 hz_tz24 hz_tz25 hz_RW) mt_X10_chance q_8_109 ⟨Nat.le_of_ble_eq_true rfl, Nat.le_of_ble_eq_true rfl⟩ hP hD hS [0, 1, 5, 6, 10, 11, 14, 15, 16] [0, 0, 3, 0, 3, 0, 2, 0, 0] (by decide) (by decide +kernel) rfl 0 rfl rfl rfl rfl hlz rfl hro dL_law_1288 hcs (fun r w H locs hw hPD hS => ?_)
  refine Exists.elim hw (fun v0 hw => ?_)
  refine Exists.elim hw (fun v1 hw => ?_)
  refine Exists.elim hw (fun g2 hw => ?_)
  refine Exists.elim hw (fun g3 hw => ?_)
  refine Exists.elim hw (fun g4 hw => ?_)
  refine Exists.elim hw (fun g5 hw => ?_)
  refine Exists.elim hw (fun g6 hw => ?_)
  refine Exists.elim hw (fun g7 hw => ?_)
  refine Exists.elim hw (fun g8 hw => ?_)
  refine And.elim (fun bv1 hw => ?_) hw
  refine And.elim (fun bg3 hw => ?_) hw
  refine And.elim (fun bg4 hw => ?_) hw
  refine And.elim (fun bg5 hw => ?_) hw
  refine And.elim (fun g_0 hw => ?_) hw
  subst hw
  obtain ⟨hP, hD⟩ := hPD (wZ V z (up9 (up9 pz 0 v0) 29 v1) (br9 14 (br9 7 (br9 3 fz (br9 5 (br9 4 fz (lf9 g2)) (br9 6 (lf9 g3) fz))) (br9 10 (br9 8 fz (br9 9 fz (lf9 g4))) (br9 12 (br9 11 (lf9 g5) fz) (br9 13 fz (lf9 g6))))) fz) (up9 (up9 gz 0 g7) 1 g8)) rfl rfl
  replace hP := swP hP
  replace hD := swD hD
  exact kk r H locs (up9 (up9 pz 0 v0) 29 v1) (br9 14 (br9 7 (br9 3 fz (br9 5 (br9 4 fz (lf9 g2)) (br9 6 (lf9 g3) fz))) (br9 10 (br9 8 fz (br9 9 fz (lf9 g4))) (br9 12 (br9 11 (lf9 g5) fz) (br9 13 fz (lf9 g6))))) fz) (up9 (up9 gz 0 g7) 1 g8) _ ⟨(ivUp 29 (ivUp 0 hp (iv_top v0)) bv1), hz_tz1, hz_tz3, hz_tz4, bg3, hz_tz17, hz_tz20, hz_tz21, bg4, bg5, hz_tz26, hz_tz27, hz_tz33, hz_tz34, hz_tz37, hz_tz38, g_0, rfl⟩ ⟨(List.forall_mem_cons.mpr ⟨rfl, (List.forall_mem_cons.mpr ⟨rfl, (List.forall_mem_cons.mpr ⟨rfl, (fun _ h => absurd h List.not_mem_nil)⟩)⟩)⟩), (List.forall_mem_cons.mpr ⟨rfl, (List.forall_mem_cons.mpr ⟨rfl, (List.forall_mem_cons.mpr ⟨rfl, (List.forall_mem_cons.mpr ⟨rfl, (List.forall_mem_cons.mpr ⟨rfl, (fun _ h => absurd h List.not_mem_nil)⟩)⟩)⟩)⟩)⟩), (List.forall_mem_cons.mpr ⟨rfl, (fun _ h => absurd h List.not_mem_nil)⟩)⟩ hP hD hS
theorem q_8_130 : Cond.code yX10_mean prog_12_method_127_code 6 (some FieldType.int) ∈ gw := gw_8 (i := 130) (rfl) rfl
theorem q_8_128 : Cond.instanceMethod yX10_mean ∈ gw := gw_8 (i := 128) (by decide +kernel) rfl
theorem q_8_129 : Cond.selects "BeaconDelayModel" yX10_mean yX10_mean ∈ gw := gw_8 (i := 129) (by decide +kernel) rfl
theorem mt_X10_mean : MtV yX10_mean cX10_mean 6 (some .int) 2 := ⟨⟨q_8_130, q_1_9, by decide +kernel, by decide +kernel, by decide +kernel⟩, q_8_128, q_8_129⟩
theorem q_8_127 : Cond.methodLink "BeaconDelayLaw" 172 yX10_mean ∈ gw := gw_8 (i := 127) (by decide +kernel) rfl
theorem dL_law_1321 : decode cL_law 1321 = .ok (.invokevirtual 172, 3) := by decide +kernel
set_option maxHeartbeats 4000000 in
set_option maxRecDepth 100000 in
theorem cz_37 {p : Program} {e : Env} {s : State} {m : MethodId} {below : List Frame} {meth : Method} {c : Code} {l : Launch} {b Lk : Nat} {xs : Nat → Int32} {V : GV} {z : Nat → Nat} {H : Heap} {locs : List Loc} {cells slots : Nat} {wx : va_W} {ls : Array Slot} {rest : List Value} (G : LCx p s m meth c b Lk xs V) (a1 : Int32) (a2 : Int32) {pz : Nat → Int32} {fz : Nat → Nat → Int32} {gz : Nat → Nat → Int64} {wz : va_W} (kz : KZ V z pz fz gz wz) (hP : va_P V.1 vwCl (wx ++ wz) H) (hD : va_D (AAs s) (wx ++ wz)) (hS : va_S (AAs s) s.heap H locs) (hcs : cells + 0 ≤ 600000 ∧ slots + 0 ≤ 7302250) (hro : (rest.map fun v => v.category).sum ≤ 8) (hlz : ls.size = 4) (kk : (∀ (r : Int32) (H : Heap) (locs : List Loc) (pz' : Nat → Int32) (fz' : Nat → Nat → Int32) (gz' : Nat → Nat → Int64) (wz : va_W), KZ V z pz' fz' gz' wz → (∀ i ∈ [5, 13, 14], pz' i = pz i) ∧ (∀ i ∈ [0, 1, 2, 18, 19], fz' i = fz i) ∧ (∀ i ∈ [3], gz' i = gz i) → va_P V.1 vwCl (wx ++ wz) H → va_D (AAs s) (wx ++ wz) → va_S (AAs s) s.heap H locs → W p l e room_1 s m #[Value.ref b] below meth c H locs cells slots (lw_Z below #[Value.ref b] s) (F0 m 1324 ls (.int r :: rest)))) : W p l e room_1 s m #[Value.ref b] below meth c H locs cells slots (lw_Z below #[Value.ref b] s) (F0 m 1321 ls (.int a2 :: .int a1 :: .ref (z 0) :: rest)) := by
  obtain ⟨hp, hz_tz1, hz_tz3, hz_tz4, hz_tz16, hz_tz17, hz_tz20, hz_tz21, hz_tz24, hz_tz25, hz_tz26, hz_tz27, hz_tz33, hz_tz34, hz_tz37, hz_tz38, hz_RW, rfl⟩ := kz
  replace hP := swP hP
  replace hD := swD hD
  refine cSI (X := wZ V z pz fz gz) (pl := wx) (rest := rest) G (k_X10_mean_0 l V z a1 a2 (pz 0) (pz 5) (pz 6) (pz 7) (pz 8) (pz 9) (pz 10) (pz 11) (pz 12) (pz 13) (pz 14) (pz 18) (pz 19) (pz 22) (pz 23) (pz 29) (fz 0) (fz 4) (fz 5) (fz 9) (fz 10) (fz 13) (gz 0) (gz 1) (hp 5) (hp 6) (hp 7) (hp 8) (hp 10) (hp 11) (hp 12) (hp 13) (hp 14) (hp 18) (hp 22) (hp 29) hz_tz1 hz_tz16 hz_tz24 hz_tz25 hz_RW) mt_X10_mean q_8_127 ⟨Nat.le_of_ble_eq_true rfl, Nat.le_of_ble_eq_true rfl⟩ hP hD hS [0, 1, 5, 6, 10, 11, 14, 15, 16] [0, 0, 3, 0, 3, 0, 2, 0, 0] (by decide) (by decide +kernel) rfl 0 rfl rfl rfl rfl hlz rfl hro dL_law_1321 hcs (fun r w H locs hw hPD hS => ?_)
  refine Exists.elim hw (fun v0 hw => ?_)
  refine Exists.elim hw (fun v1 hw => ?_)
  refine Exists.elim hw (fun g2 hw => ?_)
  refine Exists.elim hw (fun g3 hw => ?_)
  refine Exists.elim hw (fun g4 hw => ?_)
  refine Exists.elim hw (fun g5 hw => ?_)
  refine Exists.elim hw (fun g6 hw => ?_)
  refine Exists.elim hw (fun g7 hw => ?_)
  refine Exists.elim hw (fun g8 hw => ?_)
  refine And.elim (fun bv1 hw => ?_) hw
  refine And.elim (fun bg3 hw => ?_) hw
  refine And.elim (fun bg4 hw => ?_) hw
  refine And.elim (fun bg5 hw => ?_) hw
  refine And.elim (fun g_0 hw => ?_) hw
  subst hw
  obtain ⟨hP, hD⟩ := hPD (wZ V z (up9 (up9 pz 0 v0) 29 v1) (br9 14 (br9 7 (br9 3 fz (br9 5 (br9 4 fz (lf9 g2)) (br9 6 (lf9 g3) fz))) (br9 10 (br9 8 fz (br9 9 fz (lf9 g4))) (br9 12 (br9 11 (lf9 g5) fz) (br9 13 fz (lf9 g6))))) fz) (up9 (up9 gz 0 g7) 1 g8)) rfl rfl
  replace hP := swP hP
  replace hD := swD hD
  exact kk r H locs (up9 (up9 pz 0 v0) 29 v1) (br9 14 (br9 7 (br9 3 fz (br9 5 (br9 4 fz (lf9 g2)) (br9 6 (lf9 g3) fz))) (br9 10 (br9 8 fz (br9 9 fz (lf9 g4))) (br9 12 (br9 11 (lf9 g5) fz) (br9 13 fz (lf9 g6))))) fz) (up9 (up9 gz 0 g7) 1 g8) _ ⟨(ivUp 29 (ivUp 0 hp (iv_top v0)) bv1), hz_tz1, hz_tz3, hz_tz4, bg3, hz_tz17, hz_tz20, hz_tz21, bg4, bg5, hz_tz26, hz_tz27, hz_tz33, hz_tz34, hz_tz37, hz_tz38, g_0, rfl⟩ ⟨(List.forall_mem_cons.mpr ⟨rfl, (List.forall_mem_cons.mpr ⟨rfl, (List.forall_mem_cons.mpr ⟨rfl, (fun _ h => absurd h List.not_mem_nil)⟩)⟩)⟩), (List.forall_mem_cons.mpr ⟨rfl, (List.forall_mem_cons.mpr ⟨rfl, (List.forall_mem_cons.mpr ⟨rfl, (List.forall_mem_cons.mpr ⟨rfl, (List.forall_mem_cons.mpr ⟨rfl, (fun _ h => absurd h List.not_mem_nil)⟩)⟩)⟩)⟩)⟩), (List.forall_mem_cons.mpr ⟨rfl, (fun _ h => absurd h List.not_mem_nil)⟩)⟩ hP hD hS
theorem q_8_134 : Cond.code yX10_numbers prog_12_method_129_code 5 (some FieldType.int) ∈ gw := gw_8 (i := 134) (rfl) rfl
theorem q_8_132 : Cond.instanceMethod yX10_numbers ∈ gw := gw_8 (i := 132) (by decide +kernel) rfl
theorem q_8_133 : Cond.selects "BeaconDelayModel" yX10_numbers yX10_numbers ∈ gw := gw_8 (i := 133) (by decide +kernel) rfl
theorem mt_X10_numbers : MtV yX10_numbers cX10_numbers 5 (some .int) 3 := ⟨⟨q_8_134, q_1_9, by decide +kernel, by decide +kernel, by decide +kernel⟩, q_8_132, q_8_133⟩
theorem q_8_131 : Cond.methodLink "BeaconDelayLaw" 176 yX10_numbers ∈ gw := gw_8 (i := 131) (by decide +kernel) rfl
theorem dL_law_1364 : decode cL_law 1364 = .ok (.invokevirtual 176, 3) := by decide +kernel
set_option maxHeartbeats 4000000 in
set_option maxRecDepth 100000 in
theorem cz_38 {p : Program} {e : Env} {s : State} {m : MethodId} {below : List Frame} {meth : Method} {c : Code} {l : Launch} {b Lk : Nat} {xs : Nat → Int32} {V : GV} {z : Nat → Nat} {H : Heap} {locs : List Loc} {cells slots : Nat} {wx : va_W} {ls : Array Slot} {rest : List Value} (G : LCx p s m meth c b Lk xs V) (a1 : Int32) (a2 : Int32) (a3 : Int32) {pz : Nat → Int32} {fz : Nat → Nat → Int32} {gz : Nat → Nat → Int64} {wz : va_W} (kz : KZ V z pz fz gz wz) (hP : va_P V.1 vwCl (wx ++ wz) H) (hD : va_D (AAs s) (wx ++ wz)) (hS : va_S (AAs s) s.heap H locs) (hcs : cells + 0 ≤ 600000 ∧ slots + 0 ≤ 7302250) (hro : (rest.map fun v => v.category).sum ≤ 8) (hlz : ls.size = 4) (kk : (∀ (r : Int32) (H : Heap) (locs : List Loc) (pz' : Nat → Int32) (fz' : Nat → Nat → Int32) (gz' : Nat → Nat → Int64) (wz : va_W), KZ V z pz' fz' gz' wz → (∀ i ∈ [5, 13, 14], pz' i = pz i) ∧ (∀ i ∈ [0, 1, 2], fz' i = fz i) ∧ (∀ i ∈ ([] : List Nat), gz' i = gz i) ∧ (r = (F_k_X10_numbers_0 a1 a2 a3 (fz 18) (fz 19) (gz 3)).1) ∧ (fz' 18 = (F_k_X10_numbers_0 a1 a2 a3 (fz 18) (fz 19) (gz 3)).2.2.1) ∧ (fz' 19 = (F_k_X10_numbers_0 a1 a2 a3 (fz 18) (fz 19) (gz 3)).2.2.2.1) ∧ (gz' 3 = (F_k_X10_numbers_0 a1 a2 a3 (fz 18) (fz 19) (gz 3)).2.2.2.2) → va_P V.1 vwCl (wx ++ wz) H → va_D (AAs s) (wx ++ wz) → va_S (AAs s) s.heap H locs → W p l e room_1 s m #[Value.ref b] below meth c H locs cells slots (lw_Z below #[Value.ref b] s) (F0 m 1367 ls (.int r :: rest)))) : W p l e room_1 s m #[Value.ref b] below meth c H locs cells slots (lw_Z below #[Value.ref b] s) (F0 m 1364 ls (.int a3 :: .int a2 :: .int a1 :: .ref (z 0) :: rest)) := by
  obtain ⟨hp, hz_tz1, hz_tz3, hz_tz4, hz_tz16, hz_tz17, hz_tz20, hz_tz21, hz_tz24, hz_tz25, hz_tz26, hz_tz27, hz_tz33, hz_tz34, hz_tz37, hz_tz38, hz_RW, rfl⟩ := kz
  replace hP := swP hP
  replace hD := swD hD
  refine cSI (X := wZ V z pz fz gz) (pl := wx) (rest := rest) G (k_X10_numbers_0 l V z a1 a2 a3 (pz 0) (pz 5) (pz 6) (pz 7) (pz 8) (pz 9) (pz 10) (pz 11) (pz 12) (pz 13) (pz 14) (pz 18) (pz 19) (pz 22) (pz 23) (pz 29) (fz 18) (fz 19) (gz 3) (hp 5) (hp 6) (hp 7) (hp 8) (hp 10) (hp 11) (hp 12) (hp 13) (hp 14) (hp 18) (hp 22) (hp 29) hz_tz37 hz_tz38) mt_X10_numbers q_8_131 ⟨Nat.le_of_ble_eq_true rfl, Nat.le_of_ble_eq_true rfl⟩ hP hD hS [0, 22, 23, 24] [0, 21, 0, 0] (by decide) (by decide +kernel) rfl 0 rfl rfl rfl rfl hlz rfl hro dL_law_1364 hcs (fun r w H locs hw hPD hS => ?_)
  refine Exists.elim hw (fun v0 hw => ?_)
  refine Exists.elim hw (fun g1 hw => ?_)
  refine Exists.elim hw (fun g2 hw => ?_)
  refine Exists.elim hw (fun g3 hw => ?_)
  refine And.elim (fun bg1 hw => ?_) hw
  refine And.elim (fun bg2 hw => ?_) hw
  refine And.elim (fun br hw => ?_) hw
  refine And.elim (fun ef hw => ?_) hw
  refine And.elim (fun et_0 hw => ?_) hw
  refine And.elim (fun et_1 hw => ?_) hw
  refine And.elim (fun et_2 hw => ?_) hw
  refine And.elim (fun et_3 hw => ?_) hw
  refine And.elim (fun et_4 hw => ?_) hw
  subst hw
  obtain ⟨hP, hD⟩ := hPD (wZ V z (up9 pz 0 v0) (up9 (up9 fz 18 g1) 19 g2) (up9 gz 3 g3)) rfl rfl
  replace hP := swP hP
  replace hD := swD hD
  exact kk r H locs (up9 pz 0 v0) (up9 (up9 fz 18 g1) 19 g2) (up9 gz 3 g3) _ ⟨(ivUp 0 hp (iv_top v0)), hz_tz1, hz_tz3, hz_tz4, hz_tz16, hz_tz17, hz_tz20, hz_tz21, hz_tz24, hz_tz25, hz_tz26, hz_tz27, hz_tz33, hz_tz34, bg1, bg2, hz_RW, rfl⟩ ⟨(List.forall_mem_cons.mpr ⟨rfl, (List.forall_mem_cons.mpr ⟨rfl, (List.forall_mem_cons.mpr ⟨rfl, (fun _ h => absurd h List.not_mem_nil)⟩)⟩)⟩), (List.forall_mem_cons.mpr ⟨rfl, (List.forall_mem_cons.mpr ⟨rfl, (List.forall_mem_cons.mpr ⟨rfl, (fun _ h => absurd h List.not_mem_nil)⟩)⟩)⟩), (fun _ h => absurd h List.not_mem_nil), et_0, et_2, et_3, et_4⟩ hP hD hS
theorem q_8_138 : Cond.code yX10_write prog_12_method_130_code 6 (some FieldType.long) ∈ gw := gw_8 (i := 138) (rfl) rfl
theorem q_8_136 : Cond.instanceMethod yX10_write ∈ gw := gw_8 (i := 136) (by decide +kernel) rfl
theorem q_8_137 : Cond.selects "BeaconDelayModel" yX10_write yX10_write ∈ gw := gw_8 (i := 137) (by decide +kernel) rfl
theorem mt_X10_write : MtV yX10_write cX10_write 6 (some .long) 3 := ⟨⟨q_8_138, q_1_9, by decide +kernel, by decide +kernel, by decide +kernel⟩, q_8_136, q_8_137⟩
theorem q_8_135 : Cond.methodLink "BeaconDelayLaw" 183 yX10_write ∈ gw := gw_8 (i := 135) (by decide +kernel) rfl
theorem dL_law_1437 : decode cL_law 1437 = .ok (.invokevirtual 183, 3) := by decide +kernel
set_option maxHeartbeats 4000000 in
set_option maxRecDepth 100000 in
theorem cz_39 {p : Program} {e : Env} {s : State} {m : MethodId} {below : List Frame} {meth : Method} {c : Code} {l : Launch} {b Lk : Nat} {xs : Nat → Int32} {V : GV} {z : Nat → Nat} {H : Heap} {locs : List Loc} {cells slots : Nat} {wx : va_W} {ls : Array Slot} {rest : List Value} (G : LCx p s m meth c b Lk xs V) (a1 : Int32) (a2 : Int32) (k3 : Int64) {pz : Nat → Int32} {fz : Nat → Nat → Int32} {gz : Nat → Nat → Int64} {wz : va_W} (kz : KZ V z pz fz gz wz) (hP : va_P V.1 vwCl (wx ++ wz) H) (hD : va_D (AAs s) (wx ++ wz)) (hS : va_S (AAs s) s.heap H locs) (hcs : cells + 0 ≤ 600000 ∧ slots + 0 ≤ 7302250) (hro : (rest.map fun v => v.category).sum ≤ 8) (hlz : ls.size = 4) (kk : (∀ (r : Int64) (H : Heap) (locs : List Loc) (pz' : Nat → Int32) (fz' : Nat → Nat → Int32) (gz' : Nat → Nat → Int64) (wz : va_W), KZ V z pz' fz' gz' wz → (∀ i ∈ [5, 13, 14], pz' i = pz i) ∧ (∀ i ∈ [0, 1, 2, 18, 19], fz' i = fz i) ∧ (∀ i ∈ ([] : List Nat), gz' i = gz i) ∧ (r = (F_k_X10_write_0 a1 a2 k3 (fz 18) (fz 19) (gz 3)).1) ∧ (gz' 3 = (F_k_X10_write_0 a1 a2 k3 (fz 18) (fz 19) (gz 3)).2.2) → va_P V.1 vwCl (wx ++ wz) H → va_D (AAs s) (wx ++ wz) → va_S (AAs s) s.heap H locs → W p l e room_1 s m #[Value.ref b] below meth c H locs cells slots (lw_Z below #[Value.ref b] s) (F0 m 1440 ls (.long r :: rest)))) : W p l e room_1 s m #[Value.ref b] below meth c H locs cells slots (lw_Z below #[Value.ref b] s) (F0 m 1437 ls (.long k3 :: .int a2 :: .int a1 :: .ref (z 0) :: rest)) := by
  obtain ⟨hp, hz_tz1, hz_tz3, hz_tz4, hz_tz16, hz_tz17, hz_tz20, hz_tz21, hz_tz24, hz_tz25, hz_tz26, hz_tz27, hz_tz33, hz_tz34, hz_tz37, hz_tz38, hz_RW, rfl⟩ := kz
  replace hP := swP hP
  replace hD := swD hD
  refine cSL (X := wZ V z pz fz gz) (pl := wx) (rest := rest) G (k_X10_write_0 l V z a1 a2 k3 (pz 0) (pz 5) (pz 6) (pz 7) (pz 8) (pz 9) (pz 10) (pz 11) (pz 12) (pz 13) (pz 14) (pz 18) (pz 19) (pz 22) (pz 23) (pz 29) (fz 18) (fz 19) (gz 3) (hp 5) (hp 6) (hp 7) (hp 8) (hp 10) (hp 11) (hp 12) (hp 13) (hp 14) (hp 18) (hp 22) (hp 29) hz_tz37 hz_tz38) mt_X10_write q_8_135 ⟨Nat.le_of_ble_eq_true rfl, Nat.le_of_ble_eq_true rfl⟩ hP hD hS [0, 22, 23, 24] [0, 21, 0, 0] (by decide) (by decide +kernel) rfl 0 rfl rfl rfl rfl hlz rfl hro dL_law_1437 hcs (fun r w H locs hw hPD hS => ?_)
  refine Exists.elim hw (fun v0 hw => ?_)
  refine Exists.elim hw (fun g1 hw => ?_)
  refine And.elim (fun et_0 hw => ?_) hw
  refine And.elim (fun et_1 hw => ?_) hw
  refine And.elim (fun et_2 hw => ?_) hw
  subst hw
  obtain ⟨hP, hD⟩ := hPD (wZ V z (up9 pz 0 v0) fz (up9 gz 3 g1)) rfl rfl
  replace hP := swP hP
  replace hD := swD hD
  exact kk r H locs (up9 pz 0 v0) fz (up9 gz 3 g1) _ ⟨(ivUp 0 hp (iv_top v0)), hz_tz1, hz_tz3, hz_tz4, hz_tz16, hz_tz17, hz_tz20, hz_tz21, hz_tz24, hz_tz25, hz_tz26, hz_tz27, hz_tz33, hz_tz34, hz_tz37, hz_tz38, hz_RW, rfl⟩ ⟨(List.forall_mem_cons.mpr ⟨rfl, (List.forall_mem_cons.mpr ⟨rfl, (List.forall_mem_cons.mpr ⟨rfl, (fun _ h => absurd h List.not_mem_nil)⟩)⟩)⟩), (fun _ _ => rfl), (fun _ h => absurd h List.not_mem_nil), et_0, et_2⟩ hP hD hS
theorem q_8_146 : Cond.code yX10_lists prog_12_method_131_code 6 (some FieldType.int) ∈ gw := gw_8 (i := 146) (rfl) rfl
theorem q_8_144 : Cond.instanceMethod yX10_lists ∈ gw := gw_8 (i := 144) (by decide +kernel) rfl
theorem q_8_145 : Cond.selects "BeaconDelayModel" yX10_lists yX10_lists ∈ gw := gw_8 (i := 145) (by decide +kernel) rfl
theorem mt_X10_lists : MtV yX10_lists cX10_lists 6 (some .int) 2 := ⟨⟨q_8_146, q_1_9, by decide +kernel, by decide +kernel, by decide +kernel⟩, q_8_144, q_8_145⟩
theorem q_8_143 : Cond.methodLink "BeaconDelayLaw" 187 yX10_lists ∈ gw := gw_8 (i := 143) (by decide +kernel) rfl
theorem dL_law_1470 : decode cL_law 1470 = .ok (.invokevirtual 187, 3) := by decide +kernel
set_option maxHeartbeats 4000000 in
set_option maxRecDepth 100000 in
theorem cz_40 {p : Program} {e : Env} {s : State} {m : MethodId} {below : List Frame} {meth : Method} {c : Code} {l : Launch} {b Lk : Nat} {xs : Nat → Int32} {V : GV} {z : Nat → Nat} {H : Heap} {locs : List Loc} {cells slots : Nat} {wx : va_W} {ls : Array Slot} {rest : List Value} (G : LCx p s m meth c b Lk xs V) (a1 : Int32) (a2 : Int32) {pz : Nat → Int32} {fz : Nat → Nat → Int32} {gz : Nat → Nat → Int64} {wz : va_W} (kz : KZ V z pz fz gz wz) (hP : va_P V.1 vwCl (wx ++ wz) H) (hD : va_D (AAs s) (wx ++ wz)) (hS : va_S (AAs s) s.heap H locs) (hcs : cells + 0 ≤ 600000 ∧ slots + 0 ≤ 7302250) (hro : (rest.map fun v => v.category).sum ≤ 8) (hlz : ls.size = 4) (kk : (∀ (r : Int32) (H : Heap) (locs : List Loc) (pz' : Nat → Int32) (fz' : Nat → Nat → Int32) (gz' : Nat → Nat → Int64) (wz : va_W), KZ V z pz' fz' gz' wz → (∀ i ∈ [5, 13, 14], pz' i = pz i) ∧ (∀ i ∈ [0, 1, 2, 18, 19], fz' i = fz i) ∧ (∀ i ∈ ([] : List Nat), gz' i = gz i) ∧ (r = (F_k_X10_lists_0 a1 a2 (fz 0) (fz 4) (fz 5) (fz 18) (fz 19) (gz 3)).1) ∧ (gz' 3 = (F_k_X10_lists_0 a1 a2 (fz 0) (fz 4) (fz 5) (fz 18) (fz 19) (gz 3)).2.2.2.2) → va_P V.1 vwCl (wx ++ wz) H → va_D (AAs s) (wx ++ wz) → va_S (AAs s) s.heap H locs → W p l e room_1 s m #[Value.ref b] below meth c H locs cells slots (lw_Z below #[Value.ref b] s) (F0 m 1473 ls (.int r :: rest)))) : W p l e room_1 s m #[Value.ref b] below meth c H locs cells slots (lw_Z below #[Value.ref b] s) (F0 m 1470 ls (.int a2 :: .int a1 :: .ref (z 0) :: rest)) := by
  obtain ⟨hp, hz_tz1, hz_tz3, hz_tz4, hz_tz16, hz_tz17, hz_tz20, hz_tz21, hz_tz24, hz_tz25, hz_tz26, hz_tz27, hz_tz33, hz_tz34, hz_tz37, hz_tz38, hz_RW, rfl⟩ := kz
  replace hP := swP hP
  replace hD := swD hD
  refine cSI (X := wZ V z pz fz gz) (pl := wx) (rest := rest) G (k_X10_lists_0 l V z a1 a2 (pz 0) (pz 5) (pz 6) (pz 7) (pz 8) (pz 9) (pz 10) (pz 11) (pz 12) (pz 13) (pz 14) (pz 18) (pz 19) (pz 22) (pz 23) (pz 29) (fz 0) (fz 4) (fz 5) (fz 18) (fz 19) (gz 3) (hp 5) (hp 6) (hp 7) (hp 8) (hp 10) (hp 11) (hp 12) (hp 13) (hp 14) (hp 18) (hp 22) (hp 29) hz_tz1 hz_tz16 hz_tz37 hz_tz38 hz_RW) mt_X10_lists q_8_143 ⟨Nat.le_of_ble_eq_true rfl, Nat.le_of_ble_eq_true rfl⟩ hP hD hS [0, 1, 5, 6, 22, 23, 24] [0, 0, 3, 0, 15, 0, 0] (by decide) (by decide +kernel) rfl 0 rfl rfl rfl rfl hlz rfl hro dL_law_1470 hcs (fun r w H locs hw hPD hS => ?_)
  refine Exists.elim hw (fun v0 hw => ?_)
  refine Exists.elim hw (fun g1 hw => ?_)
  refine Exists.elim hw (fun g2 hw => ?_)
  refine Exists.elim hw (fun g3 hw => ?_)
  refine And.elim (fun bg2 hw => ?_) hw
  refine And.elim (fun br hw => ?_) hw
  refine And.elim (fun g_0 hw => ?_) hw
  refine And.elim (fun et_0 hw => ?_) hw
  refine And.elim (fun et_1 hw => ?_) hw
  refine And.elim (fun et_2 hw => ?_) hw
  refine And.elim (fun et_3 hw => ?_) hw
  refine And.elim (fun et_4 hw => ?_) hw
  subst hw
  obtain ⟨hP, hD⟩ := hPD (wZ V z (up9 pz 0 v0) (up9 (up9 fz 4 g1) 5 g2) (up9 gz 3 g3)) rfl rfl
  replace hP := swP hP
  replace hD := swD hD
  exact kk r H locs (up9 pz 0 v0) (up9 (up9 fz 4 g1) 5 g2) (up9 gz 3 g3) _ ⟨(ivUp 0 hp (iv_top v0)), hz_tz1, hz_tz3, hz_tz4, bg2, hz_tz17, hz_tz20, hz_tz21, hz_tz24, hz_tz25, hz_tz26, hz_tz27, hz_tz33, hz_tz34, hz_tz37, hz_tz38, g_0, rfl⟩ ⟨(List.forall_mem_cons.mpr ⟨rfl, (List.forall_mem_cons.mpr ⟨rfl, (List.forall_mem_cons.mpr ⟨rfl, (fun _ h => absurd h List.not_mem_nil)⟩)⟩)⟩), (List.forall_mem_cons.mpr ⟨rfl, (List.forall_mem_cons.mpr ⟨rfl, (List.forall_mem_cons.mpr ⟨rfl, (List.forall_mem_cons.mpr ⟨rfl, (List.forall_mem_cons.mpr ⟨rfl, (fun _ h => absurd h List.not_mem_nil)⟩)⟩)⟩)⟩)⟩), (fun _ h => absurd h List.not_mem_nil), et_0, et_4⟩ hP hD hS
theorem q_8_150 : Cond.code yX10_image prog_12_method_132_code 3 (some FieldType.int) ∈ gw := gw_8 (i := 150) (rfl) rfl
theorem q_8_148 : Cond.instanceMethod yX10_image ∈ gw := gw_8 (i := 148) (by decide +kernel) rfl
theorem q_8_149 : Cond.selects "BeaconDelayModel" yX10_image yX10_image ∈ gw := gw_8 (i := 149) (by decide +kernel) rfl
theorem mt_X10_image : MtV yX10_image cX10_image 3 (some .int) 1 := ⟨⟨q_8_150, q_1_9, by decide +kernel, by decide +kernel, by decide +kernel⟩, q_8_148, q_8_149⟩
theorem q_8_147 : Cond.methodLink "BeaconDelayLaw" 191 yX10_image ∈ gw := gw_8 (i := 147) (by decide +kernel) rfl
theorem dL_law_1493 : decode cL_law 1493 = .ok (.invokevirtual 191, 3) := by decide +kernel
set_option maxHeartbeats 4000000 in
set_option maxRecDepth 100000 in
theorem cz_41 {p : Program} {e : Env} {s : State} {m : MethodId} {below : List Frame} {meth : Method} {c : Code} {l : Launch} {b Lk : Nat} {xs : Nat → Int32} {V : GV} {z : Nat → Nat} {H : Heap} {locs : List Loc} {cells slots : Nat} {wx : va_W} {ls : Array Slot} {rest : List Value} (G : LCx p s m meth c b Lk xs V) (a1 : Int32) {pz : Nat → Int32} {fz : Nat → Nat → Int32} {gz : Nat → Nat → Int64} {wz : va_W} (kz : KZ V z pz fz gz wz) (hP : va_P V.1 vwCl (wx ++ wz) H) (hD : va_D (AAs s) (wx ++ wz)) (hS : va_S (AAs s) s.heap H locs) (hcs : cells + 0 ≤ 600000 ∧ slots + 0 ≤ 7302250) (hro : (rest.map fun v => v.category).sum ≤ 8) (hlz : ls.size = 4) (kk : (∀ (r : Int32) (H : Heap) (locs : List Loc) (pz' : Nat → Int32) (fz' : Nat → Nat → Int32) (gz' : Nat → Nat → Int64) (wz : va_W), KZ V z pz' fz' gz' wz → (∀ i ∈ [5, 13, 14], pz' i = pz i) ∧ (∀ i ∈ [2, 18, 19], fz' i = fz i) ∧ (∀ i ∈ [3], gz' i = gz i) ∧ (r = (F_k_X10_image_0 a1 (fz 0) (fz 1)).1) ∧ (fz' 0 = (F_k_X10_image_0 a1 (fz 0) (fz 1)).2.2.1) ∧ (fz' 1 = (F_k_X10_image_0 a1 (fz 0) (fz 1)).2.2.2) → va_P V.1 vwCl (wx ++ wz) H → va_D (AAs s) (wx ++ wz) → va_S (AAs s) s.heap H locs → W p l e room_1 s m #[Value.ref b] below meth c H locs cells slots (lw_Z below #[Value.ref b] s) (F0 m 1496 ls (.int r :: rest)))) : W p l e room_1 s m #[Value.ref b] below meth c H locs cells slots (lw_Z below #[Value.ref b] s) (F0 m 1493 ls (.int a1 :: .ref (z 0) :: rest)) := by
  obtain ⟨hp, hz_tz1, hz_tz3, hz_tz4, hz_tz16, hz_tz17, hz_tz20, hz_tz21, hz_tz24, hz_tz25, hz_tz26, hz_tz27, hz_tz33, hz_tz34, hz_tz37, hz_tz38, hz_RW, rfl⟩ := kz
  replace hP := swP hP
  replace hD := swD hD
  refine cSI (X := wZ V z pz fz gz) (pl := wx) (rest := rest) G (k_X10_image_0 l V z a1 (pz 0) (pz 5) (pz 6) (pz 7) (pz 8) (pz 9) (pz 10) (pz 11) (pz 12) (pz 13) (pz 14) (pz 18) (pz 19) (pz 22) (pz 23) (pz 29) (fz 0) (fz 1) (hp 5) (hp 6) (hp 7) (hp 8) (hp 10) (hp 11) (hp 12) (hp 13) (hp 14) (hp 18) (hp 22) (hp 29) hz_tz1 hz_RW) mt_X10_image q_8_147 ⟨Nat.le_of_ble_eq_true rfl, Nat.le_of_ble_eq_true rfl⟩ hP hD hS [0, 1, 2] [0, 0, 0] (by decide) (by decide +kernel) rfl 0 rfl rfl rfl rfl hlz rfl hro dL_law_1493 hcs (fun r w H locs hw hPD hS => ?_)
  refine Exists.elim hw (fun v0 hw => ?_)
  refine Exists.elim hw (fun g1 hw => ?_)
  refine Exists.elim hw (fun g2 hw => ?_)
  refine And.elim (fun bg1 hw => ?_) hw
  refine And.elim (fun br hw => ?_) hw
  refine And.elim (fun g_0 hw => ?_) hw
  refine And.elim (fun et_0 hw => ?_) hw
  refine And.elim (fun et_1 hw => ?_) hw
  refine And.elim (fun et_2 hw => ?_) hw
  refine And.elim (fun et_3 hw => ?_) hw
  subst hw
  obtain ⟨hP, hD⟩ := hPD (wZ V z (up9 pz 0 v0) (up9 (up9 fz 0 g1) 1 g2) gz) rfl rfl
  replace hP := swP hP
  replace hD := swD hD
  exact kk r H locs (up9 pz 0 v0) (up9 (up9 fz 0 g1) 1 g2) gz _ ⟨(ivUp 0 hp (iv_top v0)), bg1, hz_tz3, hz_tz4, hz_tz16, hz_tz17, hz_tz20, hz_tz21, hz_tz24, hz_tz25, hz_tz26, hz_tz27, hz_tz33, hz_tz34, hz_tz37, hz_tz38, g_0, rfl⟩ ⟨(List.forall_mem_cons.mpr ⟨rfl, (List.forall_mem_cons.mpr ⟨rfl, (List.forall_mem_cons.mpr ⟨rfl, (fun _ h => absurd h List.not_mem_nil)⟩)⟩)⟩), (List.forall_mem_cons.mpr ⟨rfl, (List.forall_mem_cons.mpr ⟨rfl, (List.forall_mem_cons.mpr ⟨rfl, (fun _ h => absurd h List.not_mem_nil)⟩)⟩)⟩), (fun _ _ => rfl), et_0, et_2, et_3⟩ hP hD hS
theorem q_8_154 : Cond.code yX10_restore prog_12_method_133_code 3 (some FieldType.int) ∈ gw := gw_8 (i := 154) (rfl) rfl
theorem q_8_152 : Cond.instanceMethod yX10_restore ∈ gw := gw_8 (i := 152) (by decide +kernel) rfl
theorem q_8_153 : Cond.selects "BeaconDelayModel" yX10_restore yX10_restore ∈ gw := gw_8 (i := 153) (by decide +kernel) rfl
theorem mt_X10_restore : MtV yX10_restore cX10_restore 3 (some .int) 1 := ⟨⟨q_8_154, q_1_9, by decide +kernel, by decide +kernel, by decide +kernel⟩, q_8_152, q_8_153⟩
theorem q_8_151 : Cond.methodLink "BeaconDelayLaw" 195 yX10_restore ∈ gw := gw_8 (i := 151) (by decide +kernel) rfl
theorem dL_law_1516 : decode cL_law 1516 = .ok (.invokevirtual 195, 3) := by decide +kernel
set_option maxHeartbeats 4000000 in
set_option maxRecDepth 100000 in
theorem cz_42 {p : Program} {e : Env} {s : State} {m : MethodId} {below : List Frame} {meth : Method} {c : Code} {l : Launch} {b Lk : Nat} {xs : Nat → Int32} {V : GV} {z : Nat → Nat} {H : Heap} {locs : List Loc} {cells slots : Nat} {wx : va_W} {ls : Array Slot} {rest : List Value} (G : LCx p s m meth c b Lk xs V) (a1 : Int32) {pz : Nat → Int32} {fz : Nat → Nat → Int32} {gz : Nat → Nat → Int64} {wz : va_W} (kz : KZ V z pz fz gz wz) (hP : va_P V.1 vwCl (wx ++ wz) H) (hD : va_D (AAs s) (wx ++ wz)) (hS : va_S (AAs s) s.heap H locs) (hcs : cells + 0 ≤ 600000 ∧ slots + 0 ≤ 7302250) (hro : (rest.map fun v => v.category).sum ≤ 8) (hlz : ls.size = 4) (kk : (∀ (r : Int32) (H : Heap) (locs : List Loc) (pz' : Nat → Int32) (fz' : Nat → Nat → Int32) (gz' : Nat → Nat → Int64) (wz : va_W), KZ V z pz' fz' gz' wz → (∀ i ∈ [5, 13, 14], pz' i = pz i) ∧ (∀ i ∈ [1, 2, 18, 19], fz' i = fz i) ∧ (∀ i ∈ [3], gz' i = gz i) ∧ (r = (F_k_X10_restore_0 a1 (fz 0) (fz 1)).1) ∧ (fz' 0 = (F_k_X10_restore_0 a1 (fz 0) (fz 1)).2.2) → va_P V.1 vwCl (wx ++ wz) H → va_D (AAs s) (wx ++ wz) → va_S (AAs s) s.heap H locs → W p l e room_1 s m #[Value.ref b] below meth c H locs cells slots (lw_Z below #[Value.ref b] s) (F0 m 1519 ls (.int r :: rest)))) : W p l e room_1 s m #[Value.ref b] below meth c H locs cells slots (lw_Z below #[Value.ref b] s) (F0 m 1516 ls (.int a1 :: .ref (z 0) :: rest)) := by
  obtain ⟨hp, hz_tz1, hz_tz3, hz_tz4, hz_tz16, hz_tz17, hz_tz20, hz_tz21, hz_tz24, hz_tz25, hz_tz26, hz_tz27, hz_tz33, hz_tz34, hz_tz37, hz_tz38, hz_RW, rfl⟩ := kz
  replace hP := swP hP
  replace hD := swD hD
  refine cSI (X := wZ V z pz fz gz) (pl := wx) (rest := rest) G (k_X10_restore_0 l V z a1 (pz 0) (pz 5) (pz 6) (pz 7) (pz 8) (pz 9) (pz 10) (pz 11) (pz 12) (pz 13) (pz 14) (pz 18) (pz 19) (pz 22) (pz 23) (pz 29) (fz 0) (fz 1) (hp 5) (hp 6) (hp 7) (hp 8) (hp 10) (hp 11) (hp 12) (hp 13) (hp 14) (hp 18) (hp 22) (hp 29) hz_tz1 hz_RW) mt_X10_restore q_8_151 ⟨Nat.le_of_ble_eq_true rfl, Nat.le_of_ble_eq_true rfl⟩ hP hD hS [0, 1, 2] [0, 0, 0] (by decide) (by decide +kernel) rfl 0 rfl rfl rfl rfl hlz rfl hro dL_law_1516 hcs (fun r w H locs hw hPD hS => ?_)
  refine Exists.elim hw (fun v0 hw => ?_)
  refine Exists.elim hw (fun g1 hw => ?_)
  refine And.elim (fun bg1 hw => ?_) hw
  refine And.elim (fun br hw => ?_) hw
  refine And.elim (fun g_0 hw => ?_) hw
  refine And.elim (fun et_0 hw => ?_) hw
  refine And.elim (fun et_1 hw => ?_) hw
  refine And.elim (fun et_2 hw => ?_) hw
  subst hw
  obtain ⟨hP, hD⟩ := hPD (wZ V z (up9 pz 0 v0) (up9 fz 0 g1) gz) rfl rfl
  replace hP := swP hP
  replace hD := swD hD
  exact kk r H locs (up9 pz 0 v0) (up9 fz 0 g1) gz _ ⟨(ivUp 0 hp (iv_top v0)), bg1, hz_tz3, hz_tz4, hz_tz16, hz_tz17, hz_tz20, hz_tz21, hz_tz24, hz_tz25, hz_tz26, hz_tz27, hz_tz33, hz_tz34, hz_tz37, hz_tz38, g_0, rfl⟩ ⟨(List.forall_mem_cons.mpr ⟨rfl, (List.forall_mem_cons.mpr ⟨rfl, (List.forall_mem_cons.mpr ⟨rfl, (fun _ h => absurd h List.not_mem_nil)⟩)⟩)⟩), (List.forall_mem_cons.mpr ⟨rfl, (List.forall_mem_cons.mpr ⟨rfl, (List.forall_mem_cons.mpr ⟨rfl, (List.forall_mem_cons.mpr ⟨rfl, (fun _ h => absurd h List.not_mem_nil)⟩)⟩)⟩)⟩), (fun _ _ => rfl), et_0, et_2⟩ hP hD hS
theorem q_8_158 : Cond.code yX10_count prog_12_method_134_code 2 (some FieldType.int) ∈ gw := gw_8 (i := 158) (rfl) rfl
theorem q_8_156 : Cond.instanceMethod yX10_count ∈ gw := gw_8 (i := 156) (by decide +kernel) rfl
theorem q_8_157 : Cond.selects "BeaconDelayModel" yX10_count yX10_count ∈ gw := gw_8 (i := 157) (by decide +kernel) rfl
theorem mt_X10_count : MtV yX10_count cX10_count 2 (some .int) 1 := ⟨⟨q_8_158, q_1_9, by decide +kernel, by decide +kernel, by decide +kernel⟩, q_8_156, q_8_157⟩
theorem q_8_155 : Cond.methodLink "BeaconDelayLaw" 199 yX10_count ∈ gw := gw_8 (i := 155) (by decide +kernel) rfl
theorem dL_law_1539 : decode cL_law 1539 = .ok (.invokevirtual 199, 3) := by decide +kernel
set_option maxHeartbeats 4000000 in
set_option maxRecDepth 100000 in
theorem cz_43 {p : Program} {e : Env} {s : State} {m : MethodId} {below : List Frame} {meth : Method} {c : Code} {l : Launch} {b Lk : Nat} {xs : Nat → Int32} {V : GV} {z : Nat → Nat} {H : Heap} {locs : List Loc} {cells slots : Nat} {wx : va_W} {ls : Array Slot} {rest : List Value} (G : LCx p s m meth c b Lk xs V) (a1 : Int32) {pz : Nat → Int32} {fz : Nat → Nat → Int32} {gz : Nat → Nat → Int64} {wz : va_W} (kz : KZ V z pz fz gz wz) (hP : va_P V.1 vwCl (wx ++ wz) H) (hD : va_D (AAs s) (wx ++ wz)) (hS : va_S (AAs s) s.heap H locs) (hcs : cells + 0 ≤ 600000 ∧ slots + 0 ≤ 7302250) (hro : (rest.map fun v => v.category).sum ≤ 8) (hlz : ls.size = 4) (kk : (∀ (r : Int32) (H : Heap) (locs : List Loc) (pz' : Nat → Int32) (fz' : Nat → Nat → Int32) (gz' : Nat → Nat → Int64) (wz : va_W), KZ V z pz' fz' gz' wz → (∀ i ∈ [5, 13, 14], pz' i = pz i) ∧ (∀ i ∈ [0, 1, 2, 18, 19], fz' i = fz i) ∧ (∀ i ∈ [3], gz' i = gz i) ∧ (r = (F_k_X10_count_0 a1 (pz 5) (fz 0)).1) → va_P V.1 vwCl (wx ++ wz) H → va_D (AAs s) (wx ++ wz) → va_S (AAs s) s.heap H locs → W p l e room_1 s m #[Value.ref b] below meth c H locs cells slots (lw_Z below #[Value.ref b] s) (F0 m 1542 ls (.int r :: rest)))) : W p l e room_1 s m #[Value.ref b] below meth c H locs cells slots (lw_Z below #[Value.ref b] s) (F0 m 1539 ls (.int a1 :: .ref (z 0) :: rest)) := by
  obtain ⟨hp, hz_tz1, hz_tz3, hz_tz4, hz_tz16, hz_tz17, hz_tz20, hz_tz21, hz_tz24, hz_tz25, hz_tz26, hz_tz27, hz_tz33, hz_tz34, hz_tz37, hz_tz38, hz_RW, rfl⟩ := kz
  replace hP := swP hP
  replace hD := swD hD
  refine cSI (X := wZ V z pz fz gz) (pl := wx) (rest := rest) G (k_X10_count_0 l V z a1 (pz 0) (pz 5) (pz 6) (pz 7) (pz 8) (pz 9) (pz 10) (pz 11) (pz 12) (pz 13) (pz 14) (pz 18) (pz 19) (pz 22) (pz 23) (pz 29) (fz 0) (hp 5) (hp 6) (hp 7) (hp 8) (hp 10) (hp 11) (hp 12) (hp 13) (hp 14) (hp 18) (hp 22) (hp 29) hz_tz1) mt_X10_count q_8_155 ⟨Nat.le_of_ble_eq_true rfl, Nat.le_of_ble_eq_true rfl⟩ hP hD hS [0, 1] [0, 0] (by decide) (by decide +kernel) rfl 0 rfl rfl rfl rfl hlz rfl hro dL_law_1539 hcs (fun r w H locs hw hPD hS => ?_)
  refine Exists.elim hw (fun v0 hw => ?_)
  refine And.elim (fun et_0 hw => ?_) hw
  refine And.elim (fun et_1 hw => ?_) hw
  subst hw
  obtain ⟨hP, hD⟩ := hPD (wZ V z (up9 pz 0 v0) fz gz) rfl rfl
  replace hP := swP hP
  replace hD := swD hD
  exact kk r H locs (up9 pz 0 v0) fz gz _ ⟨(ivUp 0 hp (iv_top v0)), hz_tz1, hz_tz3, hz_tz4, hz_tz16, hz_tz17, hz_tz20, hz_tz21, hz_tz24, hz_tz25, hz_tz26, hz_tz27, hz_tz33, hz_tz34, hz_tz37, hz_tz38, hz_RW, rfl⟩ ⟨(List.forall_mem_cons.mpr ⟨rfl, (List.forall_mem_cons.mpr ⟨rfl, (List.forall_mem_cons.mpr ⟨rfl, (fun _ h => absurd h List.not_mem_nil)⟩)⟩)⟩), (fun _ _ => rfl), (fun _ _ => rfl), et_0⟩ hP hD hS
