theorem dL_law_917 : decode cL_law 917 = .ok (.aload_n 1, 1) := by decide +kernel
theorem q_4_218 : Cond.code yX9_stands prog_1_method_44_code 1 (some FieldType.int) ∈ gw := gw_4 (i := 218) (rfl) rfl
theorem q_4_216 : Cond.instanceMethod yX9_stands ∈ gw := gw_4 (i := 216) (by decide +kernel) rfl
theorem q_4_217 : Cond.selects "BeaconDelay" yX9_stands yX9_stands ∈ gw := gw_4 (i := 217) (by decide +kernel) rfl
theorem mt_X9_stands : MtV yX9_stands cX9_stands 1 (some .int) 0 := ⟨⟨q_4_218, q_1_1, by decide +kernel, by decide +kernel, by decide +kernel⟩, q_4_216, q_4_217⟩
theorem q_4_215 : Cond.methodLink "BeaconDelayLaw" 115 yX9_stands ∈ gw := gw_4 (i := 215) (by decide +kernel) rfl
theorem dL_law_918 : decode cL_law 918 = .ok (.invokevirtual 115, 3) := by decide +kernel
theorem dL_law_921 : decode cL_law 921 = .ok (.aload_n 2, 1) := by decide +kernel
theorem q_8_11 : Cond.code yX10_stands prog_12_method_98_code 1 (some FieldType.int) ∈ gw := gw_8 (i := 11) (rfl) rfl
theorem q_8_9 : Cond.instanceMethod yX10_stands ∈ gw := gw_8 (i := 9) (by decide +kernel) rfl
theorem q_8_10 : Cond.selects "BeaconDelayModel" yX10_stands yX10_stands ∈ gw := gw_8 (i := 10) (by decide +kernel) rfl
theorem mt_X10_stands : MtV yX10_stands cX10_stands 1 (some .int) 0 := ⟨⟨q_8_11, q_1_9, by decide +kernel, by decide +kernel, by decide +kernel⟩, q_8_9, q_8_10⟩
theorem q_8_8 : Cond.methodLink "BeaconDelayLaw" 118 yX10_stands ∈ gw := gw_8 (i := 8) (by decide +kernel) rfl
theorem dL_law_922 : decode cL_law 922 = .ok (.invokevirtual 118, 3) := by decide +kernel
theorem dL_law_925 : decode cL_law 925 = .ok (.if_icmp .eq 624, 3) := by decide +kernel
-- stands
set_option maxHeartbeats 4000000 in
set_option maxRecDepth 100000 in
theorem lc_24 {p : Program} {e : Env} {s : State} {m : MethodId} {below : List Frame} {meth : Method} {c : Code} {l : Launch} {b : Nat} {xs : Nat → Int32} {V : GV} {y z : Nat → Nat} (C0 : lw_At p s m meth c b 6 xs) (hg : ∀ w ∈ gw, w.before #[Value.ref b] s = true) (hK : va_K V.1 vwCl (tyV V) s) (hE : En V (fun q : Nat => s.heap.size ≤ q) s s.heap) {H : Heap} {locs : List Loc} (hP : va_P V.1 vwCl (xW V y ++ mW V z) H) (hD : va_D (fun q : Nat => s.heap.size ≤ q) (xW V y ++ mW V z)) (hS : va_S (fun q : Nat => s.heap.size ≤ q) s.heap H locs) {ls : Array Slot} (hl : lv_has ls 4 [(0, .ref b), (1, .ref (y 0)), (2, .ref (z 0)), (3, .int 0)]) : W p l e room_1 s m #[Value.ref b] below meth c H locs 84 223324 (lw_Z below #[Value.ref b] s) (F0 m 917 ls []) := by
  obtain ⟨hx, hb, hr, hml, hown, hts, hX, hbl, hlocks, hgv⟩ := id C0
  have hA : ∀ q : Nat, s.heap.size ≤ q → (fun q : Nat => s.heap.size ≤ q) q := fun _ h => h
  have hbA : ¬ (fun q : Nat => s.heap.size ≤ q) b := Nat.not_le.mpr hbl
  refine lv_aload_n hx hb dL_law_917 rfl (lv_at hl 1 rfl) ?_
  refine jnI (wr := mW V z) (rnV (rest := []) ⟨hx, hb, hml, hown, hg⟩ (c_X9_stands_0 l V y) mt_X9_stands q_4_215 ⟨Nat.le_of_ble_eq_true rfl, Nat.le_of_ble_eq_true rfl⟩ hK hP hD hS hA hE [0, 2] rfl rfl 0 rfl rfl rfl rfl hl.1 rfl (Nat.le_of_ble_eq_true rfl) dL_law_918 ⟨Nat.le_of_ble_eq_true rfl, Nat.le_of_ble_eq_true rfl⟩) hP hD hS hA [0, 2] [59, 60, 61, 62, 63, 64, 65, 66, 67, 68, 69, 70, 71, 72, 73, 74, 75, 76, 77, 78, 79, 80, 81, 82, 83] rfl rfl rfl (by decide) (fun r w H locs hw hP hD hS => ?_)
  refine W.widen (k := 94) (n := 223356) (Nat.le_of_ble_eq_true rfl) (Nat.le_of_ble_eq_true rfl) ?_
  have hP : va_P V.1 vwCl (mW V z) H := takeP hP
  have hD : va_D (fun q : Nat => s.heap.size ≤ q) (mW V z) := takeD hD
  refine lv_aload_n hx hb dL_law_921 rfl (lv_at hl 2 rfl) ?_
  refine jnI (wr := []) (rnV (rest := [.int r]) ⟨hx, hb, hml, hown, hg⟩ (c_X10_stands_0 l V z) mt_X10_stands q_8_8 ⟨Nat.le_of_ble_eq_true rfl, Nat.le_of_ble_eq_true rfl⟩ hK hP hD hS hA hE [0, 9, 10, 13, 24] rfl rfl 0 rfl rfl rfl rfl hl.1 rfl (Nat.le_of_ble_eq_true rfl) dL_law_922 ⟨Nat.le_of_ble_eq_true rfl, Nat.le_of_ble_eq_true rfl⟩) hP hD hS hA [0, 9, 10, 13, 24] [] rfl rfl rfl (by decide) (fun r2 w2 H locs hw2 hP hD hS => ?_)
  refine W.widen (k := 94) (n := 223356) (Nat.le_of_ble_eq_true rfl) (Nat.le_of_ble_eq_true rfl) ?_
  have e9 : r = r2 := by
    obtain ⟨_, _, _, _, _, _, _, _, _, _, ex, -⟩ := hw
    obtain ⟨em, -⟩ := hw2
    exact ex.trans em.symm
  refine lv_icmp_eq (tgt := 1549) hx hb dL_law_925 (by decide) (fun _ => ?_) (fun c_1 => absurd e9 c_1)
  exact law_end C0 (Nat.le_of_ble_eq_true rfl) (Nat.le_of_ble_eq_true rfl) hS (lv_sub hl [0, 3] rfl)
theorem dL_law_930 : decode cL_law 930 = .ok (.aload_n 1, 1) := by decide +kernel
theorem dL_law_931 : decode cL_law 931 = .ok (.aload_n 0, 1) := by decide +kernel
theorem dL_law_932 : decode cL_law 932 = .ok (.iload_n 3, 1) := by decide +kernel
theorem dL_law_933 : decode cL_law 933 = .ok (.iconst 1, 1) := by decide +kernel
theorem dL_law_934 : decode cL_law 934 = .ok (.iadd, 1) := by decide +kernel
theorem dL_law_935 : decode cL_law 935 = .ok (.iaload, 1) := by decide +kernel
theorem q_4_222 : Cond.code yX9_lit prog_1_method_45_code 2 (some FieldType.int) ∈ gw := gw_4 (i := 222) (rfl) rfl
theorem q_4_220 : Cond.instanceMethod yX9_lit ∈ gw := gw_4 (i := 220) (by decide +kernel) rfl
theorem q_4_221 : Cond.selects "BeaconDelay" yX9_lit yX9_lit ∈ gw := gw_4 (i := 221) (by decide +kernel) rfl
theorem mt_X9_lit : MtV yX9_lit cX9_lit 2 (some .int) 1 := ⟨⟨q_4_222, q_1_1, by decide +kernel, by decide +kernel, by decide +kernel⟩, q_4_220, q_4_221⟩
theorem q_4_219 : Cond.methodLink "BeaconDelayLaw" 119 yX9_lit ∈ gw := gw_4 (i := 219) (by decide +kernel) rfl
theorem dL_law_936 : decode cL_law 936 = .ok (.invokevirtual 119, 3) := by decide +kernel
theorem dL_law_939 : decode cL_law 939 = .ok (.aload_n 2, 1) := by decide +kernel
theorem dL_law_940 : decode cL_law 940 = .ok (.aload_n 0, 1) := by decide +kernel
theorem dL_law_941 : decode cL_law 941 = .ok (.iload_n 3, 1) := by decide +kernel
theorem dL_law_942 : decode cL_law 942 = .ok (.iconst 1, 1) := by decide +kernel
theorem dL_law_943 : decode cL_law 943 = .ok (.iadd, 1) := by decide +kernel
theorem dL_law_944 : decode cL_law 944 = .ok (.iaload, 1) := by decide +kernel
theorem q_8_15 : Cond.code yX10_lit prog_12_method_100_code 2 (some FieldType.int) ∈ gw := gw_8 (i := 15) (rfl) rfl
theorem q_8_13 : Cond.instanceMethod yX10_lit ∈ gw := gw_8 (i := 13) (by decide +kernel) rfl
theorem q_8_14 : Cond.selects "BeaconDelayModel" yX10_lit yX10_lit ∈ gw := gw_8 (i := 14) (by decide +kernel) rfl
theorem mt_X10_lit : MtV yX10_lit cX10_lit 2 (some .int) 1 := ⟨⟨q_8_15, q_1_9, by decide +kernel, by decide +kernel, by decide +kernel⟩, q_8_13, q_8_14⟩
theorem q_8_12 : Cond.methodLink "BeaconDelayLaw" 122 yX10_lit ∈ gw := gw_8 (i := 12) (by decide +kernel) rfl
theorem dL_law_945 : decode cL_law 945 = .ok (.invokevirtual 122, 3) := by decide +kernel
theorem dL_law_948 : decode cL_law 948 = .ok (.if_icmp .eq 601, 3) := by decide +kernel
-- lit
set_option maxHeartbeats 4000000 in
set_option maxRecDepth 100000 in
theorem lc_25 {p : Program} {e : Env} {s : State} {m : MethodId} {below : List Frame} {meth : Method} {c : Code} {l : Launch} {b : Nat} {xs : Nat → Int32} {V : GV} {y z : Nat → Nat} (C0 : lw_At p s m meth c b 6 xs) (hg : ∀ w ∈ gw, w.before #[Value.ref b] s = true) (hK : va_K V.1 vwCl (tyV V) s) (hE : En V (fun q : Nat => s.heap.size ≤ q) s s.heap) {H : Heap} {locs : List Loc} (hP : va_P V.1 vwCl (xW V y ++ mW V z) H) (hD : va_D (fun q : Nat => s.heap.size ≤ q) (xW V y ++ mW V z)) (hS : va_S (fun q : Nat => s.heap.size ≤ q) s.heap H locs) {ls : Array Slot} (hl : lv_has ls 4 [(0, .ref b), (1, .ref (y 0)), (2, .ref (z 0)), (3, .int 0)]) : W p l e room_1 s m #[Value.ref b] below meth c H locs 84 223324 (lw_Z below #[Value.ref b] s) (F0 m 930 ls []) := by
  obtain ⟨hx, hb, hr, hml, hown, hts, hX, hbl, hlocks, hgv⟩ := id C0
  have hA : ∀ q : Nat, s.heap.size ≤ q → (fun q : Nat => s.heap.size ≤ q) q := fun _ h => h
  have hbA : ¬ (fun q : Nat => s.heap.size ≤ q) b := Nat.not_le.mpr hbl
  refine lv_aload_n hx hb dL_law_930 rfl (lv_at hl 1 rfl) ?_
  refine lv_aload_n hx hb dL_law_931 rfl (lv_at hl 0 rfl) ?_
  refine lv_iload_n hx hb dL_law_932 rfl (lv_at hl 3 rfl) ?_
  refine lv_iconst (v := 1) hx hb dL_law_933 (by decide) ?_
  refine lv_iadd hx hb dL_law_934 ?_
  refine tpi (y := 1) (by decide +kernel) ?_
  refine va_sld hx hb hX hbl hbA hS (vin (by decide +kernel)) dL_law_935 ?_
  refine tpi (y := xs 1) rfl ?_
  refine jnI (wr := mW V z) (rnV (rest := []) ⟨hx, hb, hml, hown, hg⟩ (c_X9_lit_0 l V y ((xs 1))) mt_X9_lit q_4_219 ⟨Nat.le_of_ble_eq_true rfl, Nat.le_of_ble_eq_true rfl⟩ hK hP hD hS hA hE [0, 2] rfl rfl 0 rfl rfl rfl rfl hl.1 rfl (Nat.le_of_ble_eq_true rfl) dL_law_936 ⟨Nat.le_of_ble_eq_true rfl, Nat.le_of_ble_eq_true rfl⟩) hP hD hS hA [0, 2] [59, 60, 61, 62, 63, 64, 65, 66, 67, 68, 69, 70, 71, 72, 73, 74, 75, 76, 77, 78, 79, 80, 81, 82, 83] rfl rfl rfl (by decide) (fun r w H locs hw hP hD hS => ?_)
  refine W.widen (k := 84) (n := 223324) (Nat.le_of_ble_eq_true rfl) (Nat.le_of_ble_eq_true rfl) ?_
  have hP : va_P V.1 vwCl (mW V z) H := takeP hP
  have hD : va_D (fun q : Nat => s.heap.size ≤ q) (mW V z) := takeD hD
  refine lv_aload_n hx hb dL_law_939 rfl (lv_at hl 2 rfl) ?_
  refine lv_aload_n hx hb dL_law_940 rfl (lv_at hl 0 rfl) ?_
  refine lv_iload_n hx hb dL_law_941 rfl (lv_at hl 3 rfl) ?_
  refine lv_iconst (v := 1) hx hb dL_law_942 (by decide) ?_
  refine lv_iadd hx hb dL_law_943 ?_
  refine tpi (y := 1) (by decide +kernel) ?_
  refine va_sld hx hb hX hbl hbA hS (vin (by decide +kernel)) dL_law_944 ?_
  refine tpi (y := xs 1) rfl ?_
  refine jnI (wr := []) (rnV (rest := [.int r]) ⟨hx, hb, hml, hown, hg⟩ (c_X10_lit_0 l V z ((xs 1))) mt_X10_lit q_8_12 ⟨Nat.le_of_ble_eq_true rfl, Nat.le_of_ble_eq_true rfl⟩ hK hP hD hS hA hE [0, 24] rfl rfl 0 rfl rfl rfl rfl hl.1 rfl (Nat.le_of_ble_eq_true rfl) dL_law_945 ⟨Nat.le_of_ble_eq_true rfl, Nat.le_of_ble_eq_true rfl⟩) hP hD hS hA [0, 24] [] rfl rfl rfl (by decide) (fun r2 w2 H locs hw2 hP hD hS => ?_)
  refine W.widen (k := 84) (n := 223324) (Nat.le_of_ble_eq_true rfl) (Nat.le_of_ble_eq_true rfl) ?_
  have e9 : r = r2 := by
    obtain ⟨ex, -⟩ := hw
    obtain ⟨em, -⟩ := hw2
    exact ex.trans em.symm
  refine lv_icmp_eq (tgt := 1549) hx hb dL_law_948 (by decide) (fun _ => ?_) (fun c_1 => absurd e9 c_1)
  exact law_end C0 (Nat.le_of_ble_eq_true rfl) (Nat.le_of_ble_eq_true rfl) hS (lv_sub hl [0, 3] rfl)
theorem dL_law_953 : decode cL_law 953 = .ok (.aload_n 1, 1) := by decide +kernel
theorem q_4_234 : Cond.code yX9_brightest prog_1_method_48_code 5 (some FieldType.int) ∈ gw := gw_4 (i := 234) (rfl) rfl
theorem q_4_232 : Cond.instanceMethod yX9_brightest ∈ gw := gw_4 (i := 232) (by decide +kernel) rfl
theorem q_4_233 : Cond.selects "BeaconDelay" yX9_brightest yX9_brightest ∈ gw := gw_4 (i := 233) (by decide +kernel) rfl
theorem mt_X9_brightest : MtV yX9_brightest cX9_brightest 5 (some .int) 0 := ⟨⟨q_4_234, q_1_1, by decide +kernel, by decide +kernel, by decide +kernel⟩, q_4_232, q_4_233⟩
theorem q_4_231 : Cond.methodLink "BeaconDelayLaw" 123 yX9_brightest ∈ gw := gw_4 (i := 231) (by decide +kernel) rfl
theorem dL_law_954 : decode cL_law 954 = .ok (.invokevirtual 123, 3) := by decide +kernel
theorem dL_law_957 : decode cL_law 957 = .ok (.aload_n 2, 1) := by decide +kernel
theorem q_8_23 : Cond.code yX10_brightest prog_12_method_101_code 4 (some FieldType.int) ∈ gw := gw_8 (i := 23) (rfl) rfl
theorem q_8_21 : Cond.instanceMethod yX10_brightest ∈ gw := gw_8 (i := 21) (by decide +kernel) rfl
theorem q_8_22 : Cond.selects "BeaconDelayModel" yX10_brightest yX10_brightest ∈ gw := gw_8 (i := 22) (by decide +kernel) rfl
theorem mt_X10_brightest : MtV yX10_brightest cX10_brightest 4 (some .int) 0 := ⟨⟨q_8_23, q_1_9, by decide +kernel, by decide +kernel, by decide +kernel⟩, q_8_21, q_8_22⟩
theorem q_8_20 : Cond.methodLink "BeaconDelayLaw" 126 yX10_brightest ∈ gw := gw_8 (i := 20) (by decide +kernel) rfl
theorem dL_law_958 : decode cL_law 958 = .ok (.invokevirtual 126, 3) := by decide +kernel
theorem dL_law_961 : decode cL_law 961 = .ok (.if_icmp .eq 588, 3) := by decide +kernel
-- brightest
set_option maxHeartbeats 4000000 in
set_option maxRecDepth 100000 in
theorem lc_26 {p : Program} {e : Env} {s : State} {m : MethodId} {below : List Frame} {meth : Method} {c : Code} {l : Launch} {b : Nat} {xs : Nat → Int32} {V : GV} {y z : Nat → Nat} (C0 : lw_At p s m meth c b 6 xs) (hg : ∀ w ∈ gw, w.before #[Value.ref b] s = true) (hK : va_K V.1 vwCl (tyV V) s) (hE : En V (fun q : Nat => s.heap.size ≤ q) s s.heap) {H : Heap} {locs : List Loc} (hP : va_P V.1 vwCl (xW V y ++ mW V z) H) (hD : va_D (fun q : Nat => s.heap.size ≤ q) (xW V y ++ mW V z)) (hS : va_S (fun q : Nat => s.heap.size ≤ q) s.heap H locs) {ls : Array Slot} (hl : lv_has ls 4 [(0, .ref b), (1, .ref (y 0)), (2, .ref (z 0)), (3, .int 0)]) : W p l e room_1 s m #[Value.ref b] below meth c H locs 84 223324 (lw_Z below #[Value.ref b] s) (F0 m 953 ls []) := by
  obtain ⟨hx, hb, hr, hml, hown, hts, hX, hbl, hlocks, hgv⟩ := id C0
  have hA : ∀ q : Nat, s.heap.size ≤ q → (fun q : Nat => s.heap.size ≤ q) q := fun _ h => h
  have hbA : ¬ (fun q : Nat => s.heap.size ≤ q) b := Nat.not_le.mpr hbl
  refine lv_aload_n hx hb dL_law_953 rfl (lv_at hl 1 rfl) ?_
  refine jnI (wr := mW V z) (rnV (rest := []) ⟨hx, hb, hml, hown, hg⟩ (c_X9_brightest_0 l V y) mt_X9_brightest q_4_231 ⟨Nat.le_of_ble_eq_true rfl, Nat.le_of_ble_eq_true rfl⟩ hK hP hD hS hA hE [0, 2] rfl rfl 0 rfl rfl rfl rfl hl.1 rfl (Nat.le_of_ble_eq_true rfl) dL_law_954 ⟨Nat.le_of_ble_eq_true rfl, Nat.le_of_ble_eq_true rfl⟩) hP hD hS hA [0, 2] [59, 60, 61, 62, 63, 64, 65, 66, 67, 68, 69, 70, 71, 72, 73, 74, 75, 76, 77, 78, 79, 80, 81, 82, 83] rfl rfl rfl (by decide) (fun r w H locs hw hP hD hS => ?_)
  refine W.widen (k := 84) (n := 223324) (Nat.le_of_ble_eq_true rfl) (Nat.le_of_ble_eq_true rfl) ?_
  have hP : va_P V.1 vwCl (mW V z) H := takeP hP
  have hD : va_D (fun q : Nat => s.heap.size ≤ q) (mW V z) := takeD hD
  refine lv_aload_n hx hb dL_law_957 rfl (lv_at hl 2 rfl) ?_
  refine jnI (wr := []) (rnV (rest := [.int r]) ⟨hx, hb, hml, hown, hg⟩ (c_X10_brightest_0 l V z) mt_X10_brightest q_8_20 ⟨Nat.le_of_ble_eq_true rfl, Nat.le_of_ble_eq_true rfl⟩ hK hP hD hS hA hE [0, 24] rfl rfl 0 rfl rfl rfl rfl hl.1 rfl (Nat.le_of_ble_eq_true rfl) dL_law_958 ⟨Nat.le_of_ble_eq_true rfl, Nat.le_of_ble_eq_true rfl⟩) hP hD hS hA [0, 24] [] rfl rfl rfl (by decide) (fun r2 w2 H locs hw2 hP hD hS => ?_)
  refine W.widen (k := 84) (n := 223324) (Nat.le_of_ble_eq_true rfl) (Nat.le_of_ble_eq_true rfl) ?_
  have e9 : r = r2 := by
    obtain ⟨ex, -⟩ := hw
    obtain ⟨em, -⟩ := hw2
    exact ex.trans em.symm
  refine lv_icmp_eq (tgt := 1549) hx hb dL_law_961 (by decide) (fun _ => ?_) (fun c_1 => absurd e9 c_1)
  exact law_end C0 (Nat.le_of_ble_eq_true rfl) (Nat.le_of_ble_eq_true rfl) hS (lv_sub hl [0, 3] rfl)
theorem dL_law_966 : decode cL_law 966 = .ok (.aload_n 1, 1) := by decide +kernel
theorem q_5_4 : Cond.code yX9_wood prog_1_method_49_code 1 (some FieldType.int) ∈ gw := gw_5 (i := 4) (rfl) rfl
theorem q_5_2 : Cond.instanceMethod yX9_wood ∈ gw := gw_5 (i := 2) (by decide +kernel) rfl
theorem q_5_3 : Cond.selects "BeaconDelay" yX9_wood yX9_wood ∈ gw := gw_5 (i := 3) (by decide +kernel) rfl
theorem mt_X9_wood : MtV yX9_wood cX9_wood 1 (some .int) 0 := ⟨⟨q_5_4, q_1_1, by decide +kernel, by decide +kernel, by decide +kernel⟩, q_5_2, q_5_3⟩
theorem q_5_1 : Cond.methodLink "BeaconDelayLaw" 127 yX9_wood ∈ gw := gw_5 (i := 1) (by decide +kernel) rfl
theorem dL_law_967 : decode cL_law 967 = .ok (.invokevirtual 127, 3) := by decide +kernel
theorem dL_law_970 : decode cL_law 970 = .ok (.aload_n 2, 1) := by decide +kernel
theorem q_8_30 : Cond.code yX10_wood prog_12_method_105_code 1 (some FieldType.int) ∈ gw := gw_8 (i := 30) (rfl) rfl
theorem q_8_28 : Cond.instanceMethod yX10_wood ∈ gw := gw_8 (i := 28) (by decide +kernel) rfl
theorem q_8_29 : Cond.selects "BeaconDelayModel" yX10_wood yX10_wood ∈ gw := gw_8 (i := 29) (by decide +kernel) rfl
theorem mt_X10_wood : MtV yX10_wood cX10_wood 1 (some .int) 0 := ⟨⟨q_8_30, q_1_9, by decide +kernel, by decide +kernel, by decide +kernel⟩, q_8_28, q_8_29⟩
theorem q_8_27 : Cond.methodLink "BeaconDelayLaw" 130 yX10_wood ∈ gw := gw_8 (i := 27) (by decide +kernel) rfl
theorem dL_law_971 : decode cL_law 971 = .ok (.invokevirtual 130, 3) := by decide +kernel
theorem dL_law_974 : decode cL_law 974 = .ok (.if_icmp .eq 575, 3) := by decide +kernel
-- wood
set_option maxHeartbeats 4000000 in
set_option maxRecDepth 100000 in
theorem lc_27 {p : Program} {e : Env} {s : State} {m : MethodId} {below : List Frame} {meth : Method} {c : Code} {l : Launch} {b : Nat} {xs : Nat → Int32} {V : GV} {y z : Nat → Nat} (C0 : lw_At p s m meth c b 6 xs) (hg : ∀ w ∈ gw, w.before #[Value.ref b] s = true) (hK : va_K V.1 vwCl (tyV V) s) (hE : En V (fun q : Nat => s.heap.size ≤ q) s s.heap) {H : Heap} {locs : List Loc} (hP : va_P V.1 vwCl (xW V y ++ mW V z) H) (hD : va_D (fun q : Nat => s.heap.size ≤ q) (xW V y ++ mW V z)) (hS : va_S (fun q : Nat => s.heap.size ≤ q) s.heap H locs) {ls : Array Slot} (hl : lv_has ls 4 [(0, .ref b), (1, .ref (y 0)), (2, .ref (z 0)), (3, .int 0)]) : W p l e room_1 s m #[Value.ref b] below meth c H locs 84 223324 (lw_Z below #[Value.ref b] s) (F0 m 966 ls []) := by
  obtain ⟨hx, hb, hr, hml, hown, hts, hX, hbl, hlocks, hgv⟩ := id C0
  have hA : ∀ q : Nat, s.heap.size ≤ q → (fun q : Nat => s.heap.size ≤ q) q := fun _ h => h
  have hbA : ¬ (fun q : Nat => s.heap.size ≤ q) b := Nat.not_le.mpr hbl
  refine lv_aload_n hx hb dL_law_966 rfl (lv_at hl 1 rfl) ?_
  refine jnI (wr := mW V z) (rnV (rest := []) ⟨hx, hb, hml, hown, hg⟩ (c_X9_wood_0 l V y) mt_X9_wood q_5_1 ⟨Nat.le_of_ble_eq_true rfl, Nat.le_of_ble_eq_true rfl⟩ hK hP hD hS hA hE [0, 2] rfl rfl 0 rfl rfl rfl rfl hl.1 rfl (Nat.le_of_ble_eq_true rfl) dL_law_967 ⟨Nat.le_of_ble_eq_true rfl, Nat.le_of_ble_eq_true rfl⟩) hP hD hS hA [0, 2] [59, 60, 61, 62, 63, 64, 65, 66, 67, 68, 69, 70, 71, 72, 73, 74, 75, 76, 77, 78, 79, 80, 81, 82, 83] rfl rfl rfl (by decide) (fun r w H locs hw hP hD hS => ?_)
  refine W.widen (k := 84) (n := 223324) (Nat.le_of_ble_eq_true rfl) (Nat.le_of_ble_eq_true rfl) ?_
  have hP : va_P V.1 vwCl (mW V z) H := takeP hP
  have hD : va_D (fun q : Nat => s.heap.size ≤ q) (mW V z) := takeD hD
  refine lv_aload_n hx hb dL_law_970 rfl (lv_at hl 2 rfl) ?_
  refine jnI (wr := []) (rnV (rest := [.int r]) ⟨hx, hb, hml, hown, hg⟩ (c_X10_wood_0 l V z) mt_X10_wood q_8_27 ⟨Nat.le_of_ble_eq_true rfl, Nat.le_of_ble_eq_true rfl⟩ hK hP hD hS hA hE [0, 16, 17, 18, 24] rfl rfl 0 rfl rfl rfl rfl hl.1 rfl (Nat.le_of_ble_eq_true rfl) dL_law_971 ⟨Nat.le_of_ble_eq_true rfl, Nat.le_of_ble_eq_true rfl⟩) hP hD hS hA [0, 16, 17, 18, 24] [] rfl rfl rfl (by decide) (fun r2 w2 H locs hw2 hP hD hS => ?_)
  refine W.widen (k := 84) (n := 223324) (Nat.le_of_ble_eq_true rfl) (Nat.le_of_ble_eq_true rfl) ?_
  have e9 : r = r2 := by
    obtain ⟨ex, -⟩ := hw
    obtain ⟨em, -⟩ := hw2
    exact ex.trans em.symm
  refine lv_icmp_eq (tgt := 1549) hx hb dL_law_974 (by decide) (fun _ => ?_) (fun c_1 => absurd e9 c_1)
  exact law_end C0 (Nat.le_of_ble_eq_true rfl) (Nat.le_of_ble_eq_true rfl) hS (lv_sub hl [0, 3] rfl)
theorem dL_law_979 : decode cL_law 979 = .ok (.aload_n 1, 1) := by decide +kernel
theorem q_5_16 : Cond.code yX9_needed prog_1_method_50_code 4 (some FieldType.int) ∈ gw := gw_5 (i := 16) (rfl) rfl
theorem q_5_14 : Cond.instanceMethod yX9_needed ∈ gw := gw_5 (i := 14) (by decide +kernel) rfl
theorem q_5_15 : Cond.selects "BeaconDelay" yX9_needed yX9_needed ∈ gw := gw_5 (i := 15) (by decide +kernel) rfl
theorem mt_X9_needed : MtV yX9_needed cX9_needed 4 (some .int) 0 := ⟨⟨q_5_16, q_1_1, by decide +kernel, by decide +kernel, by decide +kernel⟩, q_5_14, q_5_15⟩
theorem q_5_13 : Cond.methodLink "BeaconDelayLaw" 131 yX9_needed ∈ gw := gw_5 (i := 13) (by decide +kernel) rfl
theorem dL_law_980 : decode cL_law 980 = .ok (.invokevirtual 131, 3) := by decide +kernel
theorem dL_law_983 : decode cL_law 983 = .ok (.aload_n 2, 1) := by decide +kernel
theorem q_8_46 : Cond.code yX10_needed prog_12_method_106_code 4 (some FieldType.int) ∈ gw := gw_8 (i := 46) (rfl) rfl
theorem q_8_44 : Cond.instanceMethod yX10_needed ∈ gw := gw_8 (i := 44) (by decide +kernel) rfl
theorem q_8_45 : Cond.selects "BeaconDelayModel" yX10_needed yX10_needed ∈ gw := gw_8 (i := 45) (by decide +kernel) rfl
theorem mt_X10_needed : MtV yX10_needed cX10_needed 4 (some .int) 0 := ⟨⟨q_8_46, q_1_9, by decide +kernel, by decide +kernel, by decide +kernel⟩, q_8_44, q_8_45⟩
theorem q_8_43 : Cond.methodLink "BeaconDelayLaw" 134 yX10_needed ∈ gw := gw_8 (i := 43) (by decide +kernel) rfl
theorem dL_law_984 : decode cL_law 984 = .ok (.invokevirtual 134, 3) := by decide +kernel
theorem dL_law_987 : decode cL_law 987 = .ok (.if_icmp .eq 562, 3) := by decide +kernel
-- needed
set_option maxHeartbeats 4000000 in
set_option maxRecDepth 100000 in
theorem lc_28 {p : Program} {e : Env} {s : State} {m : MethodId} {below : List Frame} {meth : Method} {c : Code} {l : Launch} {b : Nat} {xs : Nat → Int32} {V : GV} {y z : Nat → Nat} (C0 : lw_At p s m meth c b 6 xs) (hg : ∀ w ∈ gw, w.before #[Value.ref b] s = true) (hK : va_K V.1 vwCl (tyV V) s) (hE : En V (fun q : Nat => s.heap.size ≤ q) s s.heap) {H : Heap} {locs : List Loc} (hP : va_P V.1 vwCl (xW V y ++ mW V z) H) (hD : va_D (fun q : Nat => s.heap.size ≤ q) (xW V y ++ mW V z)) (hS : va_S (fun q : Nat => s.heap.size ≤ q) s.heap H locs) {ls : Array Slot} (hl : lv_has ls 4 [(0, .ref b), (1, .ref (y 0)), (2, .ref (z 0)), (3, .int 0)]) : W p l e room_1 s m #[Value.ref b] below meth c H locs 84 223324 (lw_Z below #[Value.ref b] s) (F0 m 979 ls []) := by
  obtain ⟨hx, hb, hr, hml, hown, hts, hX, hbl, hlocks, hgv⟩ := id C0
  have hA : ∀ q : Nat, s.heap.size ≤ q → (fun q : Nat => s.heap.size ≤ q) q := fun _ h => h
  have hbA : ¬ (fun q : Nat => s.heap.size ≤ q) b := Nat.not_le.mpr hbl
  refine lv_aload_n hx hb dL_law_979 rfl (lv_at hl 1 rfl) ?_
  refine jnI (wr := mW V z) (rnV (rest := []) ⟨hx, hb, hml, hown, hg⟩ (c_X9_needed_0 l V y) mt_X9_needed q_5_13 ⟨Nat.le_of_ble_eq_true rfl, Nat.le_of_ble_eq_true rfl⟩ hK hP hD hS hA hE [0, 2] rfl rfl 0 rfl rfl rfl rfl hl.1 rfl (Nat.le_of_ble_eq_true rfl) dL_law_980 ⟨Nat.le_of_ble_eq_true rfl, Nat.le_of_ble_eq_true rfl⟩) hP hD hS hA [0, 2] [59, 60, 61, 62, 63, 64, 65, 66, 67, 68, 69, 70, 71, 72, 73, 74, 75, 76, 77, 78, 79, 80, 81, 82, 83] rfl rfl rfl (by decide) (fun r w H locs hw hP hD hS => ?_)
  refine W.widen (k := 84) (n := 223324) (Nat.le_of_ble_eq_true rfl) (Nat.le_of_ble_eq_true rfl) ?_
  have hP : va_P V.1 vwCl (mW V z) H := takeP hP
  have hD : va_D (fun q : Nat => s.heap.size ≤ q) (mW V z) := takeD hD
  refine lv_aload_n hx hb dL_law_983 rfl (lv_at hl 2 rfl) ?_
  refine jnI (wr := []) (rnV (rest := [.int r]) ⟨hx, hb, hml, hown, hg⟩ (c_X10_needed_0 l V z) mt_X10_needed q_8_43 ⟨Nat.le_of_ble_eq_true rfl, Nat.le_of_ble_eq_true rfl⟩ hK hP hD hS hA hE [0, 16, 17, 18, 24] rfl rfl 0 rfl rfl rfl rfl hl.1 rfl (Nat.le_of_ble_eq_true rfl) dL_law_984 ⟨Nat.le_of_ble_eq_true rfl, Nat.le_of_ble_eq_true rfl⟩) hP hD hS hA [0, 16, 17, 18, 24] [] rfl rfl rfl (by decide) (fun r2 w2 H locs hw2 hP hD hS => ?_)
  refine W.widen (k := 84) (n := 223324) (Nat.le_of_ble_eq_true rfl) (Nat.le_of_ble_eq_true rfl) ?_
  have e9 : r = r2 := by
    obtain ⟨ex, -⟩ := hw
    obtain ⟨em, -⟩ := hw2
    exact ex.trans em.symm
  refine lv_icmp_eq (tgt := 1549) hx hb dL_law_987 (by decide) (fun _ => ?_) (fun c_1 => absurd e9 c_1)
  exact law_end C0 (Nat.le_of_ble_eq_true rfl) (Nat.le_of_ble_eq_true rfl) hS (lv_sub hl [0, 3] rfl)
theorem dL_law_992 : decode cL_law 992 = .ok (.aload_n 1, 1) := by decide +kernel
theorem dL_law_993 : decode cL_law 993 = .ok (.aload_n 0, 1) := by decide +kernel
theorem dL_law_994 : decode cL_law 994 = .ok (.iload_n 3, 1) := by decide +kernel
theorem dL_law_995 : decode cL_law 995 = .ok (.iconst 1, 1) := by decide +kernel
theorem dL_law_996 : decode cL_law 996 = .ok (.iadd, 1) := by decide +kernel
theorem dL_law_997 : decode cL_law 997 = .ok (.iaload, 1) := by decide +kernel
theorem dL_law_998 : decode cL_law 998 = .ok (.aload_n 0, 1) := by decide +kernel
theorem dL_law_999 : decode cL_law 999 = .ok (.iload_n 3, 1) := by decide +kernel
theorem dL_law_1000 : decode cL_law 1000 = .ok (.iconst 2, 1) := by decide +kernel
theorem dL_law_1001 : decode cL_law 1001 = .ok (.iadd, 1) := by decide +kernel
theorem dL_law_1002 : decode cL_law 1002 = .ok (.iaload, 1) := by decide +kernel
theorem q_5_20 : Cond.code yX9_high prog_1_method_53_code 5 (some FieldType.long) ∈ gw := gw_5 (i := 20) (rfl) rfl
theorem q_5_18 : Cond.instanceMethod yX9_high ∈ gw := gw_5 (i := 18) (by decide +kernel) rfl
theorem q_5_19 : Cond.selects "BeaconDelay" yX9_high yX9_high ∈ gw := gw_5 (i := 19) (by decide +kernel) rfl
theorem mt_X9_high : MtV yX9_high cX9_high 5 (some .long) 2 := ⟨⟨q_5_20, q_1_1, by decide +kernel, by decide +kernel, by decide +kernel⟩, q_5_18, q_5_19⟩
theorem q_5_17 : Cond.methodLink "BeaconDelayLaw" 135 yX9_high ∈ gw := gw_5 (i := 17) (by decide +kernel) rfl
theorem dL_law_1003 : decode cL_law 1003 = .ok (.invokevirtual 135, 3) := by decide +kernel
theorem dL_law_1006 : decode cL_law 1006 = .ok (.aload_n 2, 1) := by decide +kernel
theorem dL_law_1007 : decode cL_law 1007 = .ok (.aload_n 0, 1) := by decide +kernel
theorem dL_law_1008 : decode cL_law 1008 = .ok (.iload_n 3, 1) := by decide +kernel
theorem dL_law_1009 : decode cL_law 1009 = .ok (.iconst 1, 1) := by decide +kernel
theorem dL_law_1010 : decode cL_law 1010 = .ok (.iadd, 1) := by decide +kernel
theorem dL_law_1011 : decode cL_law 1011 = .ok (.iaload, 1) := by decide +kernel
theorem dL_law_1012 : decode cL_law 1012 = .ok (.aload_n 0, 1) := by decide +kernel
theorem dL_law_1013 : decode cL_law 1013 = .ok (.iload_n 3, 1) := by decide +kernel
theorem dL_law_1014 : decode cL_law 1014 = .ok (.iconst 2, 1) := by decide +kernel
theorem dL_law_1015 : decode cL_law 1015 = .ok (.iadd, 1) := by decide +kernel
theorem dL_law_1016 : decode cL_law 1016 = .ok (.iaload, 1) := by decide +kernel
theorem q_8_50 : Cond.code yX10_high prog_12_method_110_code 4 (some FieldType.long) ∈ gw := gw_8 (i := 50) (rfl) rfl
theorem q_8_48 : Cond.instanceMethod yX10_high ∈ gw := gw_8 (i := 48) (by decide +kernel) rfl
theorem q_8_49 : Cond.selects "BeaconDelayModel" yX10_high yX10_high ∈ gw := gw_8 (i := 49) (by decide +kernel) rfl
theorem mt_X10_high : MtV yX10_high cX10_high 4 (some .long) 2 := ⟨⟨q_8_50, q_1_9, by decide +kernel, by decide +kernel, by decide +kernel⟩, q_8_48, q_8_49⟩
theorem q_8_47 : Cond.methodLink "BeaconDelayLaw" 139 yX10_high ∈ gw := gw_8 (i := 47) (by decide +kernel) rfl
theorem dL_law_1017 : decode cL_law 1017 = .ok (.invokevirtual 139, 3) := by decide +kernel
theorem dL_law_1020 : decode cL_law 1020 = .ok (.lcmp, 1) := by decide +kernel
theorem dL_law_1021 : decode cL_law 1021 = .ok (.ifCond .eq 528, 3) := by decide +kernel
-- high
set_option maxHeartbeats 4000000 in
set_option maxRecDepth 100000 in
theorem lc_29 {p : Program} {e : Env} {s : State} {m : MethodId} {below : List Frame} {meth : Method} {c : Code} {l : Launch} {b : Nat} {xs : Nat → Int32} {V : GV} {y z : Nat → Nat} (C0 : lw_At p s m meth c b 6 xs) (hg : ∀ w ∈ gw, w.before #[Value.ref b] s = true) (hK : va_K V.1 vwCl (tyV V) s) (hE : En V (fun q : Nat => s.heap.size ≤ q) s s.heap) {H : Heap} {locs : List Loc} (hP : va_P V.1 vwCl (xW V y ++ mW V z) H) (hD : va_D (fun q : Nat => s.heap.size ≤ q) (xW V y ++ mW V z)) (hS : va_S (fun q : Nat => s.heap.size ≤ q) s.heap H locs) {ls : Array Slot} (hl : lv_has ls 4 [(0, .ref b), (1, .ref (y 0)), (2, .ref (z 0)), (3, .int 0)]) : W p l e room_1 s m #[Value.ref b] below meth c H locs 84 223324 (lw_Z below #[Value.ref b] s) (F0 m 992 ls []) := by
  obtain ⟨hx, hb, hr, hml, hown, hts, hX, hbl, hlocks, hgv⟩ := id C0
  have hA : ∀ q : Nat, s.heap.size ≤ q → (fun q : Nat => s.heap.size ≤ q) q := fun _ h => h
  have hbA : ¬ (fun q : Nat => s.heap.size ≤ q) b := Nat.not_le.mpr hbl
  refine lv_aload_n hx hb dL_law_992 rfl (lv_at hl 1 rfl) ?_
  refine lv_aload_n hx hb dL_law_993 rfl (lv_at hl 0 rfl) ?_
  refine lv_iload_n hx hb dL_law_994 rfl (lv_at hl 3 rfl) ?_
  refine lv_iconst (v := 1) hx hb dL_law_995 (by decide) ?_
  refine lv_iadd hx hb dL_law_996 ?_
  refine tpi (y := 1) (by decide +kernel) ?_
  refine va_sld hx hb hX hbl hbA hS (vin (by decide +kernel)) dL_law_997 ?_
  refine tpi (y := xs 1) rfl ?_
  refine lv_aload_n hx hb dL_law_998 rfl (lv_at hl 0 rfl) ?_
  refine lv_iload_n hx hb dL_law_999 rfl (lv_at hl 3 rfl) ?_
  refine lv_iconst (v := 2) hx hb dL_law_1000 (by decide) ?_
  refine lv_iadd hx hb dL_law_1001 ?_
  refine tpi (y := 2) (by decide +kernel) ?_
  refine va_sld hx hb hX hbl hbA hS (vin (by decide +kernel)) dL_law_1002 ?_
  refine tpi (y := xs 2) rfl ?_
  refine jnL (wr := mW V z) (rnV (rest := []) ⟨hx, hb, hml, hown, hg⟩ (c_X9_high_0 l V y ((xs 1)) ((xs 2))) mt_X9_high q_5_17 ⟨Nat.le_of_ble_eq_true rfl, Nat.le_of_ble_eq_true rfl⟩ hK hP hD hS hA hE [0, 2] rfl rfl 0 rfl rfl rfl rfl hl.1 rfl (Nat.le_of_ble_eq_true rfl) dL_law_1003 ⟨Nat.le_of_ble_eq_true rfl, Nat.le_of_ble_eq_true rfl⟩) hP hD hS hA [0, 2] [59, 60, 61, 62, 63, 64, 65, 66, 67, 68, 69, 70, 71, 72, 73, 74, 75, 76, 77, 78, 79, 80, 81, 82, 83] rfl rfl rfl (by decide) (fun r w H locs hw hP hD hS => ?_)
  refine W.widen (k := 84) (n := 223324) (Nat.le_of_ble_eq_true rfl) (Nat.le_of_ble_eq_true rfl) ?_
  have hP : va_P V.1 vwCl (mW V z) H := takeP hP
  have hD : va_D (fun q : Nat => s.heap.size ≤ q) (mW V z) := takeD hD
  refine lv_aload_n hx hb dL_law_1006 rfl (lv_at hl 2 rfl) ?_
  refine lv_aload_n hx hb dL_law_1007 rfl (lv_at hl 0 rfl) ?_
  refine lv_iload_n hx hb dL_law_1008 rfl (lv_at hl 3 rfl) ?_
  refine lv_iconst (v := 1) hx hb dL_law_1009 (by decide) ?_
  refine lv_iadd hx hb dL_law_1010 ?_
  refine tpi (y := 1) (by decide +kernel) ?_
  refine va_sld hx hb hX hbl hbA hS (vin (by decide +kernel)) dL_law_1011 ?_
  refine tpi (y := xs 1) rfl ?_
  refine lv_aload_n hx hb dL_law_1012 rfl (lv_at hl 0 rfl) ?_
  refine lv_iload_n hx hb dL_law_1013 rfl (lv_at hl 3 rfl) ?_
  refine lv_iconst (v := 2) hx hb dL_law_1014 (by decide) ?_
  refine lv_iadd hx hb dL_law_1015 ?_
  refine tpi (y := 2) (by decide +kernel) ?_
  refine va_sld hx hb hX hbl hbA hS (vin (by decide +kernel)) dL_law_1016 ?_
  refine tpi (y := xs 2) rfl ?_
  refine jnL (wr := []) (rnV (rest := [.long r]) ⟨hx, hb, hml, hown, hg⟩ (c_X10_high_0 l V z ((xs 1)) ((xs 2))) mt_X10_high q_8_47 ⟨Nat.le_of_ble_eq_true rfl, Nat.le_of_ble_eq_true rfl⟩ hK hP hD hS hA hE [0, 24] rfl rfl 0 rfl rfl rfl rfl hl.1 rfl (Nat.le_of_ble_eq_true rfl) dL_law_1017 ⟨Nat.le_of_ble_eq_true rfl, Nat.le_of_ble_eq_true rfl⟩) hP hD hS hA [0, 24] [] rfl rfl rfl (by decide) (fun r2 w2 H locs hw2 hP hD hS => ?_)
  refine W.widen (k := 84) (n := 223324) (Nat.le_of_ble_eq_true rfl) (Nat.le_of_ble_eq_true rfl) ?_
  have e9 : r = r2 := by
    obtain ⟨ex, -⟩ := hw
    obtain ⟨em, -⟩ := hw2
    exact ex.trans em.symm
  refine W.lcmp hx hb dL_law_1020 ?_
  refine lv_if_eq (tgt := 1549) hx hb dL_law_1021 (by decide) (fun _ => ?_) (fun c_1 => absurd ((lg_cmp_eq _ _).mpr e9) c_1)
  exact law_end C0 (Nat.le_of_ble_eq_true rfl) (Nat.le_of_ble_eq_true rfl) hS (lv_sub hl [0, 3] rfl)
theorem dL_law_1026 : decode cL_law 1026 = .ok (.aload_n 1, 1) := by decide +kernel
theorem dL_law_1027 : decode cL_law 1027 = .ok (.aload_n 0, 1) := by decide +kernel
theorem dL_law_1028 : decode cL_law 1028 = .ok (.iload_n 3, 1) := by decide +kernel
theorem dL_law_1029 : decode cL_law 1029 = .ok (.iconst 1, 1) := by decide +kernel
theorem dL_law_1030 : decode cL_law 1030 = .ok (.iadd, 1) := by decide +kernel
theorem dL_law_1031 : decode cL_law 1031 = .ok (.iaload, 1) := by decide +kernel
theorem dL_law_1032 : decode cL_law 1032 = .ok (.aload_n 0, 1) := by decide +kernel
theorem dL_law_1033 : decode cL_law 1033 = .ok (.iload_n 3, 1) := by decide +kernel
theorem dL_law_1034 : decode cL_law 1034 = .ok (.iconst 2, 1) := by decide +kernel
theorem dL_law_1035 : decode cL_law 1035 = .ok (.iadd, 1) := by decide +kernel
theorem dL_law_1036 : decode cL_law 1036 = .ok (.iaload, 1) := by decide +kernel
theorem dL_law_1037 : decode cL_law 1037 = .ok (.aload_n 0, 1) := by decide +kernel
theorem dL_law_1038 : decode cL_law 1038 = .ok (.iload_n 3, 1) := by decide +kernel
theorem dL_law_1039 : decode cL_law 1039 = .ok (.iconst 3, 1) := by decide +kernel
theorem dL_law_1040 : decode cL_law 1040 = .ok (.iadd, 1) := by decide +kernel
theorem dL_law_1041 : decode cL_law 1041 = .ok (.iaload, 1) := by decide +kernel
theorem q_5_38 : Cond.code yX9_highBy prog_1_method_54_code 6 (some FieldType.int) ∈ gw := gw_5 (i := 38) (rfl) rfl
theorem q_5_36 : Cond.instanceMethod yX9_highBy ∈ gw := gw_5 (i := 36) (by decide +kernel) rfl
theorem q_5_37 : Cond.selects "BeaconDelay" yX9_highBy yX9_highBy ∈ gw := gw_5 (i := 37) (by decide +kernel) rfl
theorem mt_X9_highBy : MtV yX9_highBy cX9_highBy 6 (some .int) 3 := ⟨⟨q_5_38, q_1_1, by decide +kernel, by decide +kernel, by decide +kernel⟩, q_5_36, q_5_37⟩
theorem q_5_35 : Cond.methodLink "BeaconDelayLaw" 140 yX9_highBy ∈ gw := gw_5 (i := 35) (by decide +kernel) rfl
theorem dL_law_1042 : decode cL_law 1042 = .ok (.invokevirtual 140, 3) := by decide +kernel
theorem dL_law_1045 : decode cL_law 1045 = .ok (.aload_n 2, 1) := by decide +kernel
theorem dL_law_1046 : decode cL_law 1046 = .ok (.aload_n 0, 1) := by decide +kernel
theorem dL_law_1047 : decode cL_law 1047 = .ok (.iload_n 3, 1) := by decide +kernel
theorem dL_law_1048 : decode cL_law 1048 = .ok (.iconst 1, 1) := by decide +kernel
theorem dL_law_1049 : decode cL_law 1049 = .ok (.iadd, 1) := by decide +kernel
theorem dL_law_1050 : decode cL_law 1050 = .ok (.iaload, 1) := by decide +kernel
theorem dL_law_1051 : decode cL_law 1051 = .ok (.aload_n 0, 1) := by decide +kernel
theorem dL_law_1052 : decode cL_law 1052 = .ok (.iload_n 3, 1) := by decide +kernel
theorem dL_law_1053 : decode cL_law 1053 = .ok (.iconst 2, 1) := by decide +kernel
theorem dL_law_1054 : decode cL_law 1054 = .ok (.iadd, 1) := by decide +kernel
theorem dL_law_1055 : decode cL_law 1055 = .ok (.iaload, 1) := by decide +kernel
theorem dL_law_1056 : decode cL_law 1056 = .ok (.aload_n 0, 1) := by decide +kernel
theorem dL_law_1057 : decode cL_law 1057 = .ok (.iload_n 3, 1) := by decide +kernel
theorem dL_law_1058 : decode cL_law 1058 = .ok (.iconst 3, 1) := by decide +kernel
theorem dL_law_1059 : decode cL_law 1059 = .ok (.iadd, 1) := by decide +kernel
theorem dL_law_1060 : decode cL_law 1060 = .ok (.iaload, 1) := by decide +kernel
theorem q_8_68 : Cond.code yX10_highBy prog_12_method_111_code 8 (some FieldType.int) ∈ gw := gw_8 (i := 68) (rfl) rfl
theorem q_8_66 : Cond.instanceMethod yX10_highBy ∈ gw := gw_8 (i := 66) (by decide +kernel) rfl
theorem q_8_67 : Cond.selects "BeaconDelayModel" yX10_highBy yX10_highBy ∈ gw := gw_8 (i := 67) (by decide +kernel) rfl
theorem mt_X10_highBy : MtV yX10_highBy cX10_highBy 8 (some .int) 3 := ⟨⟨q_8_68, q_1_9, by decide +kernel, by decide +kernel, by decide +kernel⟩, q_8_66, q_8_67⟩
theorem q_8_65 : Cond.methodLink "BeaconDelayLaw" 143 yX10_highBy ∈ gw := gw_8 (i := 65) (by decide +kernel) rfl
theorem dL_law_1061 : decode cL_law 1061 = .ok (.invokevirtual 143, 3) := by decide +kernel
theorem dL_law_1064 : decode cL_law 1064 = .ok (.if_icmp .eq 485, 3) := by decide +kernel
-- highBy
set_option maxHeartbeats 4000000 in
set_option maxRecDepth 100000 in
theorem lc_30 {p : Program} {e : Env} {s : State} {m : MethodId} {below : List Frame} {meth : Method} {c : Code} {l : Launch} {b : Nat} {xs : Nat → Int32} {V : GV} {y z : Nat → Nat} (C0 : lw_At p s m meth c b 6 xs) (hg : ∀ w ∈ gw, w.before #[Value.ref b] s = true) (hK : va_K V.1 vwCl (tyV V) s) (hE : En V (fun q : Nat => s.heap.size ≤ q) s s.heap) {H : Heap} {locs : List Loc} (hP : va_P V.1 vwCl (xW V y ++ mW V z) H) (hD : va_D (fun q : Nat => s.heap.size ≤ q) (xW V y ++ mW V z)) (hS : va_S (fun q : Nat => s.heap.size ≤ q) s.heap H locs) {ls : Array Slot} (hl : lv_has ls 4 [(0, .ref b), (1, .ref (y 0)), (2, .ref (z 0)), (3, .int 0)]) : W p l e room_1 s m #[Value.ref b] below meth c H locs 84 223324 (lw_Z below #[Value.ref b] s) (F0 m 1026 ls []) := by
  obtain ⟨hx, hb, hr, hml, hown, hts, hX, hbl, hlocks, hgv⟩ := id C0
  have hA : ∀ q : Nat, s.heap.size ≤ q → (fun q : Nat => s.heap.size ≤ q) q := fun _ h => h
  have hbA : ¬ (fun q : Nat => s.heap.size ≤ q) b := Nat.not_le.mpr hbl
  refine lv_aload_n hx hb dL_law_1026 rfl (lv_at hl 1 rfl) ?_
  refine lv_aload_n hx hb dL_law_1027 rfl (lv_at hl 0 rfl) ?_
  refine lv_iload_n hx hb dL_law_1028 rfl (lv_at hl 3 rfl) ?_
  refine lv_iconst (v := 1) hx hb dL_law_1029 (by decide) ?_
  refine lv_iadd hx hb dL_law_1030 ?_
  refine tpi (y := 1) (by decide +kernel) ?_
  refine va_sld hx hb hX hbl hbA hS (vin (by decide +kernel)) dL_law_1031 ?_
  refine tpi (y := xs 1) rfl ?_
  refine lv_aload_n hx hb dL_law_1032 rfl (lv_at hl 0 rfl) ?_
  refine lv_iload_n hx hb dL_law_1033 rfl (lv_at hl 3 rfl) ?_
  refine lv_iconst (v := 2) hx hb dL_law_1034 (by decide) ?_
  refine lv_iadd hx hb dL_law_1035 ?_
  refine tpi (y := 2) (by decide +kernel) ?_
  refine va_sld hx hb hX hbl hbA hS (vin (by decide +kernel)) dL_law_1036 ?_
  refine tpi (y := xs 2) rfl ?_
  refine lv_aload_n hx hb dL_law_1037 rfl (lv_at hl 0 rfl) ?_
  refine lv_iload_n hx hb dL_law_1038 rfl (lv_at hl 3 rfl) ?_
  refine lv_iconst (v := 3) hx hb dL_law_1039 (by decide) ?_
  refine lv_iadd hx hb dL_law_1040 ?_
  refine tpi (y := 3) (by decide +kernel) ?_
  refine va_sld hx hb hX hbl hbA hS (vin (by decide +kernel)) dL_law_1041 ?_
  refine tpi (y := xs 3) rfl ?_
  refine jnI (wr := mW V z) (rnV (rest := []) ⟨hx, hb, hml, hown, hg⟩ (c_X9_highBy_0 l V y ((xs 1)) ((xs 2)) ((xs 3))) mt_X9_highBy q_5_35 ⟨Nat.le_of_ble_eq_true rfl, Nat.le_of_ble_eq_true rfl⟩ hK hP hD hS hA hE [0, 2] rfl rfl 0 rfl rfl rfl rfl hl.1 rfl (Nat.le_of_ble_eq_true rfl) dL_law_1042 ⟨Nat.le_of_ble_eq_true rfl, Nat.le_of_ble_eq_true rfl⟩) hP hD hS hA [0, 2] [59, 60, 61, 62, 63, 64, 65, 66, 67, 68, 69, 70, 71, 72, 73, 74, 75, 76, 77, 78, 79, 80, 81, 82, 83] rfl rfl rfl (by decide) (fun r w H locs hw hP hD hS => ?_)
  refine W.widen (k := 84) (n := 223324) (Nat.le_of_ble_eq_true rfl) (Nat.le_of_ble_eq_true rfl) ?_
  have hP : va_P V.1 vwCl (mW V z) H := takeP hP
  have hD : va_D (fun q : Nat => s.heap.size ≤ q) (mW V z) := takeD hD
  refine lv_aload_n hx hb dL_law_1045 rfl (lv_at hl 2 rfl) ?_
  refine lv_aload_n hx hb dL_law_1046 rfl (lv_at hl 0 rfl) ?_
  refine lv_iload_n hx hb dL_law_1047 rfl (lv_at hl 3 rfl) ?_
  refine lv_iconst (v := 1) hx hb dL_law_1048 (by decide) ?_
  refine lv_iadd hx hb dL_law_1049 ?_
  refine tpi (y := 1) (by decide +kernel) ?_
  refine va_sld hx hb hX hbl hbA hS (vin (by decide +kernel)) dL_law_1050 ?_
  refine tpi (y := xs 1) rfl ?_
  refine lv_aload_n hx hb dL_law_1051 rfl (lv_at hl 0 rfl) ?_
  refine lv_iload_n hx hb dL_law_1052 rfl (lv_at hl 3 rfl) ?_
  refine lv_iconst (v := 2) hx hb dL_law_1053 (by decide) ?_
  refine lv_iadd hx hb dL_law_1054 ?_
  refine tpi (y := 2) (by decide +kernel) ?_
  refine va_sld hx hb hX hbl hbA hS (vin (by decide +kernel)) dL_law_1055 ?_
  refine tpi (y := xs 2) rfl ?_
  refine lv_aload_n hx hb dL_law_1056 rfl (lv_at hl 0 rfl) ?_
  refine lv_iload_n hx hb dL_law_1057 rfl (lv_at hl 3 rfl) ?_
  refine lv_iconst (v := 3) hx hb dL_law_1058 (by decide) ?_
  refine lv_iadd hx hb dL_law_1059 ?_
  refine tpi (y := 3) (by decide +kernel) ?_
  refine va_sld hx hb hX hbl hbA hS (vin (by decide +kernel)) dL_law_1060 ?_
  refine tpi (y := xs 3) rfl ?_
  refine jnI (wr := []) (rnV (rest := [.int r]) ⟨hx, hb, hml, hown, hg⟩ (c_X10_highBy_0 l V z ((xs 1)) ((xs 2)) ((xs 3))) mt_X10_highBy q_8_65 ⟨Nat.le_of_ble_eq_true rfl, Nat.le_of_ble_eq_true rfl⟩ hK hP hD hS hA hE [0, 24] rfl rfl 0 rfl rfl rfl rfl hl.1 rfl (Nat.le_of_ble_eq_true rfl) dL_law_1061 ⟨Nat.le_of_ble_eq_true rfl, Nat.le_of_ble_eq_true rfl⟩) hP hD hS hA [0, 24] [] rfl rfl rfl (by decide) (fun r2 w2 H locs hw2 hP hD hS => ?_)
  refine W.widen (k := 84) (n := 223324) (Nat.le_of_ble_eq_true rfl) (Nat.le_of_ble_eq_true rfl) ?_
  have e9 : r = r2 := by
    obtain ⟨ex, -⟩ := hw
    obtain ⟨em, -⟩ := hw2
    exact ex.trans em.symm
  refine lv_icmp_eq (tgt := 1549) hx hb dL_law_1064 (by decide) (fun _ => ?_) (fun c_1 => absurd e9 c_1)
  exact law_end C0 (Nat.le_of_ble_eq_true rfl) (Nat.le_of_ble_eq_true rfl) hS (lv_sub hl [0, 3] rfl)
theorem dL_law_1069 : decode cL_law 1069 = .ok (.aload_n 1, 1) := by decide +kernel
theorem dL_law_1070 : decode cL_law 1070 = .ok (.aload_n 0, 1) := by decide +kernel
theorem dL_law_1071 : decode cL_law 1071 = .ok (.iload_n 3, 1) := by decide +kernel
theorem dL_law_1072 : decode cL_law 1072 = .ok (.iconst 1, 1) := by decide +kernel
theorem dL_law_1073 : decode cL_law 1073 = .ok (.iadd, 1) := by decide +kernel
theorem dL_law_1074 : decode cL_law 1074 = .ok (.iaload, 1) := by decide +kernel
theorem dL_law_1075 : decode cL_law 1075 = .ok (.aload_n 0, 1) := by decide +kernel
theorem dL_law_1076 : decode cL_law 1076 = .ok (.iload_n 3, 1) := by decide +kernel
theorem dL_law_1077 : decode cL_law 1077 = .ok (.iconst 2, 1) := by decide +kernel
theorem dL_law_1078 : decode cL_law 1078 = .ok (.iadd, 1) := by decide +kernel
theorem dL_law_1079 : decode cL_law 1079 = .ok (.iaload, 1) := by decide +kernel
theorem dL_law_1080 : decode cL_law 1080 = .ok (.aload_n 0, 1) := by decide +kernel
theorem dL_law_1081 : decode cL_law 1081 = .ok (.iload_n 3, 1) := by decide +kernel
theorem dL_law_1082 : decode cL_law 1082 = .ok (.iconst 3, 1) := by decide +kernel
theorem dL_law_1083 : decode cL_law 1083 = .ok (.iadd, 1) := by decide +kernel
theorem dL_law_1084 : decode cL_law 1084 = .ok (.iaload, 1) := by decide +kernel
theorem q_5_58 : Cond.code yX9_fogs prog_1_method_55_code 6 (some FieldType.int) ∈ gw := gw_5 (i := 58) (rfl) rfl
theorem q_5_56 : Cond.instanceMethod yX9_fogs ∈ gw := gw_5 (i := 56) (by decide +kernel) rfl
theorem q_5_57 : Cond.selects "BeaconDelay" yX9_fogs yX9_fogs ∈ gw := gw_5 (i := 57) (by decide +kernel) rfl
theorem mt_X9_fogs : MtV yX9_fogs cX9_fogs 6 (some .int) 3 := ⟨⟨q_5_58, q_1_1, by decide +kernel, by decide +kernel, by decide +kernel⟩, q_5_56, q_5_57⟩
theorem q_5_55 : Cond.methodLink "BeaconDelayLaw" 144 yX9_fogs ∈ gw := gw_5 (i := 55) (by decide +kernel) rfl
theorem dL_law_1085 : decode cL_law 1085 = .ok (.invokevirtual 144, 3) := by decide +kernel
theorem dL_law_1088 : decode cL_law 1088 = .ok (.aload_n 2, 1) := by decide +kernel
theorem dL_law_1089 : decode cL_law 1089 = .ok (.aload_n 0, 1) := by decide +kernel
theorem dL_law_1090 : decode cL_law 1090 = .ok (.iload_n 3, 1) := by decide +kernel
theorem dL_law_1091 : decode cL_law 1091 = .ok (.iconst 1, 1) := by decide +kernel
theorem dL_law_1092 : decode cL_law 1092 = .ok (.iadd, 1) := by decide +kernel
theorem dL_law_1093 : decode cL_law 1093 = .ok (.iaload, 1) := by decide +kernel
theorem dL_law_1094 : decode cL_law 1094 = .ok (.aload_n 0, 1) := by decide +kernel
theorem dL_law_1095 : decode cL_law 1095 = .ok (.iload_n 3, 1) := by decide +kernel
theorem dL_law_1096 : decode cL_law 1096 = .ok (.iconst 2, 1) := by decide +kernel
theorem dL_law_1097 : decode cL_law 1097 = .ok (.iadd, 1) := by decide +kernel
theorem dL_law_1098 : decode cL_law 1098 = .ok (.iaload, 1) := by decide +kernel
theorem dL_law_1099 : decode cL_law 1099 = .ok (.aload_n 0, 1) := by decide +kernel
theorem dL_law_1100 : decode cL_law 1100 = .ok (.iload_n 3, 1) := by decide +kernel
theorem dL_law_1101 : decode cL_law 1101 = .ok (.iconst 3, 1) := by decide +kernel
theorem dL_law_1102 : decode cL_law 1102 = .ok (.iadd, 1) := by decide +kernel
theorem dL_law_1103 : decode cL_law 1103 = .ok (.iaload, 1) := by decide +kernel
theorem q_8_72 : Cond.code yX10_fogs prog_12_method_112_code 10 (some FieldType.int) ∈ gw := gw_8 (i := 72) (rfl) rfl
theorem q_8_70 : Cond.instanceMethod yX10_fogs ∈ gw := gw_8 (i := 70) (by decide +kernel) rfl
theorem q_8_71 : Cond.selects "BeaconDelayModel" yX10_fogs yX10_fogs ∈ gw := gw_8 (i := 71) (by decide +kernel) rfl
theorem mt_X10_fogs : MtV yX10_fogs cX10_fogs 10 (some .int) 3 := ⟨⟨q_8_72, q_1_9, by decide +kernel, by decide +kernel, by decide +kernel⟩, q_8_70, q_8_71⟩
theorem q_8_69 : Cond.methodLink "BeaconDelayLaw" 147 yX10_fogs ∈ gw := gw_8 (i := 69) (by decide +kernel) rfl
theorem dL_law_1104 : decode cL_law 1104 = .ok (.invokevirtual 147, 3) := by decide +kernel
theorem dL_law_1107 : decode cL_law 1107 = .ok (.if_icmp .eq 442, 3) := by decide +kernel
-- fogs
set_option maxHeartbeats 4000000 in
set_option maxRecDepth 100000 in
theorem lc_31 {p : Program} {e : Env} {s : State} {m : MethodId} {below : List Frame} {meth : Method} {c : Code} {l : Launch} {b : Nat} {xs : Nat → Int32} {V : GV} {y z : Nat → Nat} (C0 : lw_At p s m meth c b 6 xs) (hg : ∀ w ∈ gw, w.before #[Value.ref b] s = true) (hK : va_K V.1 vwCl (tyV V) s) (hE : En V (fun q : Nat => s.heap.size ≤ q) s s.heap) {H : Heap} {locs : List Loc} (hP : va_P V.1 vwCl (xW V y ++ mW V z) H) (hD : va_D (fun q : Nat => s.heap.size ≤ q) (xW V y ++ mW V z)) (hS : va_S (fun q : Nat => s.heap.size ≤ q) s.heap H locs) {ls : Array Slot} (hl : lv_has ls 4 [(0, .ref b), (1, .ref (y 0)), (2, .ref (z 0)), (3, .int 0)]) : W p l e room_1 s m #[Value.ref b] below meth c H locs 84 223324 (lw_Z below #[Value.ref b] s) (F0 m 1069 ls []) := by
  obtain ⟨hx, hb, hr, hml, hown, hts, hX, hbl, hlocks, hgv⟩ := id C0
  have hA : ∀ q : Nat, s.heap.size ≤ q → (fun q : Nat => s.heap.size ≤ q) q := fun _ h => h
  have hbA : ¬ (fun q : Nat => s.heap.size ≤ q) b := Nat.not_le.mpr hbl
  refine lv_aload_n hx hb dL_law_1069 rfl (lv_at hl 1 rfl) ?_
  refine lv_aload_n hx hb dL_law_1070 rfl (lv_at hl 0 rfl) ?_
  refine lv_iload_n hx hb dL_law_1071 rfl (lv_at hl 3 rfl) ?_
  refine lv_iconst (v := 1) hx hb dL_law_1072 (by decide) ?_
  refine lv_iadd hx hb dL_law_1073 ?_
  refine tpi (y := 1) (by decide +kernel) ?_
  refine va_sld hx hb hX hbl hbA hS (vin (by decide +kernel)) dL_law_1074 ?_
  refine tpi (y := xs 1) rfl ?_
  refine lv_aload_n hx hb dL_law_1075 rfl (lv_at hl 0 rfl) ?_
  refine lv_iload_n hx hb dL_law_1076 rfl (lv_at hl 3 rfl) ?_
  refine lv_iconst (v := 2) hx hb dL_law_1077 (by decide) ?_
  refine lv_iadd hx hb dL_law_1078 ?_
  refine tpi (y := 2) (by decide +kernel) ?_
  refine va_sld hx hb hX hbl hbA hS (vin (by decide +kernel)) dL_law_1079 ?_
  refine tpi (y := xs 2) rfl ?_
  refine lv_aload_n hx hb dL_law_1080 rfl (lv_at hl 0 rfl) ?_
  refine lv_iload_n hx hb dL_law_1081 rfl (lv_at hl 3 rfl) ?_
  refine lv_iconst (v := 3) hx hb dL_law_1082 (by decide) ?_
  refine lv_iadd hx hb dL_law_1083 ?_
  refine tpi (y := 3) (by decide +kernel) ?_
  refine va_sld hx hb hX hbl hbA hS (vin (by decide +kernel)) dL_law_1084 ?_
  refine tpi (y := xs 3) rfl ?_
  refine jnI (wr := mW V z) (rnV (rest := []) ⟨hx, hb, hml, hown, hg⟩ (c_X9_fogs_0 l V y ((xs 1)) ((xs 2)) ((xs 3))) mt_X9_fogs q_5_55 ⟨Nat.le_of_ble_eq_true rfl, Nat.le_of_ble_eq_true rfl⟩ hK hP hD hS hA hE [0, 2] rfl rfl 0 rfl rfl rfl rfl hl.1 rfl (Nat.le_of_ble_eq_true rfl) dL_law_1085 ⟨Nat.le_of_ble_eq_true rfl, Nat.le_of_ble_eq_true rfl⟩) hP hD hS hA [0, 2] [59, 60, 61, 62, 63, 64, 65, 66, 67, 68, 69, 70, 71, 72, 73, 74, 75, 76, 77, 78, 79, 80, 81, 82, 83] rfl rfl rfl (by decide) (fun r w H locs hw hP hD hS => ?_)
  refine W.widen (k := 84) (n := 223324) (Nat.le_of_ble_eq_true rfl) (Nat.le_of_ble_eq_true rfl) ?_
  have hP : va_P V.1 vwCl (mW V z) H := takeP hP
  have hD : va_D (fun q : Nat => s.heap.size ≤ q) (mW V z) := takeD hD
  refine lv_aload_n hx hb dL_law_1088 rfl (lv_at hl 2 rfl) ?_
  refine lv_aload_n hx hb dL_law_1089 rfl (lv_at hl 0 rfl) ?_
  refine lv_iload_n hx hb dL_law_1090 rfl (lv_at hl 3 rfl) ?_
  refine lv_iconst (v := 1) hx hb dL_law_1091 (by decide) ?_
  refine lv_iadd hx hb dL_law_1092 ?_
  refine tpi (y := 1) (by decide +kernel) ?_
  refine va_sld hx hb hX hbl hbA hS (vin (by decide +kernel)) dL_law_1093 ?_
  refine tpi (y := xs 1) rfl ?_
  refine lv_aload_n hx hb dL_law_1094 rfl (lv_at hl 0 rfl) ?_
  refine lv_iload_n hx hb dL_law_1095 rfl (lv_at hl 3 rfl) ?_
  refine lv_iconst (v := 2) hx hb dL_law_1096 (by decide) ?_
  refine lv_iadd hx hb dL_law_1097 ?_
  refine tpi (y := 2) (by decide +kernel) ?_
  refine va_sld hx hb hX hbl hbA hS (vin (by decide +kernel)) dL_law_1098 ?_
  refine tpi (y := xs 2) rfl ?_
  refine lv_aload_n hx hb dL_law_1099 rfl (lv_at hl 0 rfl) ?_
  refine lv_iload_n hx hb dL_law_1100 rfl (lv_at hl 3 rfl) ?_
  refine lv_iconst (v := 3) hx hb dL_law_1101 (by decide) ?_
  refine lv_iadd hx hb dL_law_1102 ?_
  refine tpi (y := 3) (by decide +kernel) ?_
  refine va_sld hx hb hX hbl hbA hS (vin (by decide +kernel)) dL_law_1103 ?_
  refine tpi (y := xs 3) rfl ?_
  refine jnI (wr := []) (rnV (rest := [.int r]) ⟨hx, hb, hml, hown, hg⟩ (c_X10_fogs_0 l V z ((xs 1)) ((xs 2)) ((xs 3))) mt_X10_fogs q_8_69 ⟨Nat.le_of_ble_eq_true rfl, Nat.le_of_ble_eq_true rfl⟩ hK hP hD hS hA hE [0, 24] rfl rfl 0 rfl rfl rfl rfl hl.1 rfl (Nat.le_of_ble_eq_true rfl) dL_law_1104 ⟨Nat.le_of_ble_eq_true rfl, Nat.le_of_ble_eq_true rfl⟩) hP hD hS hA [0, 24] [] rfl rfl rfl (by decide) (fun r2 w2 H locs hw2 hP hD hS => ?_)
  refine W.widen (k := 84) (n := 223324) (Nat.le_of_ble_eq_true rfl) (Nat.le_of_ble_eq_true rfl) ?_
  have e9 : r = r2 := by
    obtain ⟨ex, -⟩ := hw
    obtain ⟨em, -⟩ := hw2
    exact ex.trans em.symm
  refine lv_icmp_eq (tgt := 1549) hx hb dL_law_1107 (by decide) (fun _ => ?_) (fun c_1 => absurd e9 c_1)
  exact law_end C0 (Nat.le_of_ble_eq_true rfl) (Nat.le_of_ble_eq_true rfl) hS (lv_sub hl [0, 3] rfl)
theorem dL_law_1112 : decode cL_law 1112 = .ok (.aload_n 1, 1) := by decide +kernel
theorem dL_law_1113 : decode cL_law 1113 = .ok (.aload_n 0, 1) := by decide +kernel
theorem dL_law_1114 : decode cL_law 1114 = .ok (.iload_n 3, 1) := by decide +kernel
theorem dL_law_1115 : decode cL_law 1115 = .ok (.iconst 1, 1) := by decide +kernel
theorem dL_law_1116 : decode cL_law 1116 = .ok (.iadd, 1) := by decide +kernel
theorem dL_law_1117 : decode cL_law 1117 = .ok (.iaload, 1) := by decide +kernel
theorem dL_law_1118 : decode cL_law 1118 = .ok (.aload_n 0, 1) := by decide +kernel
theorem dL_law_1119 : decode cL_law 1119 = .ok (.iload_n 3, 1) := by decide +kernel
theorem dL_law_1120 : decode cL_law 1120 = .ok (.iconst 2, 1) := by decide +kernel
theorem dL_law_1121 : decode cL_law 1121 = .ok (.iadd, 1) := by decide +kernel
theorem dL_law_1122 : decode cL_law 1122 = .ok (.iaload, 1) := by decide +kernel
theorem q_5_66 : Cond.code yX9_weathers prog_1_method_56_code 4 (some FieldType.int) ∈ gw := gw_5 (i := 66) (rfl) rfl
theorem q_5_64 : Cond.instanceMethod yX9_weathers ∈ gw := gw_5 (i := 64) (by decide +kernel) rfl
theorem q_5_65 : Cond.selects "BeaconDelay" yX9_weathers yX9_weathers ∈ gw := gw_5 (i := 65) (by decide +kernel) rfl
theorem mt_X9_weathers : MtV yX9_weathers cX9_weathers 4 (some .int) 2 := ⟨⟨q_5_66, q_1_1, by decide +kernel, by decide +kernel, by decide +kernel⟩, q_5_64, q_5_65⟩
theorem q_5_63 : Cond.methodLink "BeaconDelayLaw" 148 yX9_weathers ∈ gw := gw_5 (i := 63) (by decide +kernel) rfl
theorem dL_law_1123 : decode cL_law 1123 = .ok (.invokevirtual 148, 3) := by decide +kernel
theorem dL_law_1126 : decode cL_law 1126 = .ok (.aload_n 2, 1) := by decide +kernel
theorem dL_law_1127 : decode cL_law 1127 = .ok (.aload_n 0, 1) := by decide +kernel
theorem dL_law_1128 : decode cL_law 1128 = .ok (.iload_n 3, 1) := by decide +kernel
theorem dL_law_1129 : decode cL_law 1129 = .ok (.iconst 1, 1) := by decide +kernel
theorem dL_law_1130 : decode cL_law 1130 = .ok (.iadd, 1) := by decide +kernel
theorem dL_law_1131 : decode cL_law 1131 = .ok (.iaload, 1) := by decide +kernel
theorem dL_law_1132 : decode cL_law 1132 = .ok (.aload_n 0, 1) := by decide +kernel
theorem dL_law_1133 : decode cL_law 1133 = .ok (.iload_n 3, 1) := by decide +kernel
theorem dL_law_1134 : decode cL_law 1134 = .ok (.iconst 2, 1) := by decide +kernel
theorem dL_law_1135 : decode cL_law 1135 = .ok (.iadd, 1) := by decide +kernel
theorem dL_law_1136 : decode cL_law 1136 = .ok (.iaload, 1) := by decide +kernel
theorem q_8_76 : Cond.code yX10_weathers prog_12_method_114_code 4 (some FieldType.int) ∈ gw := gw_8 (i := 76) (rfl) rfl
theorem q_8_74 : Cond.instanceMethod yX10_weathers ∈ gw := gw_8 (i := 74) (by decide +kernel) rfl
theorem q_8_75 : Cond.selects "BeaconDelayModel" yX10_weathers yX10_weathers ∈ gw := gw_8 (i := 75) (by decide +kernel) rfl
theorem mt_X10_weathers : MtV yX10_weathers cX10_weathers 4 (some .int) 2 := ⟨⟨q_8_76, q_1_9, by decide +kernel, by decide +kernel, by decide +kernel⟩, q_8_74, q_8_75⟩
theorem q_8_73 : Cond.methodLink "BeaconDelayLaw" 151 yX10_weathers ∈ gw := gw_8 (i := 73) (by decide +kernel) rfl
theorem dL_law_1137 : decode cL_law 1137 = .ok (.invokevirtual 151, 3) := by decide +kernel
theorem dL_law_1140 : decode cL_law 1140 = .ok (.if_icmp .eq 409, 3) := by decide +kernel
-- weathers
set_option maxHeartbeats 4000000 in
set_option maxRecDepth 100000 in
theorem lc_32 {p : Program} {e : Env} {s : State} {m : MethodId} {below : List Frame} {meth : Method} {c : Code} {l : Launch} {b : Nat} {xs : Nat → Int32} {V : GV} {y z : Nat → Nat} (C0 : lw_At p s m meth c b 6 xs) (hg : ∀ w ∈ gw, w.before #[Value.ref b] s = true) (hK : va_K V.1 vwCl (tyV V) s) (hE : En V (fun q : Nat => s.heap.size ≤ q) s s.heap) {H : Heap} {locs : List Loc} (hP : va_P V.1 vwCl (xW V y ++ mW V z) H) (hD : va_D (fun q : Nat => s.heap.size ≤ q) (xW V y ++ mW V z)) (hS : va_S (fun q : Nat => s.heap.size ≤ q) s.heap H locs) {ls : Array Slot} (hl : lv_has ls 4 [(0, .ref b), (1, .ref (y 0)), (2, .ref (z 0)), (3, .int 0)]) : W p l e room_1 s m #[Value.ref b] below meth c H locs 84 223324 (lw_Z below #[Value.ref b] s) (F0 m 1112 ls []) := by
  obtain ⟨hx, hb, hr, hml, hown, hts, hX, hbl, hlocks, hgv⟩ := id C0
  have hA : ∀ q : Nat, s.heap.size ≤ q → (fun q : Nat => s.heap.size ≤ q) q := fun _ h => h
  have hbA : ¬ (fun q : Nat => s.heap.size ≤ q) b := Nat.not_le.mpr hbl
  refine lv_aload_n hx hb dL_law_1112 rfl (lv_at hl 1 rfl) ?_
  refine lv_aload_n hx hb dL_law_1113 rfl (lv_at hl 0 rfl) ?_
  refine lv_iload_n hx hb dL_law_1114 rfl (lv_at hl 3 rfl) ?_
  refine lv_iconst (v := 1) hx hb dL_law_1115 (by decide) ?_
  refine lv_iadd hx hb dL_law_1116 ?_
  refine tpi (y := 1) (by decide +kernel) ?_
  refine va_sld hx hb hX hbl hbA hS (vin (by decide +kernel)) dL_law_1117 ?_
  refine tpi (y := xs 1) rfl ?_
  refine lv_aload_n hx hb dL_law_1118 rfl (lv_at hl 0 rfl) ?_
  refine lv_iload_n hx hb dL_law_1119 rfl (lv_at hl 3 rfl) ?_
  refine lv_iconst (v := 2) hx hb dL_law_1120 (by decide) ?_
  refine lv_iadd hx hb dL_law_1121 ?_
  refine tpi (y := 2) (by decide +kernel) ?_
  refine va_sld hx hb hX hbl hbA hS (vin (by decide +kernel)) dL_law_1122 ?_
  refine tpi (y := xs 2) rfl ?_
  refine jnI (wr := mW V z) (rnV (rest := []) ⟨hx, hb, hml, hown, hg⟩ (c_X9_weathers_0 l V y ((xs 1)) ((xs 2))) mt_X9_weathers q_5_63 ⟨Nat.le_of_ble_eq_true rfl, Nat.le_of_ble_eq_true rfl⟩ hK hP hD hS hA hE [0, 2] rfl rfl 0 rfl rfl rfl rfl hl.1 rfl (Nat.le_of_ble_eq_true rfl) dL_law_1123 ⟨Nat.le_of_ble_eq_true rfl, Nat.le_of_ble_eq_true rfl⟩) hP hD hS hA [0, 2] [59, 60, 61, 62, 63, 64, 65, 66, 67, 68, 69, 70, 71, 72, 73, 74, 75, 76, 77, 78, 79, 80, 81, 82, 83] rfl rfl rfl (by decide) (fun r w H locs hw hP hD hS => ?_)
  refine W.widen (k := 84) (n := 223324) (Nat.le_of_ble_eq_true rfl) (Nat.le_of_ble_eq_true rfl) ?_
  have hP : va_P V.1 vwCl (mW V z) H := takeP hP
  have hD : va_D (fun q : Nat => s.heap.size ≤ q) (mW V z) := takeD hD
  refine lv_aload_n hx hb dL_law_1126 rfl (lv_at hl 2 rfl) ?_
  refine lv_aload_n hx hb dL_law_1127 rfl (lv_at hl 0 rfl) ?_
  refine lv_iload_n hx hb dL_law_1128 rfl (lv_at hl 3 rfl) ?_
  refine lv_iconst (v := 1) hx hb dL_law_1129 (by decide) ?_
  refine lv_iadd hx hb dL_law_1130 ?_
  refine tpi (y := 1) (by decide +kernel) ?_
  refine va_sld hx hb hX hbl hbA hS (vin (by decide +kernel)) dL_law_1131 ?_
  refine tpi (y := xs 1) rfl ?_
  refine lv_aload_n hx hb dL_law_1132 rfl (lv_at hl 0 rfl) ?_
  refine lv_iload_n hx hb dL_law_1133 rfl (lv_at hl 3 rfl) ?_
  refine lv_iconst (v := 2) hx hb dL_law_1134 (by decide) ?_
  refine lv_iadd hx hb dL_law_1135 ?_
  refine tpi (y := 2) (by decide +kernel) ?_
  refine va_sld hx hb hX hbl hbA hS (vin (by decide +kernel)) dL_law_1136 ?_
  refine tpi (y := xs 2) rfl ?_
  refine jnI (wr := []) (rnV (rest := [.int r]) ⟨hx, hb, hml, hown, hg⟩ (c_X10_weathers_0 l V z ((xs 1)) ((xs 2))) mt_X10_weathers q_8_73 ⟨Nat.le_of_ble_eq_true rfl, Nat.le_of_ble_eq_true rfl⟩ hK hP hD hS hA hE [0, 24] rfl rfl 0 rfl rfl rfl rfl hl.1 rfl (Nat.le_of_ble_eq_true rfl) dL_law_1137 ⟨Nat.le_of_ble_eq_true rfl, Nat.le_of_ble_eq_true rfl⟩) hP hD hS hA [0, 24] [] rfl rfl rfl (by decide) (fun r2 w2 H locs hw2 hP hD hS => ?_)
  refine W.widen (k := 84) (n := 223324) (Nat.le_of_ble_eq_true rfl) (Nat.le_of_ble_eq_true rfl) ?_
  have e9 : r = r2 := by
    obtain ⟨ex, -⟩ := hw
    obtain ⟨em, -⟩ := hw2
    exact ex.trans em.symm
  refine lv_icmp_eq (tgt := 1549) hx hb dL_law_1140 (by decide) (fun _ => ?_) (fun c_1 => absurd e9 c_1)
  exact law_end C0 (Nat.le_of_ble_eq_true rfl) (Nat.le_of_ble_eq_true rfl) hS (lv_sub hl [0, 3] rfl)
theorem dL_law_1145 : decode cL_law 1145 = .ok (.aload_n 1, 1) := by decide +kernel
theorem dL_law_1146 : decode cL_law 1146 = .ok (.aload_n 0, 1) := by decide +kernel
theorem dL_law_1147 : decode cL_law 1147 = .ok (.iload_n 3, 1) := by decide +kernel
theorem dL_law_1148 : decode cL_law 1148 = .ok (.iconst 1, 1) := by decide +kernel
theorem dL_law_1149 : decode cL_law 1149 = .ok (.iadd, 1) := by decide +kernel
theorem dL_law_1150 : decode cL_law 1150 = .ok (.iaload, 1) := by decide +kernel
theorem dL_law_1151 : decode cL_law 1151 = .ok (.aload_n 0, 1) := by decide +kernel
theorem dL_law_1152 : decode cL_law 1152 = .ok (.iload_n 3, 1) := by decide +kernel
theorem dL_law_1153 : decode cL_law 1153 = .ok (.iconst 2, 1) := by decide +kernel
theorem dL_law_1154 : decode cL_law 1154 = .ok (.iadd, 1) := by decide +kernel
theorem dL_law_1155 : decode cL_law 1155 = .ok (.iaload, 1) := by decide +kernel
theorem q_5_74 : Cond.code yX9_attempt prog_1_method_58_code 9 (some FieldType.int) ∈ gw := gw_5 (i := 74) (rfl) rfl
theorem q_5_72 : Cond.instanceMethod yX9_attempt ∈ gw := gw_5 (i := 72) (by decide +kernel) rfl
theorem q_5_73 : Cond.selects "BeaconDelay" yX9_attempt yX9_attempt ∈ gw := gw_5 (i := 73) (by decide +kernel) rfl
theorem mt_X9_attempt : MtV yX9_attempt cX9_attempt 9 (some .int) 2 := ⟨⟨q_5_74, q_1_1, by decide +kernel, by decide +kernel, by decide +kernel⟩, q_5_72, q_5_73⟩
theorem q_5_71 : Cond.methodLink "BeaconDelayLaw" 152 yX9_attempt ∈ gw := gw_5 (i := 71) (by decide +kernel) rfl
theorem dL_law_1156 : decode cL_law 1156 = .ok (.invokevirtual 152, 3) := by decide +kernel
theorem dL_law_1159 : decode cL_law 1159 = .ok (.aload_n 2, 1) := by decide +kernel
theorem dL_law_1160 : decode cL_law 1160 = .ok (.aload_n 0, 1) := by decide +kernel
theorem dL_law_1161 : decode cL_law 1161 = .ok (.iload_n 3, 1) := by decide +kernel
theorem dL_law_1162 : decode cL_law 1162 = .ok (.iconst 1, 1) := by decide +kernel
theorem dL_law_1163 : decode cL_law 1163 = .ok (.iadd, 1) := by decide +kernel
theorem dL_law_1164 : decode cL_law 1164 = .ok (.iaload, 1) := by decide +kernel
theorem dL_law_1165 : decode cL_law 1165 = .ok (.aload_n 0, 1) := by decide +kernel
theorem dL_law_1166 : decode cL_law 1166 = .ok (.iload_n 3, 1) := by decide +kernel
theorem dL_law_1167 : decode cL_law 1167 = .ok (.iconst 2, 1) := by decide +kernel
theorem dL_law_1168 : decode cL_law 1168 = .ok (.iadd, 1) := by decide +kernel
theorem dL_law_1169 : decode cL_law 1169 = .ok (.iaload, 1) := by decide +kernel
theorem q_8_84 : Cond.code yX10_attempt prog_12_method_116_code 9 (some FieldType.int) ∈ gw := gw_8 (i := 84) (rfl) rfl
theorem q_8_82 : Cond.instanceMethod yX10_attempt ∈ gw := gw_8 (i := 82) (by decide +kernel) rfl
theorem q_8_83 : Cond.selects "BeaconDelayModel" yX10_attempt yX10_attempt ∈ gw := gw_8 (i := 83) (by decide +kernel) rfl
theorem mt_X10_attempt : MtV yX10_attempt cX10_attempt 9 (some .int) 2 := ⟨⟨q_8_84, q_1_9, by decide +kernel, by decide +kernel, by decide +kernel⟩, q_8_82, q_8_83⟩
theorem q_8_81 : Cond.methodLink "BeaconDelayLaw" 155 yX10_attempt ∈ gw := gw_8 (i := 81) (by decide +kernel) rfl
theorem dL_law_1170 : decode cL_law 1170 = .ok (.invokevirtual 155, 3) := by decide +kernel
theorem dL_law_1173 : decode cL_law 1173 = .ok (.if_icmp .eq 376, 3) := by decide +kernel
-- attempt
set_option maxHeartbeats 4000000 in
set_option maxRecDepth 100000 in
theorem lc_33 {p : Program} {e : Env} {s : State} {m : MethodId} {below : List Frame} {meth : Method} {c : Code} {l : Launch} {b : Nat} {xs : Nat → Int32} {V : GV} {y z : Nat → Nat} (C0 : lw_At p s m meth c b 6 xs) (hg : ∀ w ∈ gw, w.before #[Value.ref b] s = true) (hK : va_K V.1 vwCl (tyV V) s) (hE : En V (fun q : Nat => s.heap.size ≤ q) s s.heap) {H : Heap} {locs : List Loc} (hP : va_P V.1 vwCl (xW V y ++ mW V z) H) (hD : va_D (fun q : Nat => s.heap.size ≤ q) (xW V y ++ mW V z)) (hS : va_S (fun q : Nat => s.heap.size ≤ q) s.heap H locs) {ls : Array Slot} (hl : lv_has ls 4 [(0, .ref b), (1, .ref (y 0)), (2, .ref (z 0)), (3, .int 0)]) : W p l e room_1 s m #[Value.ref b] below meth c H locs 84 223324 (lw_Z below #[Value.ref b] s) (F0 m 1145 ls []) := by
  obtain ⟨hx, hb, hr, hml, hown, hts, hX, hbl, hlocks, hgv⟩ := id C0
  have hA : ∀ q : Nat, s.heap.size ≤ q → (fun q : Nat => s.heap.size ≤ q) q := fun _ h => h
  have hbA : ¬ (fun q : Nat => s.heap.size ≤ q) b := Nat.not_le.mpr hbl
  refine lv_aload_n hx hb dL_law_1145 rfl (lv_at hl 1 rfl) ?_
  refine lv_aload_n hx hb dL_law_1146 rfl (lv_at hl 0 rfl) ?_
  refine lv_iload_n hx hb dL_law_1147 rfl (lv_at hl 3 rfl) ?_
  refine lv_iconst (v := 1) hx hb dL_law_1148 (by decide) ?_
  refine lv_iadd hx hb dL_law_1149 ?_
  refine tpi (y := 1) (by decide +kernel) ?_
  refine va_sld hx hb hX hbl hbA hS (vin (by decide +kernel)) dL_law_1150 ?_
  refine tpi (y := xs 1) rfl ?_
  refine lv_aload_n hx hb dL_law_1151 rfl (lv_at hl 0 rfl) ?_
  refine lv_iload_n hx hb dL_law_1152 rfl (lv_at hl 3 rfl) ?_
  refine lv_iconst (v := 2) hx hb dL_law_1153 (by decide) ?_
  refine lv_iadd hx hb dL_law_1154 ?_
  refine tpi (y := 2) (by decide +kernel) ?_
  refine va_sld hx hb hX hbl hbA hS (vin (by decide +kernel)) dL_law_1155 ?_
  refine tpi (y := xs 2) rfl ?_
  refine jnI (wr := mW V z) (rnV (rest := []) ⟨hx, hb, hml, hown, hg⟩ (c_X9_attempt_0 l V y ((xs 1)) ((xs 2))) mt_X9_attempt q_5_71 ⟨Nat.le_of_ble_eq_true rfl, Nat.le_of_ble_eq_true rfl⟩ hK hP hD hS hA hE [0, 2] rfl rfl 0 rfl rfl rfl rfl hl.1 rfl (Nat.le_of_ble_eq_true rfl) dL_law_1156 ⟨Nat.le_of_ble_eq_true rfl, Nat.le_of_ble_eq_true rfl⟩) hP hD hS hA [0, 2] [59, 60, 61, 62, 63, 64, 65, 66, 67, 68, 69, 70, 71, 72, 73, 74, 75, 76, 77, 78, 79, 80, 81, 82, 83] rfl rfl rfl (by decide) (fun r w H locs hw hP hD hS => ?_)
  refine W.widen (k := 84) (n := 223324) (Nat.le_of_ble_eq_true rfl) (Nat.le_of_ble_eq_true rfl) ?_
  have hP : va_P V.1 vwCl (mW V z) H := takeP hP
  have hD : va_D (fun q : Nat => s.heap.size ≤ q) (mW V z) := takeD hD
  refine lv_aload_n hx hb dL_law_1159 rfl (lv_at hl 2 rfl) ?_
  refine lv_aload_n hx hb dL_law_1160 rfl (lv_at hl 0 rfl) ?_
  refine lv_iload_n hx hb dL_law_1161 rfl (lv_at hl 3 rfl) ?_
  refine lv_iconst (v := 1) hx hb dL_law_1162 (by decide) ?_
  refine lv_iadd hx hb dL_law_1163 ?_
  refine tpi (y := 1) (by decide +kernel) ?_
  refine va_sld hx hb hX hbl hbA hS (vin (by decide +kernel)) dL_law_1164 ?_
  refine tpi (y := xs 1) rfl ?_
  refine lv_aload_n hx hb dL_law_1165 rfl (lv_at hl 0 rfl) ?_
  refine lv_iload_n hx hb dL_law_1166 rfl (lv_at hl 3 rfl) ?_
  refine lv_iconst (v := 2) hx hb dL_law_1167 (by decide) ?_
  refine lv_iadd hx hb dL_law_1168 ?_
  refine tpi (y := 2) (by decide +kernel) ?_
  refine va_sld hx hb hX hbl hbA hS (vin (by decide +kernel)) dL_law_1169 ?_
  refine tpi (y := xs 2) rfl ?_
  refine jnI (wr := []) (rnV (rest := [.int r]) ⟨hx, hb, hml, hown, hg⟩ (c_X10_attempt_0 l V z ((xs 1)) ((xs 2))) mt_X10_attempt q_8_81 ⟨Nat.le_of_ble_eq_true rfl, Nat.le_of_ble_eq_true rfl⟩ hK hP hD hS hA hE [0, 24] rfl rfl 0 rfl rfl rfl rfl hl.1 rfl (Nat.le_of_ble_eq_true rfl) dL_law_1170 ⟨Nat.le_of_ble_eq_true rfl, Nat.le_of_ble_eq_true rfl⟩) hP hD hS hA [0, 24] [] rfl rfl rfl (by decide) (fun r2 w2 H locs hw2 hP hD hS => ?_)
  refine W.widen (k := 84) (n := 223324) (Nat.le_of_ble_eq_true rfl) (Nat.le_of_ble_eq_true rfl) ?_
  have e9 : r = r2 := by
    obtain ⟨ex, -⟩ := hw
    obtain ⟨em, -⟩ := hw2
    exact ex.trans em.symm
  refine lv_icmp_eq (tgt := 1549) hx hb dL_law_1173 (by decide) (fun _ => ?_) (fun c_1 => absurd e9 c_1)
  exact law_end C0 (Nat.le_of_ble_eq_true rfl) (Nat.le_of_ble_eq_true rfl) hS (lv_sub hl [0, 3] rfl)
theorem dL_law_1178 : decode cL_law 1178 = .ok (.aload_n 1, 1) := by decide +kernel
theorem dL_law_1179 : decode cL_law 1179 = .ok (.aload_n 0, 1) := by decide +kernel
theorem dL_law_1180 : decode cL_law 1180 = .ok (.iload_n 3, 1) := by decide +kernel
theorem dL_law_1181 : decode cL_law 1181 = .ok (.iconst 1, 1) := by decide +kernel
theorem dL_law_1182 : decode cL_law 1182 = .ok (.iadd, 1) := by decide +kernel
theorem dL_law_1183 : decode cL_law 1183 = .ok (.iaload, 1) := by decide +kernel
theorem dL_law_1184 : decode cL_law 1184 = .ok (.aload_n 0, 1) := by decide +kernel
theorem dL_law_1185 : decode cL_law 1185 = .ok (.iload_n 3, 1) := by decide +kernel
theorem dL_law_1186 : decode cL_law 1186 = .ok (.iconst 2, 1) := by decide +kernel
theorem dL_law_1187 : decode cL_law 1187 = .ok (.iadd, 1) := by decide +kernel
theorem dL_law_1188 : decode cL_law 1188 = .ok (.iaload, 1) := by decide +kernel
theorem q_5_89 : Cond.code yX9_forces prog_1_method_62_code 4 (some FieldType.int) ∈ gw := gw_5 (i := 89) (rfl) rfl
theorem q_5_87 : Cond.instanceMethod yX9_forces ∈ gw := gw_5 (i := 87) (by decide +kernel) rfl
theorem q_5_88 : Cond.selects "BeaconDelay" yX9_forces yX9_forces ∈ gw := gw_5 (i := 88) (by decide +kernel) rfl
theorem mt_X9_forces : MtV yX9_forces cX9_forces 4 (some .int) 2 := ⟨⟨q_5_89, q_1_1, by decide +kernel, by decide +kernel, by decide +kernel⟩, q_5_87, q_5_88⟩
theorem q_5_86 : Cond.methodLink "BeaconDelayLaw" 156 yX9_forces ∈ gw := gw_5 (i := 86) (by decide +kernel) rfl
theorem dL_law_1189 : decode cL_law 1189 = .ok (.invokevirtual 156, 3) := by decide +kernel
theorem dL_law_1192 : decode cL_law 1192 = .ok (.aload_n 2, 1) := by decide +kernel
theorem dL_law_1193 : decode cL_law 1193 = .ok (.aload_n 0, 1) := by decide +kernel
theorem dL_law_1194 : decode cL_law 1194 = .ok (.iload_n 3, 1) := by decide +kernel
theorem dL_law_1195 : decode cL_law 1195 = .ok (.iconst 1, 1) := by decide +kernel
theorem dL_law_1196 : decode cL_law 1196 = .ok (.iadd, 1) := by decide +kernel
theorem dL_law_1197 : decode cL_law 1197 = .ok (.iaload, 1) := by decide +kernel
theorem dL_law_1198 : decode cL_law 1198 = .ok (.aload_n 0, 1) := by decide +kernel
theorem dL_law_1199 : decode cL_law 1199 = .ok (.iload_n 3, 1) := by decide +kernel
theorem dL_law_1200 : decode cL_law 1200 = .ok (.iconst 2, 1) := by decide +kernel
theorem dL_law_1201 : decode cL_law 1201 = .ok (.iadd, 1) := by decide +kernel
theorem dL_law_1202 : decode cL_law 1202 = .ok (.iaload, 1) := by decide +kernel
theorem q_8_92 : Cond.code yX10_forces prog_12_method_120_code 4 (some FieldType.int) ∈ gw := gw_8 (i := 92) (rfl) rfl
theorem q_8_90 : Cond.instanceMethod yX10_forces ∈ gw := gw_8 (i := 90) (by decide +kernel) rfl
theorem q_8_91 : Cond.selects "BeaconDelayModel" yX10_forces yX10_forces ∈ gw := gw_8 (i := 91) (by decide +kernel) rfl
theorem mt_X10_forces : MtV yX10_forces cX10_forces 4 (some .int) 2 := ⟨⟨q_8_92, q_1_9, by decide +kernel, by decide +kernel, by decide +kernel⟩, q_8_90, q_8_91⟩
theorem q_8_89 : Cond.methodLink "BeaconDelayLaw" 159 yX10_forces ∈ gw := gw_8 (i := 89) (by decide +kernel) rfl
theorem dL_law_1203 : decode cL_law 1203 = .ok (.invokevirtual 159, 3) := by decide +kernel
theorem dL_law_1206 : decode cL_law 1206 = .ok (.if_icmp .eq 343, 3) := by decide +kernel
-- forces
set_option maxHeartbeats 4000000 in
set_option maxRecDepth 100000 in
theorem lc_34 {p : Program} {e : Env} {s : State} {m : MethodId} {below : List Frame} {meth : Method} {c : Code} {l : Launch} {b : Nat} {xs : Nat → Int32} {V : GV} {y z : Nat → Nat} (C0 : lw_At p s m meth c b 6 xs) (hg : ∀ w ∈ gw, w.before #[Value.ref b] s = true) (hK : va_K V.1 vwCl (tyV V) s) (hE : En V (fun q : Nat => s.heap.size ≤ q) s s.heap) {H : Heap} {locs : List Loc} (hP : va_P V.1 vwCl (xW V y ++ mW V z) H) (hD : va_D (fun q : Nat => s.heap.size ≤ q) (xW V y ++ mW V z)) (hS : va_S (fun q : Nat => s.heap.size ≤ q) s.heap H locs) {ls : Array Slot} (hl : lv_has ls 4 [(0, .ref b), (1, .ref (y 0)), (2, .ref (z 0)), (3, .int 0)]) : W p l e room_1 s m #[Value.ref b] below meth c H locs 84 223324 (lw_Z below #[Value.ref b] s) (F0 m 1178 ls []) := by
  obtain ⟨hx, hb, hr, hml, hown, hts, hX, hbl, hlocks, hgv⟩ := id C0
  have hA : ∀ q : Nat, s.heap.size ≤ q → (fun q : Nat => s.heap.size ≤ q) q := fun _ h => h
  have hbA : ¬ (fun q : Nat => s.heap.size ≤ q) b := Nat.not_le.mpr hbl
  refine lv_aload_n hx hb dL_law_1178 rfl (lv_at hl 1 rfl) ?_
  refine lv_aload_n hx hb dL_law_1179 rfl (lv_at hl 0 rfl) ?_
  refine lv_iload_n hx hb dL_law_1180 rfl (lv_at hl 3 rfl) ?_
  refine lv_iconst (v := 1) hx hb dL_law_1181 (by decide) ?_
  refine lv_iadd hx hb dL_law_1182 ?_
  refine tpi (y := 1) (by decide +kernel) ?_
  refine va_sld hx hb hX hbl hbA hS (vin (by decide +kernel)) dL_law_1183 ?_
  refine tpi (y := xs 1) rfl ?_
  refine lv_aload_n hx hb dL_law_1184 rfl (lv_at hl 0 rfl) ?_
  refine lv_iload_n hx hb dL_law_1185 rfl (lv_at hl 3 rfl) ?_
  refine lv_iconst (v := 2) hx hb dL_law_1186 (by decide) ?_
  refine lv_iadd hx hb dL_law_1187 ?_
  refine tpi (y := 2) (by decide +kernel) ?_
  refine va_sld hx hb hX hbl hbA hS (vin (by decide +kernel)) dL_law_1188 ?_
  refine tpi (y := xs 2) rfl ?_
  refine jnI (wr := mW V z) (rnV (rest := []) ⟨hx, hb, hml, hown, hg⟩ (c_X9_forces_0 l V y ((xs 1)) ((xs 2))) mt_X9_forces q_5_86 ⟨Nat.le_of_ble_eq_true rfl, Nat.le_of_ble_eq_true rfl⟩ hK hP hD hS hA hE [0, 2] rfl rfl 0 rfl rfl rfl rfl hl.1 rfl (Nat.le_of_ble_eq_true rfl) dL_law_1189 ⟨Nat.le_of_ble_eq_true rfl, Nat.le_of_ble_eq_true rfl⟩) hP hD hS hA [0, 2] [59, 60, 61, 62, 63, 64, 65, 66, 67, 68, 69, 70, 71, 72, 73, 74, 75, 76, 77, 78, 79, 80, 81, 82, 83] rfl rfl rfl (by decide) (fun r w H locs hw hP hD hS => ?_)
  refine W.widen (k := 84) (n := 223324) (Nat.le_of_ble_eq_true rfl) (Nat.le_of_ble_eq_true rfl) ?_
  have hP : va_P V.1 vwCl (mW V z) H := takeP hP
  have hD : va_D (fun q : Nat => s.heap.size ≤ q) (mW V z) := takeD hD
  refine lv_aload_n hx hb dL_law_1192 rfl (lv_at hl 2 rfl) ?_
  refine lv_aload_n hx hb dL_law_1193 rfl (lv_at hl 0 rfl) ?_
  refine lv_iload_n hx hb dL_law_1194 rfl (lv_at hl 3 rfl) ?_
  refine lv_iconst (v := 1) hx hb dL_law_1195 (by decide) ?_
  refine lv_iadd hx hb dL_law_1196 ?_
  refine tpi (y := 1) (by decide +kernel) ?_
  refine va_sld hx hb hX hbl hbA hS (vin (by decide +kernel)) dL_law_1197 ?_
  refine tpi (y := xs 1) rfl ?_
  refine lv_aload_n hx hb dL_law_1198 rfl (lv_at hl 0 rfl) ?_
  refine lv_iload_n hx hb dL_law_1199 rfl (lv_at hl 3 rfl) ?_
  refine lv_iconst (v := 2) hx hb dL_law_1200 (by decide) ?_
  refine lv_iadd hx hb dL_law_1201 ?_
  refine tpi (y := 2) (by decide +kernel) ?_
  refine va_sld hx hb hX hbl hbA hS (vin (by decide +kernel)) dL_law_1202 ?_
  refine tpi (y := xs 2) rfl ?_
  refine jnI (wr := []) (rnV (rest := [.int r]) ⟨hx, hb, hml, hown, hg⟩ (c_X10_forces_0 l V z ((xs 1)) ((xs 2))) mt_X10_forces q_8_89 ⟨Nat.le_of_ble_eq_true rfl, Nat.le_of_ble_eq_true rfl⟩ hK hP hD hS hA hE [0, 24] rfl rfl 0 rfl rfl rfl rfl hl.1 rfl (Nat.le_of_ble_eq_true rfl) dL_law_1203 ⟨Nat.le_of_ble_eq_true rfl, Nat.le_of_ble_eq_true rfl⟩) hP hD hS hA [0, 24] [] rfl rfl rfl (by decide) (fun r2 w2 H locs hw2 hP hD hS => ?_)
  refine W.widen (k := 84) (n := 223324) (Nat.le_of_ble_eq_true rfl) (Nat.le_of_ble_eq_true rfl) ?_
  have e9 : r = r2 := by
    obtain ⟨ex, -⟩ := hw
    obtain ⟨em, -⟩ := hw2
    exact ex.trans em.symm
  refine lv_icmp_eq (tgt := 1549) hx hb dL_law_1206 (by decide) (fun _ => ?_) (fun c_1 => absurd e9 c_1)
  exact law_end C0 (Nat.le_of_ble_eq_true rfl) (Nat.le_of_ble_eq_true rfl) hS (lv_sub hl [0, 3] rfl)
theorem dL_law_1211 : decode cL_law 1211 = .ok (.aload_n 1, 1) := by decide +kernel
theorem dL_law_1212 : decode cL_law 1212 = .ok (.aload_n 0, 1) := by decide +kernel
theorem dL_law_1213 : decode cL_law 1213 = .ok (.iload_n 3, 1) := by decide +kernel
theorem dL_law_1214 : decode cL_law 1214 = .ok (.iconst 1, 1) := by decide +kernel
theorem dL_law_1215 : decode cL_law 1215 = .ok (.iadd, 1) := by decide +kernel
theorem dL_law_1216 : decode cL_law 1216 = .ok (.iaload, 1) := by decide +kernel
theorem dL_law_1217 : decode cL_law 1217 = .ok (.aload_n 0, 1) := by decide +kernel
theorem dL_law_1218 : decode cL_law 1218 = .ok (.iload_n 3, 1) := by decide +kernel
theorem dL_law_1219 : decode cL_law 1219 = .ok (.iconst 2, 1) := by decide +kernel
theorem dL_law_1220 : decode cL_law 1220 = .ok (.iadd, 1) := by decide +kernel
theorem dL_law_1221 : decode cL_law 1221 = .ok (.iaload, 1) := by decide +kernel
theorem q_5_149 : Cond.code yX9_best prog_1_method_63_code 6 (some FieldType.int) ∈ gw := gw_5 (i := 149) (rfl) rfl
theorem q_5_147 : Cond.instanceMethod yX9_best ∈ gw := gw_5 (i := 147) (by decide +kernel) rfl
theorem q_5_148 : Cond.selects "BeaconDelay" yX9_best yX9_best ∈ gw := gw_5 (i := 148) (by decide +kernel) rfl
theorem mt_X9_best : MtV yX9_best cX9_best 6 (some .int) 2 := ⟨⟨q_5_149, q_1_1, by decide +kernel, by decide +kernel, by decide +kernel⟩, q_5_147, q_5_148⟩
theorem q_5_146 : Cond.methodLink "BeaconDelayLaw" 160 yX9_best ∈ gw := gw_5 (i := 146) (by decide +kernel) rfl
theorem dL_law_1222 : decode cL_law 1222 = .ok (.invokevirtual 160, 3) := by decide +kernel
theorem dL_law_1225 : decode cL_law 1225 = .ok (.aload_n 2, 1) := by decide +kernel
theorem dL_law_1226 : decode cL_law 1226 = .ok (.aload_n 0, 1) := by decide +kernel
theorem dL_law_1227 : decode cL_law 1227 = .ok (.iload_n 3, 1) := by decide +kernel
theorem dL_law_1228 : decode cL_law 1228 = .ok (.iconst 1, 1) := by decide +kernel
theorem dL_law_1229 : decode cL_law 1229 = .ok (.iadd, 1) := by decide +kernel
theorem dL_law_1230 : decode cL_law 1230 = .ok (.iaload, 1) := by decide +kernel
theorem dL_law_1231 : decode cL_law 1231 = .ok (.aload_n 0, 1) := by decide +kernel
theorem dL_law_1232 : decode cL_law 1232 = .ok (.iload_n 3, 1) := by decide +kernel
theorem dL_law_1233 : decode cL_law 1233 = .ok (.iconst 2, 1) := by decide +kernel
theorem dL_law_1234 : decode cL_law 1234 = .ok (.iadd, 1) := by decide +kernel
theorem dL_law_1235 : decode cL_law 1235 = .ok (.iaload, 1) := by decide +kernel
theorem q_8_108 : Cond.code yX10_best prog_12_method_121_code 6 (some FieldType.int) ∈ gw := gw_8 (i := 108) (rfl) rfl
theorem q_8_106 : Cond.instanceMethod yX10_best ∈ gw := gw_8 (i := 106) (by decide +kernel) rfl
theorem q_8_107 : Cond.selects "BeaconDelayModel" yX10_best yX10_best ∈ gw := gw_8 (i := 107) (by decide +kernel) rfl
theorem mt_X10_best : MtV yX10_best cX10_best 6 (some .int) 2 := ⟨⟨q_8_108, q_1_9, by decide +kernel, by decide +kernel, by decide +kernel⟩, q_8_106, q_8_107⟩
theorem q_8_105 : Cond.methodLink "BeaconDelayLaw" 163 yX10_best ∈ gw := gw_8 (i := 105) (by decide +kernel) rfl
theorem dL_law_1236 : decode cL_law 1236 = .ok (.invokevirtual 163, 3) := by decide +kernel
theorem dL_law_1239 : decode cL_law 1239 = .ok (.if_icmp .eq 310, 3) := by decide +kernel
-- best
set_option maxHeartbeats 4000000 in
set_option maxRecDepth 100000 in
theorem lc_35 {p : Program} {e : Env} {s : State} {m : MethodId} {below : List Frame} {meth : Method} {c : Code} {l : Launch} {b : Nat} {xs : Nat → Int32} {V : GV} {y z : Nat → Nat} (C0 : lw_At p s m meth c b 6 xs) (hg : ∀ w ∈ gw, w.before #[Value.ref b] s = true) (hK : va_K V.1 vwCl (tyV V) s) (hE : En V (fun q : Nat => s.heap.size ≤ q) s s.heap) {H : Heap} {locs : List Loc} (hP : va_P V.1 vwCl (xW V y ++ mW V z) H) (hD : va_D (fun q : Nat => s.heap.size ≤ q) (xW V y ++ mW V z)) (hS : va_S (fun q : Nat => s.heap.size ≤ q) s.heap H locs) {ls : Array Slot} (hl : lv_has ls 4 [(0, .ref b), (1, .ref (y 0)), (2, .ref (z 0)), (3, .int 0)]) : W p l e room_1 s m #[Value.ref b] below meth c H locs 84 223324 (lw_Z below #[Value.ref b] s) (F0 m 1211 ls []) := by
  obtain ⟨hx, hb, hr, hml, hown, hts, hX, hbl, hlocks, hgv⟩ := id C0
  have hA : ∀ q : Nat, s.heap.size ≤ q → (fun q : Nat => s.heap.size ≤ q) q := fun _ h => h
  have hbA : ¬ (fun q : Nat => s.heap.size ≤ q) b := Nat.not_le.mpr hbl
  refine lv_aload_n hx hb dL_law_1211 rfl (lv_at hl 1 rfl) ?_
  refine lv_aload_n hx hb dL_law_1212 rfl (lv_at hl 0 rfl) ?_
  refine lv_iload_n hx hb dL_law_1213 rfl (lv_at hl 3 rfl) ?_
  refine lv_iconst (v := 1) hx hb dL_law_1214 (by decide) ?_
  refine lv_iadd hx hb dL_law_1215 ?_
  refine tpi (y := 1) (by decide +kernel) ?_
  refine va_sld hx hb hX hbl hbA hS (vin (by decide +kernel)) dL_law_1216 ?_
  refine tpi (y := xs 1) rfl ?_
  refine lv_aload_n hx hb dL_law_1217 rfl (lv_at hl 0 rfl) ?_
  refine lv_iload_n hx hb dL_law_1218 rfl (lv_at hl 3 rfl) ?_
  refine lv_iconst (v := 2) hx hb dL_law_1219 (by decide) ?_
  refine lv_iadd hx hb dL_law_1220 ?_
  refine tpi (y := 2) (by decide +kernel) ?_
  refine va_sld hx hb hX hbl hbA hS (vin (by decide +kernel)) dL_law_1221 ?_
  refine tpi (y := xs 2) rfl ?_
  refine jnI (wr := mW V z) (rnV (rest := []) ⟨hx, hb, hml, hown, hg⟩ (c_X9_best_0 l V y ((xs 1)) ((xs 2))) mt_X9_best q_5_146 ⟨Nat.le_of_ble_eq_true rfl, Nat.le_of_ble_eq_true rfl⟩ hK hP hD hS hA hE [0, 2] rfl rfl 0 rfl rfl rfl rfl hl.1 rfl (Nat.le_of_ble_eq_true rfl) dL_law_1222 ⟨Nat.le_of_ble_eq_true rfl, Nat.le_of_ble_eq_true rfl⟩) hP hD hS hA [0, 2] [59, 60, 61, 62, 63, 64, 65, 66, 67, 68, 69, 70, 71, 72, 73, 74, 75, 76, 77, 78, 79, 80, 81, 82, 83] rfl rfl rfl (by decide) (fun r w H locs hw hP hD hS => ?_)
  refine W.widen (k := 84) (n := 223324) (Nat.le_of_ble_eq_true rfl) (Nat.le_of_ble_eq_true rfl) ?_
  have hP : va_P V.1 vwCl (mW V z) H := takeP hP
  have hD : va_D (fun q : Nat => s.heap.size ≤ q) (mW V z) := takeD hD
  refine lv_aload_n hx hb dL_law_1225 rfl (lv_at hl 2 rfl) ?_
  refine lv_aload_n hx hb dL_law_1226 rfl (lv_at hl 0 rfl) ?_
  refine lv_iload_n hx hb dL_law_1227 rfl (lv_at hl 3 rfl) ?_
  refine lv_iconst (v := 1) hx hb dL_law_1228 (by decide) ?_
  refine lv_iadd hx hb dL_law_1229 ?_
  refine tpi (y := 1) (by decide +kernel) ?_
  refine va_sld hx hb hX hbl hbA hS (vin (by decide +kernel)) dL_law_1230 ?_
  refine tpi (y := xs 1) rfl ?_
  refine lv_aload_n hx hb dL_law_1231 rfl (lv_at hl 0 rfl) ?_
  refine lv_iload_n hx hb dL_law_1232 rfl (lv_at hl 3 rfl) ?_
  refine lv_iconst (v := 2) hx hb dL_law_1233 (by decide) ?_
  refine lv_iadd hx hb dL_law_1234 ?_
  refine tpi (y := 2) (by decide +kernel) ?_
  refine va_sld hx hb hX hbl hbA hS (vin (by decide +kernel)) dL_law_1235 ?_
  refine tpi (y := xs 2) rfl ?_
  refine jnI (wr := []) (rnV (rest := [.int r]) ⟨hx, hb, hml, hown, hg⟩ (c_X10_best_0 l V z ((xs 1)) ((xs 2))) mt_X10_best q_8_105 ⟨Nat.le_of_ble_eq_true rfl, Nat.le_of_ble_eq_true rfl⟩ hK hP hD hS hA hE [0, 24] rfl rfl 0 rfl rfl rfl rfl hl.1 rfl (Nat.le_of_ble_eq_true rfl) dL_law_1236 ⟨Nat.le_of_ble_eq_true rfl, Nat.le_of_ble_eq_true rfl⟩) hP hD hS hA [0, 24] [] rfl rfl rfl (by decide) (fun r2 w2 H locs hw2 hP hD hS => ?_)
  refine W.widen (k := 84) (n := 223324) (Nat.le_of_ble_eq_true rfl) (Nat.le_of_ble_eq_true rfl) ?_
  have e9 : r = r2 := by
    obtain ⟨ex, -⟩ := hw
    obtain ⟨em, -⟩ := hw2
    exact ex.trans em.symm
  refine lv_icmp_eq (tgt := 1549) hx hb dL_law_1239 (by decide) (fun _ => ?_) (fun c_1 => absurd e9 c_1)
  exact law_end C0 (Nat.le_of_ble_eq_true rfl) (Nat.le_of_ble_eq_true rfl) hS (lv_sub hl [0, 3] rfl)
theorem dL_law_1244 : decode cL_law 1244 = .ok (.aload_n 1, 1) := by decide +kernel
theorem dL_law_1245 : decode cL_law 1245 = .ok (.aload_n 0, 1) := by decide +kernel
theorem dL_law_1246 : decode cL_law 1246 = .ok (.iload_n 3, 1) := by decide +kernel
theorem dL_law_1247 : decode cL_law 1247 = .ok (.iconst 1, 1) := by decide +kernel
theorem dL_law_1248 : decode cL_law 1248 = .ok (.iadd, 1) := by decide +kernel
theorem dL_law_1249 : decode cL_law 1249 = .ok (.iaload, 1) := by decide +kernel
theorem dL_law_1250 : decode cL_law 1250 = .ok (.aload_n 0, 1) := by decide +kernel
theorem dL_law_1251 : decode cL_law 1251 = .ok (.iload_n 3, 1) := by decide +kernel
theorem dL_law_1252 : decode cL_law 1252 = .ok (.iconst 2, 1) := by decide +kernel
theorem dL_law_1253 : decode cL_law 1253 = .ok (.iadd, 1) := by decide +kernel
theorem dL_law_1254 : decode cL_law 1254 = .ok (.iaload, 1) := by decide +kernel
theorem dL_law_1255 : decode cL_law 1255 = .ok (.aload_n 0, 1) := by decide +kernel
theorem dL_law_1256 : decode cL_law 1256 = .ok (.iload_n 3, 1) := by decide +kernel
theorem dL_law_1257 : decode cL_law 1257 = .ok (.iconst 3, 1) := by decide +kernel
theorem dL_law_1258 : decode cL_law 1258 = .ok (.iadd, 1) := by decide +kernel
theorem dL_law_1259 : decode cL_law 1259 = .ok (.iaload, 1) := by decide +kernel
theorem dL_law_1260 : decode cL_law 1260 = .ok (.aload_n 0, 1) := by decide +kernel
theorem dL_law_1261 : decode cL_law 1261 = .ok (.iload_n 3, 1) := by decide +kernel
theorem dL_law_1262 : decode cL_law 1262 = .ok (.iconst 4, 1) := by decide +kernel
theorem dL_law_1263 : decode cL_law 1263 = .ok (.iadd, 1) := by decide +kernel
theorem dL_law_1264 : decode cL_law 1264 = .ok (.iaload, 1) := by decide +kernel
theorem q_5_157 : Cond.code yX9_chance prog_1_method_64_code 6 (some FieldType.int) ∈ gw := gw_5 (i := 157) (rfl) rfl
theorem q_5_155 : Cond.instanceMethod yX9_chance ∈ gw := gw_5 (i := 155) (by decide +kernel) rfl
theorem q_5_156 : Cond.selects "BeaconDelay" yX9_chance yX9_chance ∈ gw := gw_5 (i := 156) (by decide +kernel) rfl
theorem mt_X9_chance : MtV yX9_chance cX9_chance 6 (some .int) 4 := ⟨⟨q_5_157, q_1_1, by decide +kernel, by decide +kernel, by decide +kernel⟩, q_5_155, q_5_156⟩
theorem q_5_154 : Cond.methodLink "BeaconDelayLaw" 164 yX9_chance ∈ gw := gw_5 (i := 154) (by decide +kernel) rfl
theorem dL_law_1265 : decode cL_law 1265 = .ok (.invokevirtual 164, 3) := by decide +kernel
theorem dL_law_1268 : decode cL_law 1268 = .ok (.aload_n 2, 1) := by decide +kernel
theorem dL_law_1269 : decode cL_law 1269 = .ok (.aload_n 0, 1) := by decide +kernel
theorem dL_law_1270 : decode cL_law 1270 = .ok (.iload_n 3, 1) := by decide +kernel
theorem dL_law_1271 : decode cL_law 1271 = .ok (.iconst 1, 1) := by decide +kernel
theorem dL_law_1272 : decode cL_law 1272 = .ok (.iadd, 1) := by decide +kernel
theorem dL_law_1273 : decode cL_law 1273 = .ok (.iaload, 1) := by decide +kernel
theorem dL_law_1274 : decode cL_law 1274 = .ok (.aload_n 0, 1) := by decide +kernel
theorem dL_law_1275 : decode cL_law 1275 = .ok (.iload_n 3, 1) := by decide +kernel
theorem dL_law_1276 : decode cL_law 1276 = .ok (.iconst 2, 1) := by decide +kernel
theorem dL_law_1277 : decode cL_law 1277 = .ok (.iadd, 1) := by decide +kernel
theorem dL_law_1278 : decode cL_law 1278 = .ok (.iaload, 1) := by decide +kernel
theorem dL_law_1279 : decode cL_law 1279 = .ok (.aload_n 0, 1) := by decide +kernel
theorem dL_law_1280 : decode cL_law 1280 = .ok (.iload_n 3, 1) := by decide +kernel
theorem dL_law_1281 : decode cL_law 1281 = .ok (.iconst 3, 1) := by decide +kernel
theorem dL_law_1282 : decode cL_law 1282 = .ok (.iadd, 1) := by decide +kernel
theorem dL_law_1283 : decode cL_law 1283 = .ok (.iaload, 1) := by decide +kernel
theorem dL_law_1284 : decode cL_law 1284 = .ok (.aload_n 0, 1) := by decide +kernel
theorem dL_law_1285 : decode cL_law 1285 = .ok (.iload_n 3, 1) := by decide +kernel
theorem dL_law_1286 : decode cL_law 1286 = .ok (.iconst 4, 1) := by decide +kernel
theorem dL_law_1287 : decode cL_law 1287 = .ok (.iadd, 1) := by decide +kernel
theorem dL_law_1288 : decode cL_law 1288 = .ok (.iaload, 1) := by decide +kernel
theorem q_8_112 : Cond.code yX10_chance prog_12_method_126_code 8 (some FieldType.int) ∈ gw := gw_8 (i := 112) (rfl) rfl
theorem q_8_110 : Cond.instanceMethod yX10_chance ∈ gw := gw_8 (i := 110) (by decide +kernel) rfl
theorem q_8_111 : Cond.selects "BeaconDelayModel" yX10_chance yX10_chance ∈ gw := gw_8 (i := 111) (by decide +kernel) rfl
theorem mt_X10_chance : MtV yX10_chance cX10_chance 8 (some .int) 4 := ⟨⟨q_8_112, q_1_9, by decide +kernel, by decide +kernel, by decide +kernel⟩, q_8_110, q_8_111⟩
theorem q_8_109 : Cond.methodLink "BeaconDelayLaw" 168 yX10_chance ∈ gw := gw_8 (i := 109) (by decide +kernel) rfl
theorem dL_law_1289 : decode cL_law 1289 = .ok (.invokevirtual 168, 3) := by decide +kernel
theorem dL_law_1292 : decode cL_law 1292 = .ok (.if_icmp .eq 257, 3) := by decide +kernel
-- chance
set_option maxHeartbeats 4000000 in
set_option maxRecDepth 100000 in
theorem lc_36 {p : Program} {e : Env} {s : State} {m : MethodId} {below : List Frame} {meth : Method} {c : Code} {l : Launch} {b : Nat} {xs : Nat → Int32} {V : GV} {y z : Nat → Nat} (C0 : lw_At p s m meth c b 6 xs) (hg : ∀ w ∈ gw, w.before #[Value.ref b] s = true) (hK : va_K V.1 vwCl (tyV V) s) (hE : En V (fun q : Nat => s.heap.size ≤ q) s s.heap) {H : Heap} {locs : List Loc} (hP : va_P V.1 vwCl (xW V y ++ mW V z) H) (hD : va_D (fun q : Nat => s.heap.size ≤ q) (xW V y ++ mW V z)) (hS : va_S (fun q : Nat => s.heap.size ≤ q) s.heap H locs) {ls : Array Slot} (hl : lv_has ls 4 [(0, .ref b), (1, .ref (y 0)), (2, .ref (z 0)), (3, .int 0)]) : W p l e room_1 s m #[Value.ref b] below meth c H locs 84 223324 (lw_Z below #[Value.ref b] s) (F0 m 1244 ls []) := by
  obtain ⟨hx, hb, hr, hml, hown, hts, hX, hbl, hlocks, hgv⟩ := id C0
  have hA : ∀ q : Nat, s.heap.size ≤ q → (fun q : Nat => s.heap.size ≤ q) q := fun _ h => h
  have hbA : ¬ (fun q : Nat => s.heap.size ≤ q) b := Nat.not_le.mpr hbl
  refine lv_aload_n hx hb dL_law_1244 rfl (lv_at hl 1 rfl) ?_
  refine lv_aload_n hx hb dL_law_1245 rfl (lv_at hl 0 rfl) ?_
  refine lv_iload_n hx hb dL_law_1246 rfl (lv_at hl 3 rfl) ?_
  refine lv_iconst (v := 1) hx hb dL_law_1247 (by decide) ?_
  refine lv_iadd hx hb dL_law_1248 ?_
  refine tpi (y := 1) (by decide +kernel) ?_
  refine va_sld hx hb hX hbl hbA hS (vin (by decide +kernel)) dL_law_1249 ?_
  refine tpi (y := xs 1) rfl ?_
  refine lv_aload_n hx hb dL_law_1250 rfl (lv_at hl 0 rfl) ?_
  refine lv_iload_n hx hb dL_law_1251 rfl (lv_at hl 3 rfl) ?_
  refine lv_iconst (v := 2) hx hb dL_law_1252 (by decide) ?_
  refine lv_iadd hx hb dL_law_1253 ?_
  refine tpi (y := 2) (by decide +kernel) ?_
  refine va_sld hx hb hX hbl hbA hS (vin (by decide +kernel)) dL_law_1254 ?_
  refine tpi (y := xs 2) rfl ?_
  refine lv_aload_n hx hb dL_law_1255 rfl (lv_at hl 0 rfl) ?_
  refine lv_iload_n hx hb dL_law_1256 rfl (lv_at hl 3 rfl) ?_
  refine lv_iconst (v := 3) hx hb dL_law_1257 (by decide) ?_
  refine lv_iadd hx hb dL_law_1258 ?_
  refine tpi (y := 3) (by decide +kernel) ?_
  refine va_sld hx hb hX hbl hbA hS (vin (by decide +kernel)) dL_law_1259 ?_
  refine tpi (y := xs 3) rfl ?_
  refine lv_aload_n hx hb dL_law_1260 rfl (lv_at hl 0 rfl) ?_
  refine lv_iload_n hx hb dL_law_1261 rfl (lv_at hl 3 rfl) ?_
  refine lv_iconst (v := 4) hx hb dL_law_1262 (by decide) ?_
  refine lv_iadd hx hb dL_law_1263 ?_
  refine tpi (y := 4) (by decide +kernel) ?_
  refine va_sld hx hb hX hbl hbA hS (vin (by decide +kernel)) dL_law_1264 ?_
  refine tpi (y := xs 4) rfl ?_
  refine jnI (wr := mW V z) (rnV (rest := []) ⟨hx, hb, hml, hown, hg⟩ (c_X9_chance_0 l V y ((xs 1)) ((xs 2)) ((xs 3)) ((xs 4))) mt_X9_chance q_5_154 ⟨Nat.le_of_ble_eq_true rfl, Nat.le_of_ble_eq_true rfl⟩ hK hP hD hS hA hE [0, 2] rfl rfl 0 rfl rfl rfl rfl hl.1 rfl (Nat.le_of_ble_eq_true rfl) dL_law_1265 ⟨Nat.le_of_ble_eq_true rfl, Nat.le_of_ble_eq_true rfl⟩) hP hD hS hA [0, 2] [59, 60, 61, 62, 63, 64, 65, 66, 67, 68, 69, 70, 71, 72, 73, 74, 75, 76, 77, 78, 79, 80, 81, 82, 83] rfl rfl rfl (by decide) (fun r w H locs hw hP hD hS => ?_)
  refine W.widen (k := 84) (n := 223324) (Nat.le_of_ble_eq_true rfl) (Nat.le_of_ble_eq_true rfl) ?_
  have hP : va_P V.1 vwCl (mW V z) H := takeP hP
  have hD : va_D (fun q : Nat => s.heap.size ≤ q) (mW V z) := takeD hD
  refine lv_aload_n hx hb dL_law_1268 rfl (lv_at hl 2 rfl) ?_
  refine lv_aload_n hx hb dL_law_1269 rfl (lv_at hl 0 rfl) ?_
  refine lv_iload_n hx hb dL_law_1270 rfl (lv_at hl 3 rfl) ?_
  refine lv_iconst (v := 1) hx hb dL_law_1271 (by decide) ?_
  refine lv_iadd hx hb dL_law_1272 ?_
  refine tpi (y := 1) (by decide +kernel) ?_
  refine va_sld hx hb hX hbl hbA hS (vin (by decide +kernel)) dL_law_1273 ?_
  refine tpi (y := xs 1) rfl ?_
  refine lv_aload_n hx hb dL_law_1274 rfl (lv_at hl 0 rfl) ?_
  refine lv_iload_n hx hb dL_law_1275 rfl (lv_at hl 3 rfl) ?_
  refine lv_iconst (v := 2) hx hb dL_law_1276 (by decide) ?_
  refine lv_iadd hx hb dL_law_1277 ?_
  refine tpi (y := 2) (by decide +kernel) ?_
  refine va_sld hx hb hX hbl hbA hS (vin (by decide +kernel)) dL_law_1278 ?_
  refine tpi (y := xs 2) rfl ?_
  refine lv_aload_n hx hb dL_law_1279 rfl (lv_at hl 0 rfl) ?_
  refine lv_iload_n hx hb dL_law_1280 rfl (lv_at hl 3 rfl) ?_
  refine lv_iconst (v := 3) hx hb dL_law_1281 (by decide) ?_
  refine lv_iadd hx hb dL_law_1282 ?_
  refine tpi (y := 3) (by decide +kernel) ?_
  refine va_sld hx hb hX hbl hbA hS (vin (by decide +kernel)) dL_law_1283 ?_
  refine tpi (y := xs 3) rfl ?_
  refine lv_aload_n hx hb dL_law_1284 rfl (lv_at hl 0 rfl) ?_
  refine lv_iload_n hx hb dL_law_1285 rfl (lv_at hl 3 rfl) ?_
  refine lv_iconst (v := 4) hx hb dL_law_1286 (by decide) ?_
  refine lv_iadd hx hb dL_law_1287 ?_
  refine tpi (y := 4) (by decide +kernel) ?_
  refine va_sld hx hb hX hbl hbA hS (vin (by decide +kernel)) dL_law_1288 ?_
  refine tpi (y := xs 4) rfl ?_
  refine jnI (wr := []) (rnV (rest := [.int r]) ⟨hx, hb, hml, hown, hg⟩ (c_X10_chance_0 l V z ((xs 1)) ((xs 2)) ((xs 3)) ((xs 4))) mt_X10_chance q_8_109 ⟨Nat.le_of_ble_eq_true rfl, Nat.le_of_ble_eq_true rfl⟩ hK hP hD hS hA hE [0, 24] rfl rfl 0 rfl rfl rfl rfl hl.1 rfl (Nat.le_of_ble_eq_true rfl) dL_law_1289 ⟨Nat.le_of_ble_eq_true rfl, Nat.le_of_ble_eq_true rfl⟩) hP hD hS hA [0, 24] [] rfl rfl rfl (by decide) (fun r2 w2 H locs hw2 hP hD hS => ?_)
  refine W.widen (k := 84) (n := 223324) (Nat.le_of_ble_eq_true rfl) (Nat.le_of_ble_eq_true rfl) ?_
  have e9 : r = r2 := by
    obtain ⟨ex, -⟩ := hw
    obtain ⟨em, -⟩ := hw2
    exact ex.trans em.symm
  refine lv_icmp_eq (tgt := 1549) hx hb dL_law_1292 (by decide) (fun _ => ?_) (fun c_1 => absurd e9 c_1)
  exact law_end C0 (Nat.le_of_ble_eq_true rfl) (Nat.le_of_ble_eq_true rfl) hS (lv_sub hl [0, 3] rfl)
theorem dL_law_1297 : decode cL_law 1297 = .ok (.aload_n 1, 1) := by decide +kernel
theorem dL_law_1298 : decode cL_law 1298 = .ok (.aload_n 0, 1) := by decide +kernel
theorem dL_law_1299 : decode cL_law 1299 = .ok (.iload_n 3, 1) := by decide +kernel
theorem dL_law_1300 : decode cL_law 1300 = .ok (.iconst 1, 1) := by decide +kernel
theorem dL_law_1301 : decode cL_law 1301 = .ok (.iadd, 1) := by decide +kernel
theorem dL_law_1302 : decode cL_law 1302 = .ok (.iaload, 1) := by decide +kernel
theorem dL_law_1303 : decode cL_law 1303 = .ok (.aload_n 0, 1) := by decide +kernel
theorem dL_law_1304 : decode cL_law 1304 = .ok (.iload_n 3, 1) := by decide +kernel
theorem dL_law_1305 : decode cL_law 1305 = .ok (.iconst 2, 1) := by decide +kernel
theorem dL_law_1306 : decode cL_law 1306 = .ok (.iadd, 1) := by decide +kernel
theorem dL_law_1307 : decode cL_law 1307 = .ok (.iaload, 1) := by decide +kernel
theorem q_5_172 : Cond.code yX9_mean prog_1_method_65_code 6 (some FieldType.int) ∈ gw := gw_5 (i := 172) (rfl) rfl
theorem q_5_170 : Cond.instanceMethod yX9_mean ∈ gw := gw_5 (i := 170) (by decide +kernel) rfl
theorem q_5_171 : Cond.selects "BeaconDelay" yX9_mean yX9_mean ∈ gw := gw_5 (i := 171) (by decide +kernel) rfl
theorem mt_X9_mean : MtV yX9_mean cX9_mean 6 (some .int) 2 := ⟨⟨q_5_172, q_1_1, by decide +kernel, by decide +kernel, by decide +kernel⟩, q_5_170, q_5_171⟩
theorem q_5_169 : Cond.methodLink "BeaconDelayLaw" 169 yX9_mean ∈ gw := gw_5 (i := 169) (by decide +kernel) rfl
theorem dL_law_1308 : decode cL_law 1308 = .ok (.invokevirtual 169, 3) := by decide +kernel
theorem dL_law_1311 : decode cL_law 1311 = .ok (.aload_n 2, 1) := by decide +kernel
theorem dL_law_1312 : decode cL_law 1312 = .ok (.aload_n 0, 1) := by decide +kernel
theorem dL_law_1313 : decode cL_law 1313 = .ok (.iload_n 3, 1) := by decide +kernel
theorem dL_law_1314 : decode cL_law 1314 = .ok (.iconst 1, 1) := by decide +kernel
theorem dL_law_1315 : decode cL_law 1315 = .ok (.iadd, 1) := by decide +kernel
theorem dL_law_1316 : decode cL_law 1316 = .ok (.iaload, 1) := by decide +kernel
theorem dL_law_1317 : decode cL_law 1317 = .ok (.aload_n 0, 1) := by decide +kernel
theorem dL_law_1318 : decode cL_law 1318 = .ok (.iload_n 3, 1) := by decide +kernel
theorem dL_law_1319 : decode cL_law 1319 = .ok (.iconst 2, 1) := by decide +kernel
theorem dL_law_1320 : decode cL_law 1320 = .ok (.iadd, 1) := by decide +kernel
theorem dL_law_1321 : decode cL_law 1321 = .ok (.iaload, 1) := by decide +kernel
theorem q_8_130 : Cond.code yX10_mean prog_12_method_127_code 6 (some FieldType.int) ∈ gw := gw_8 (i := 130) (rfl) rfl
theorem q_8_128 : Cond.instanceMethod yX10_mean ∈ gw := gw_8 (i := 128) (by decide +kernel) rfl
theorem q_8_129 : Cond.selects "BeaconDelayModel" yX10_mean yX10_mean ∈ gw := gw_8 (i := 129) (by decide +kernel) rfl
theorem mt_X10_mean : MtV yX10_mean cX10_mean 6 (some .int) 2 := ⟨⟨q_8_130, q_1_9, by decide +kernel, by decide +kernel, by decide +kernel⟩, q_8_128, q_8_129⟩
theorem q_8_127 : Cond.methodLink "BeaconDelayLaw" 172 yX10_mean ∈ gw := gw_8 (i := 127) (by decide +kernel) rfl
theorem dL_law_1322 : decode cL_law 1322 = .ok (.invokevirtual 172, 3) := by decide +kernel
theorem dL_law_1325 : decode cL_law 1325 = .ok (.if_icmp .eq 224, 3) := by decide +kernel
-- mean
set_option maxHeartbeats 4000000 in
set_option maxRecDepth 100000 in
theorem lc_37 {p : Program} {e : Env} {s : State} {m : MethodId} {below : List Frame} {meth : Method} {c : Code} {l : Launch} {b : Nat} {xs : Nat → Int32} {V : GV} {y z : Nat → Nat} (C0 : lw_At p s m meth c b 6 xs) (hg : ∀ w ∈ gw, w.before #[Value.ref b] s = true) (hK : va_K V.1 vwCl (tyV V) s) (hE : En V (fun q : Nat => s.heap.size ≤ q) s s.heap) {H : Heap} {locs : List Loc} (hP : va_P V.1 vwCl (xW V y ++ mW V z) H) (hD : va_D (fun q : Nat => s.heap.size ≤ q) (xW V y ++ mW V z)) (hS : va_S (fun q : Nat => s.heap.size ≤ q) s.heap H locs) {ls : Array Slot} (hl : lv_has ls 4 [(0, .ref b), (1, .ref (y 0)), (2, .ref (z 0)), (3, .int 0)]) : W p l e room_1 s m #[Value.ref b] below meth c H locs 84 223324 (lw_Z below #[Value.ref b] s) (F0 m 1297 ls []) := by
  obtain ⟨hx, hb, hr, hml, hown, hts, hX, hbl, hlocks, hgv⟩ := id C0
  have hA : ∀ q : Nat, s.heap.size ≤ q → (fun q : Nat => s.heap.size ≤ q) q := fun _ h => h
  have hbA : ¬ (fun q : Nat => s.heap.size ≤ q) b := Nat.not_le.mpr hbl
  refine lv_aload_n hx hb dL_law_1297 rfl (lv_at hl 1 rfl) ?_
  refine lv_aload_n hx hb dL_law_1298 rfl (lv_at hl 0 rfl) ?_
  refine lv_iload_n hx hb dL_law_1299 rfl (lv_at hl 3 rfl) ?_
  refine lv_iconst (v := 1) hx hb dL_law_1300 (by decide) ?_
  refine lv_iadd hx hb dL_law_1301 ?_
  refine tpi (y := 1) (by decide +kernel) ?_
  refine va_sld hx hb hX hbl hbA hS (vin (by decide +kernel)) dL_law_1302 ?_
  refine tpi (y := xs 1) rfl ?_
  refine lv_aload_n hx hb dL_law_1303 rfl (lv_at hl 0 rfl) ?_
  refine lv_iload_n hx hb dL_law_1304 rfl (lv_at hl 3 rfl) ?_
  refine lv_iconst (v := 2) hx hb dL_law_1305 (by decide) ?_
  refine lv_iadd hx hb dL_law_1306 ?_
  refine tpi (y := 2) (by decide +kernel) ?_
  refine va_sld hx hb hX hbl hbA hS (vin (by decide +kernel)) dL_law_1307 ?_
  refine tpi (y := xs 2) rfl ?_
  refine jnI (wr := mW V z) (rnV (rest := []) ⟨hx, hb, hml, hown, hg⟩ (c_X9_mean_0 l V y ((xs 1)) ((xs 2))) mt_X9_mean q_5_169 ⟨Nat.le_of_ble_eq_true rfl, Nat.le_of_ble_eq_true rfl⟩ hK hP hD hS hA hE [0, 2] rfl rfl 0 rfl rfl rfl rfl hl.1 rfl (Nat.le_of_ble_eq_true rfl) dL_law_1308 ⟨Nat.le_of_ble_eq_true rfl, Nat.le_of_ble_eq_true rfl⟩) hP hD hS hA [0, 2] [59, 60, 61, 62, 63, 64, 65, 66, 67, 68, 69, 70, 71, 72, 73, 74, 75, 76, 77, 78, 79, 80, 81, 82, 83] rfl rfl rfl (by decide) (fun r w H locs hw hP hD hS => ?_)
  refine W.widen (k := 94) (n := 223356) (Nat.le_of_ble_eq_true rfl) (Nat.le_of_ble_eq_true rfl) ?_
  have hP : va_P V.1 vwCl (mW V z) H := takeP hP
  have hD : va_D (fun q : Nat => s.heap.size ≤ q) (mW V z) := takeD hD
  refine lv_aload_n hx hb dL_law_1311 rfl (lv_at hl 2 rfl) ?_
  refine lv_aload_n hx hb dL_law_1312 rfl (lv_at hl 0 rfl) ?_
  refine lv_iload_n hx hb dL_law_1313 rfl (lv_at hl 3 rfl) ?_
  refine lv_iconst (v := 1) hx hb dL_law_1314 (by decide) ?_
  refine lv_iadd hx hb dL_law_1315 ?_
  refine tpi (y := 1) (by decide +kernel) ?_
  refine va_sld hx hb hX hbl hbA hS (vin (by decide +kernel)) dL_law_1316 ?_
  refine tpi (y := xs 1) rfl ?_
  refine lv_aload_n hx hb dL_law_1317 rfl (lv_at hl 0 rfl) ?_
  refine lv_iload_n hx hb dL_law_1318 rfl (lv_at hl 3 rfl) ?_
  refine lv_iconst (v := 2) hx hb dL_law_1319 (by decide) ?_
  refine lv_iadd hx hb dL_law_1320 ?_
  refine tpi (y := 2) (by decide +kernel) ?_
  refine va_sld hx hb hX hbl hbA hS (vin (by decide +kernel)) dL_law_1321 ?_
  refine tpi (y := xs 2) rfl ?_
  refine jnI (wr := []) (rnV (rest := [.int r]) ⟨hx, hb, hml, hown, hg⟩ (c_X10_mean_0 l V z ((xs 1)) ((xs 2))) mt_X10_mean q_8_127 ⟨Nat.le_of_ble_eq_true rfl, Nat.le_of_ble_eq_true rfl⟩ hK hP hD hS hA hE [0, 9, 10, 13, 14, 15, 24] rfl rfl 0 rfl rfl rfl rfl hl.1 rfl (Nat.le_of_ble_eq_true rfl) dL_law_1322 ⟨Nat.le_of_ble_eq_true rfl, Nat.le_of_ble_eq_true rfl⟩) hP hD hS hA [0, 9, 10, 13, 14, 15, 24] [] rfl rfl rfl (by decide) (fun r2 w2 H locs hw2 hP hD hS => ?_)
  refine W.widen (k := 94) (n := 223356) (Nat.le_of_ble_eq_true rfl) (Nat.le_of_ble_eq_true rfl) ?_
  have e9 : r = r2 := by
    rcases hw with ⟨f_1, f_2, ex, -⟩ | ⟨f_3, f_4, f_5, ex, -⟩ | ⟨f_6, f_7, f_8, ex, -⟩ | ⟨f_9, f_10, f_11, f_12, ex, -⟩ | ⟨_, _, _, _, _, _, _, _, _, _, f_13, f_14, f_15, f_16, f_17, ex, -⟩ | ⟨_, _, _, _, _, _, _, _, _, _, f_18, f_19, f_20, f_21, f_22, ex, -⟩ | ⟨_, _, _, _, _, _, _, _, _, _, f_23, f_24, f_25, f_26, f_27, ex, -⟩ | ⟨_, _, _, _, _, _, _, _, _, _, f_28, f_29, f_30, f_31, f_32, ex, -⟩ | ⟨_, _, _, _, _, _, _, _, _, _, f_33, f_34, f_35, f_36, f_37, ex, -⟩ | ⟨_, _, _, _, _, _, _, _, _, _, f_38, f_39, f_40, f_41, f_42, ex, -⟩ | ⟨_, _, _, _, _, _, _, _, _, _, f_43, f_44, f_45, f_46, f_47, ex, -⟩ | ⟨_, _, _, _, _, _, _, _, _, _, f_48, f_49, f_50, f_51, f_52, ex, -⟩ | ⟨_, _, _, _, _, _, _, _, _, _, f_53, f_54, f_55, f_56, f_57, f_58, ex, -⟩ | ⟨_, _, _, _, _, _, _, _, _, _, f_59, f_60, f_61, f_62, f_63, f_64, ex, -⟩ | ⟨_, _, _, _, _, _, _, _, _, _, f_65, f_66, f_67, f_68, f_69, f_70, ex, -⟩ | ⟨_, _, _, _, _, _, _, _, _, _, f_71, f_72, f_73, f_74, f_75, f_76, ex, -⟩ | ⟨_, _, _, _, _, _, _, _, _, _, f_77, f_78, f_79, f_80, f_81, f_82, ex, -⟩ | ⟨_, _, _, _, _, _, _, _, _, _, f_83, f_84, f_85, f_86, f_87, f_88, ex, -⟩ | ⟨_, _, _, _, _, _, _, _, _, _, f_89, f_90, f_91, f_92, f_93, f_94, ex, -⟩ | ⟨_, _, _, _, _, _, _, _, _, _, f_95, f_96, f_97, f_98, f_99, f_100, ex, -⟩ | ⟨f_101, f_102, ex, -⟩
    · rcases hw2 with ⟨f_103, em, -⟩ | ⟨f_104, f_105, em, -⟩ | ⟨f_106, f_107, f_108, em, -⟩ | ⟨f_109, f_110, f_111, f_112, em, -⟩ | ⟨f_113, f_114, f_115, f_116, f_117, f_118, em, -⟩ | ⟨f_119, f_120, f_121, f_122, f_123, f_124, em, -⟩ | ⟨f_125, f_126, f_127, f_128, f_129, f_130, em, -⟩ | ⟨f_131, f_132, f_133, f_134, f_135, f_136, em, -⟩ | ⟨f_137, f_138, f_139, f_140, f_141, f_142, em, -⟩ | ⟨f_143, f_144, f_145, f_146, f_147, f_148, em, -⟩ | ⟨f_149, f_150, f_151, f_152, f_153, f_154, em, -⟩ | ⟨f_155, f_156, f_157, f_158, f_159, f_160, em, -⟩ | ⟨f_161, f_162, f_163, f_164, f_165, f_166, em, -⟩ | ⟨f_167, f_168, f_169, f_170, f_171, f_172, em, -⟩ | ⟨f_173, f_174, f_175, f_176, f_177, f_178, em, -⟩ | ⟨f_179, f_180, f_181, f_182, f_183, f_184, em, -⟩ | ⟨f_185, f_186, f_187, f_188, f_189, f_190, em, -⟩ | ⟨f_191, f_192, f_193, f_194, f_195, f_196, em, -⟩ | ⟨f_197, f_198, f_199, f_200, f_201, f_202, em, -⟩ | ⟨f_203, f_204, f_205, f_206, f_207, f_208, em, -⟩
      · exact False.elim (by simp only [tI_lt, tI_le, tI_eq, tL_lt, tL_le, tL_eq, tWx, (by decide : (0 : Int32).toInt = 0), (by decide : (0 : Int64).toInt = 0), (by decide : (2 : Int32).toInt = 2), (by decide : (2 : Int64).toInt = 2)] at f_1 f_103; omega)
      · exact False.elim (by simp only [tI_lt, tI_le, tI_eq, tL_lt, tL_le, tL_eq, tWx, (by decide : (0 : Int32).toInt = 0), (by decide : (0 : Int64).toInt = 0), (by decide : (1 : Int64).toInt = 1), (by decide : (2 : Int32).toInt = 2), (by decide : (2 : Int64).toInt = 2)] at f_1 f_104 f_105; omega)
      · exact ex.trans em.symm
      · exact ex.trans em.symm
      · exact False.elim (by simp only [tI_lt, tI_le, tI_eq, tL_lt, tL_le, tL_eq, tWx, (by decide : (0 : Int32).toInt = 0), (by decide : (0 : Int64).toInt = 0), (by decide : (1 : Int64).toInt = 1), (by decide : (2 : Int32).toInt = 2), (by decide : (2 : Int64).toInt = 2)] at f_1 f_113 f_114 f_118; omega)
      · exact False.elim (by simp only [tI_lt, tI_le, tI_eq, tL_lt, tL_le, tL_eq, tWx, (by decide : (0 : Int32).toInt = 0), (by decide : (0 : Int64).toInt = 0), (by decide : (1 : Int32).toInt = 1), (by decide : (1 : Int64).toInt = 1), (by decide : (7 : Int64).toInt = 7)] at f_2 f_121 f_122 f_123; omega)
      · exact False.elim (by simp only [tI_lt, tI_le, tI_eq, tL_lt, tL_le, tL_eq, tWx, (by decide : (0 : Int32).toInt = 0), (by decide : (0 : Int64).toInt = 0), (by decide : (1 : Int64).toInt = 1), (by decide : (2 : Int32).toInt = 2), (by decide : (2 : Int64).toInt = 2)] at f_1 f_125 f_126 f_130; omega)
      · exact False.elim (by simp only [tI_lt, tI_le, tI_eq, tL_lt, tL_le, tL_eq, tWx, (by decide : (0 : Int32).toInt = 0), (by decide : (0 : Int64).toInt = 0), (by decide : (1 : Int32).toInt = 1), (by decide : (1 : Int64).toInt = 1), (by decide : (7 : Int64).toInt = 7)] at f_2 f_133 f_134 f_135; omega)
      · exact False.elim (by simp only [tI_lt, tI_le, tI_eq, tL_lt, tL_le, tL_eq, tWx, (by decide : (0 : Int32).toInt = 0), (by decide : (0 : Int64).toInt = 0), (by decide : (1 : Int64).toInt = 1), (by decide : (2 : Int32).toInt = 2), (by decide : (2 : Int64).toInt = 2)] at f_1 f_137 f_138 f_142; omega)
      · exact False.elim (by simp only [tI_lt, tI_le, tI_eq, tL_lt, tL_le, tL_eq, tWx, (by decide : (0 : Int32).toInt = 0), (by decide : (0 : Int64).toInt = 0), (by decide : (1 : Int32).toInt = 1), (by decide : (1 : Int64).toInt = 1), (by decide : (2 : Int32).toInt = 2), (by decide : (7 : Int64).toInt = 7)] at f_2 f_145 f_146 f_147; omega)
      · exact False.elim (by simp only [tI_lt, tI_le, tI_eq, tL_lt, tL_le, tL_eq, tWx, (by decide : (0 : Int32).toInt = 0), (by decide : (0 : Int64).toInt = 0), (by decide : (1 : Int64).toInt = 1), (by decide : (2 : Int32).toInt = 2), (by decide : (2 : Int64).toInt = 2)] at f_1 f_149 f_150 f_154; omega)
      · exact False.elim (by simp only [tI_lt, tI_le, tI_eq, tL_lt, tL_le, tL_eq, tWx, (by decide : (0 : Int32).toInt = 0), (by decide : (0 : Int64).toInt = 0), (by decide : (1 : Int32).toInt = 1), (by decide : (1 : Int64).toInt = 1), (by decide : (3 : Int32).toInt = 3), (by decide : (7 : Int64).toInt = 7)] at f_2 f_157 f_158 f_159; omega)
      · exact False.elim (by simp only [tI_lt, tI_le, tI_eq, tL_lt, tL_le, tL_eq, tWx, (by decide : (0 : Int32).toInt = 0), (by decide : (0 : Int64).toInt = 0), (by decide : (1 : Int64).toInt = 1), (by decide : (2 : Int32).toInt = 2), (by decide : (2 : Int64).toInt = 2)] at f_1 f_161 f_162 f_166; omega)
      · exact False.elim (by simp only [tI_lt, tI_le, tI_eq, tL_lt, tL_le, tL_eq, tWx, (by decide : (0 : Int32).toInt = 0), (by decide : (0 : Int64).toInt = 0), (by decide : (1 : Int32).toInt = 1), (by decide : (1 : Int64).toInt = 1), (by decide : (4 : Int32).toInt = 4), (by decide : (7 : Int64).toInt = 7)] at f_2 f_169 f_170 f_171; omega)
      · exact False.elim (by simp only [tI_lt, tI_le, tI_eq, tL_lt, tL_le, tL_eq, tWx, (by decide : (0 : Int32).toInt = 0), (by decide : (0 : Int64).toInt = 0), (by decide : (1 : Int64).toInt = 1), (by decide : (2 : Int32).toInt = 2), (by decide : (2 : Int64).toInt = 2)] at f_1 f_173 f_174 f_178; omega)
      · exact False.elim (by simp only [tI_lt, tI_le, tI_eq, tL_lt, tL_le, tL_eq, tWx, (by decide : (0 : Int32).toInt = 0), (by decide : (0 : Int64).toInt = 0), (by decide : (1 : Int32).toInt = 1), (by decide : (1 : Int64).toInt = 1), (by decide : (5 : Int32).toInt = 5), (by decide : (7 : Int64).toInt = 7)] at f_2 f_181 f_182 f_183; omega)
      · exact False.elim (by simp only [tI_lt, tI_le, tI_eq, tL_lt, tL_le, tL_eq, tWx, (by decide : (0 : Int32).toInt = 0), (by decide : (0 : Int64).toInt = 0), (by decide : (1 : Int64).toInt = 1), (by decide : (2 : Int32).toInt = 2), (by decide : (2 : Int64).toInt = 2)] at f_1 f_185 f_186 f_190; omega)
      · exact False.elim (by simp only [tI_lt, tI_le, tI_eq, tL_lt, tL_le, tL_eq, tWx, (by decide : (0 : Int32).toInt = 0), (by decide : (0 : Int64).toInt = 0), (by decide : (1 : Int32).toInt = 1), (by decide : (1 : Int64).toInt = 1), (by decide : (6 : Int32).toInt = 6), (by decide : (7 : Int64).toInt = 7)] at f_2 f_193 f_194 f_195; omega)
      · exact False.elim (by simp only [tI_lt, tI_le, tI_eq, tL_lt, tL_le, tL_eq, tWx, (by decide : (0 : Int32).toInt = 0), (by decide : (0 : Int64).toInt = 0), (by decide : (1 : Int64).toInt = 1), (by decide : (2 : Int32).toInt = 2), (by decide : (2 : Int64).toInt = 2)] at f_1 f_197 f_198 f_202; omega)
      · exact False.elim (by simp only [tI_lt, tI_le, tI_eq, tL_lt, tL_le, tL_eq, tWx, (by decide : (0 : Int32).toInt = 0), (by decide : (0 : Int64).toInt = 0), (by decide : (1 : Int32).toInt = 1), (by decide : (1 : Int64).toInt = 1), (by decide : (7 : Int32).toInt = 7), (by decide : (7 : Int64).toInt = 7)] at f_2 f_205 f_206 f_207; omega)
    · rcases hw2 with ⟨f_103, em, -⟩ | ⟨f_104, f_105, em, -⟩ | ⟨f_106, f_107, f_108, em, -⟩ | ⟨f_109, f_110, f_111, f_112, em, -⟩ | ⟨f_113, f_114, f_115, f_116, f_117, f_118, em, -⟩ | ⟨f_119, f_120, f_121, f_122, f_123, f_124, em, -⟩ | ⟨f_125, f_126, f_127, f_128, f_129, f_130, em, -⟩ | ⟨f_131, f_132, f_133, f_134, f_135, f_136, em, -⟩ | ⟨f_137, f_138, f_139, f_140, f_141, f_142, em, -⟩ | ⟨f_143, f_144, f_145, f_146, f_147, f_148, em, -⟩ | ⟨f_149, f_150, f_151, f_152, f_153, f_154, em, -⟩ | ⟨f_155, f_156, f_157, f_158, f_159, f_160, em, -⟩ | ⟨f_161, f_162, f_163, f_164, f_165, f_166, em, -⟩ | ⟨f_167, f_168, f_169, f_170, f_171, f_172, em, -⟩ | ⟨f_173, f_174, f_175, f_176, f_177, f_178, em, -⟩ | ⟨f_179, f_180, f_181, f_182, f_183, f_184, em, -⟩ | ⟨f_185, f_186, f_187, f_188, f_189, f_190, em, -⟩ | ⟨f_191, f_192, f_193, f_194, f_195, f_196, em, -⟩ | ⟨f_197, f_198, f_199, f_200, f_201, f_202, em, -⟩ | ⟨f_203, f_204, f_205, f_206, f_207, f_208, em, -⟩
      · exact False.elim (by simp only [tI_lt, tI_le, tI_eq, tL_lt, tL_le, tL_eq, tWx, (by decide : (0 : Int32).toInt = 0), (by decide : (0 : Int64).toInt = 0), (by decide : (2 : Int32).toInt = 2), (by decide : (2 : Int64).toInt = 2)] at f_3 f_103; omega)
      · exact False.elim (by simp only [tI_lt, tI_le, tI_eq, tL_lt, tL_le, tL_eq, tWx, (by decide : (0 : Int32).toInt = 0), (by decide : (0 : Int64).toInt = 0), (by decide : (1 : Int64).toInt = 1), (by decide : (2 : Int32).toInt = 2), (by decide : (2 : Int64).toInt = 2)] at f_3 f_104 f_105; omega)
      · exact ex.trans em.symm
      · exact ex.trans em.symm
      · exact False.elim (by simp only [tI_lt, tI_le, tI_eq, tL_lt, tL_le, tL_eq, tWx, (by decide : (0 : Int32).toInt = 0), (by decide : (0 : Int64).toInt = 0), (by decide : (1 : Int64).toInt = 1), (by decide : (2 : Int32).toInt = 2), (by decide : (2 : Int64).toInt = 2)] at f_3 f_113 f_114 f_118; omega)
      · exact False.elim (by simp only [tI_lt, tI_le, tI_eq, tL_lt, tL_le, tL_eq, tWx, (by decide : (0 : Int32).toInt = 0), (by decide : (0 : Int64).toInt = 0), (by decide : (1 : Int32).toInt = 1), (by decide : (1 : Int64).toInt = 1), (by decide : (7 : Int32).toInt = 7), (by decide : (7 : Int64).toInt = 7)] at f_4 f_5 f_121 f_122 f_123; omega)
      · exact False.elim (by simp only [tI_lt, tI_le, tI_eq, tL_lt, tL_le, tL_eq, tWx, (by decide : (0 : Int32).toInt = 0), (by decide : (0 : Int64).toInt = 0), (by decide : (1 : Int64).toInt = 1), (by decide : (2 : Int32).toInt = 2), (by decide : (2 : Int64).toInt = 2)] at f_3 f_125 f_126 f_130; omega)
      · exact False.elim (by simp only [tI_lt, tI_le, tI_eq, tL_lt, tL_le, tL_eq, tWx, (by decide : (0 : Int32).toInt = 0), (by decide : (0 : Int64).toInt = 0), (by decide : (1 : Int32).toInt = 1), (by decide : (1 : Int64).toInt = 1), (by decide : (7 : Int32).toInt = 7), (by decide : (7 : Int64).toInt = 7)] at f_4 f_5 f_133 f_134 f_135; omega)
      · exact False.elim (by simp only [tI_lt, tI_le, tI_eq, tL_lt, tL_le, tL_eq, tWx, (by decide : (0 : Int32).toInt = 0), (by decide : (0 : Int64).toInt = 0), (by decide : (1 : Int64).toInt = 1), (by decide : (2 : Int32).toInt = 2), (by decide : (2 : Int64).toInt = 2)] at f_3 f_137 f_138 f_142; omega)
      · exact False.elim (by simp only [tI_lt, tI_le, tI_eq, tL_lt, tL_le, tL_eq, tWx, (by decide : (0 : Int32).toInt = 0), (by decide : (0 : Int64).toInt = 0), (by decide : (1 : Int32).toInt = 1), (by decide : (1 : Int64).toInt = 1), (by decide : (2 : Int32).toInt = 2), (by decide : (7 : Int32).toInt = 7), (by decide : (7 : Int64).toInt = 7)] at f_4 f_5 f_145 f_146 f_147; omega)
      · exact False.elim (by simp only [tI_lt, tI_le, tI_eq, tL_lt, tL_le, tL_eq, tWx, (by decide : (0 : Int32).toInt = 0), (by decide : (0 : Int64).toInt = 0), (by decide : (1 : Int64).toInt = 1), (by decide : (2 : Int32).toInt = 2), (by decide : (2 : Int64).toInt = 2)] at f_3 f_149 f_150 f_154; omega)
      · exact False.elim (by simp only [tI_lt, tI_le, tI_eq, tL_lt, tL_le, tL_eq, tWx, (by decide : (0 : Int32).toInt = 0), (by decide : (0 : Int64).toInt = 0), (by decide : (1 : Int32).toInt = 1), (by decide : (1 : Int64).toInt = 1), (by decide : (3 : Int32).toInt = 3), (by decide : (7 : Int32).toInt = 7), (by decide : (7 : Int64).toInt = 7)] at f_4 f_5 f_157 f_158 f_159; omega)
      · exact False.elim (by simp only [tI_lt, tI_le, tI_eq, tL_lt, tL_le, tL_eq, tWx, (by decide : (0 : Int32).toInt = 0), (by decide : (0 : Int64).toInt = 0), (by decide : (1 : Int64).toInt = 1), (by decide : (2 : Int32).toInt = 2), (by decide : (2 : Int64).toInt = 2)] at f_3 f_161 f_162 f_166; omega)
      · exact False.elim (by simp only [tI_lt, tI_le, tI_eq, tL_lt, tL_le, tL_eq, tWx, (by decide : (0 : Int32).toInt = 0), (by decide : (0 : Int64).toInt = 0), (by decide : (1 : Int32).toInt = 1), (by decide : (1 : Int64).toInt = 1), (by decide : (4 : Int32).toInt = 4), (by decide : (7 : Int32).toInt = 7), (by decide : (7 : Int64).toInt = 7)] at f_4 f_5 f_169 f_170 f_171; omega)
      · exact False.elim (by simp only [tI_lt, tI_le, tI_eq, tL_lt, tL_le, tL_eq, tWx, (by decide : (0 : Int32).toInt = 0), (by decide : (0 : Int64).toInt = 0), (by decide : (1 : Int64).toInt = 1), (by decide : (2 : Int32).toInt = 2), (by decide : (2 : Int64).toInt = 2)] at f_3 f_173 f_174 f_178; omega)
      · exact False.elim (by simp only [tI_lt, tI_le, tI_eq, tL_lt, tL_le, tL_eq, tWx, (by decide : (0 : Int32).toInt = 0), (by decide : (0 : Int64).toInt = 0), (by decide : (1 : Int32).toInt = 1), (by decide : (1 : Int64).toInt = 1), (by decide : (5 : Int32).toInt = 5), (by decide : (7 : Int32).toInt = 7), (by decide : (7 : Int64).toInt = 7)] at f_4 f_5 f_181 f_182 f_183; omega)
      · exact False.elim (by simp only [tI_lt, tI_le, tI_eq, tL_lt, tL_le, tL_eq, tWx, (by decide : (0 : Int32).toInt = 0), (by decide : (0 : Int64).toInt = 0), (by decide : (1 : Int64).toInt = 1), (by decide : (2 : Int32).toInt = 2), (by decide : (2 : Int64).toInt = 2)] at f_3 f_185 f_186 f_190; omega)
      · exact False.elim (by simp only [tI_lt, tI_le, tI_eq, tL_lt, tL_le, tL_eq, tWx, (by decide : (0 : Int32).toInt = 0), (by decide : (0 : Int64).toInt = 0), (by decide : (1 : Int32).toInt = 1), (by decide : (1 : Int64).toInt = 1), (by decide : (6 : Int32).toInt = 6), (by decide : (7 : Int32).toInt = 7), (by decide : (7 : Int64).toInt = 7)] at f_4 f_5 f_193 f_194 f_195; omega)
      · exact False.elim (by simp only [tI_lt, tI_le, tI_eq, tL_lt, tL_le, tL_eq, tWx, (by decide : (0 : Int32).toInt = 0), (by decide : (0 : Int64).toInt = 0), (by decide : (1 : Int64).toInt = 1), (by decide : (2 : Int32).toInt = 2), (by decide : (2 : Int64).toInt = 2)] at f_3 f_197 f_198 f_202; omega)
      · exact False.elim (by simp only [tI_lt, tI_le, tI_eq, tL_lt, tL_le, tL_eq, tWx, (by decide : (0 : Int32).toInt = 0), (by decide : (0 : Int64).toInt = 0), (by decide : (1 : Int32).toInt = 1), (by decide : (1 : Int64).toInt = 1), (by decide : (7 : Int32).toInt = 7), (by decide : (7 : Int64).toInt = 7)] at f_4 f_5 f_205 f_206 f_207; omega)
    · rcases hw2 with ⟨f_103, em, -⟩ | ⟨f_104, f_105, em, -⟩ | ⟨f_106, f_107, f_108, em, -⟩ | ⟨f_109, f_110, f_111, f_112, em, -⟩ | ⟨f_113, f_114, f_115, f_116, f_117, f_118, em, -⟩ | ⟨f_119, f_120, f_121, f_122, f_123, f_124, em, -⟩ | ⟨f_125, f_126, f_127, f_128, f_129, f_130, em, -⟩ | ⟨f_131, f_132, f_133, f_134, f_135, f_136, em, -⟩ | ⟨f_137, f_138, f_139, f_140, f_141, f_142, em, -⟩ | ⟨f_143, f_144, f_145, f_146, f_147, f_148, em, -⟩ | ⟨f_149, f_150, f_151, f_152, f_153, f_154, em, -⟩ | ⟨f_155, f_156, f_157, f_158, f_159, f_160, em, -⟩ | ⟨f_161, f_162, f_163, f_164, f_165, f_166, em, -⟩ | ⟨f_167, f_168, f_169, f_170, f_171, f_172, em, -⟩ | ⟨f_173, f_174, f_175, f_176, f_177, f_178, em, -⟩ | ⟨f_179, f_180, f_181, f_182, f_183, f_184, em, -⟩ | ⟨f_185, f_186, f_187, f_188, f_189, f_190, em, -⟩ | ⟨f_191, f_192, f_193, f_194, f_195, f_196, em, -⟩ | ⟨f_197, f_198, f_199, f_200, f_201, f_202, em, -⟩ | ⟨f_203, f_204, f_205, f_206, f_207, f_208, em, -⟩
      · exact False.elim (by simp only [tI_lt, tI_le, tI_eq, tL_lt, tL_le, tL_eq, tWx, (by decide : (0 : Int32).toInt = 0), (by decide : (0 : Int64).toInt = 0), (by decide : (1 : Int32).toInt = 1), (by decide : (2 : Int32).toInt = 2), (by decide : (2 : Int64).toInt = 2)] at f_6 f_7 f_103; omega)
      · exact False.elim (by simp only [tI_lt, tI_le, tI_eq, tL_lt, tL_le, tL_eq, tWx, (by decide : (0 : Int32).toInt = 0), (by decide : (0 : Int64).toInt = 0), (by decide : (1 : Int32).toInt = 1), (by decide : (1 : Int64).toInt = 1), (by decide : (2 : Int32).toInt = 2), (by decide : (2 : Int64).toInt = 2)] at f_6 f_7 f_104 f_105; omega)
      · exact ex.trans em.symm
      · exact ex.trans em.symm
      · exact False.elim (by simp only [tI_lt, tI_le, tI_eq, tL_lt, tL_le, tL_eq, tWx, (by decide : (0 : Int32).toInt = 0), (by decide : (0 : Int64).toInt = 0), (by decide : (1 : Int32).toInt = 1), (by decide : (1 : Int64).toInt = 1), (by decide : (7 : Int64).toInt = 7)] at f_8 f_115 f_116 f_117; omega)
      · exact False.elim (by simp only [tI_lt, tI_le, tI_eq, tL_lt, tL_le, tL_eq, tWx, (by decide : (0 : Int32).toInt = 0), (by decide : (0 : Int64).toInt = 0), (by decide : (1 : Int32).toInt = 1), (by decide : (1 : Int64).toInt = 1), (by decide : (2 : Int32).toInt = 2), (by decide : (2 : Int64).toInt = 2)] at f_6 f_7 f_119 f_120 f_124; omega)
      · exact False.elim (by simp only [tI_lt, tI_le, tI_eq, tL_lt, tL_le, tL_eq, tWx, (by decide : (0 : Int32).toInt = 0), (by decide : (0 : Int64).toInt = 0), (by decide : (1 : Int32).toInt = 1), (by decide : (1 : Int64).toInt = 1), (by decide : (7 : Int64).toInt = 7)] at f_8 f_127 f_128 f_129; omega)
      · exact False.elim (by simp only [tI_lt, tI_le, tI_eq, tL_lt, tL_le, tL_eq, tWx, (by decide : (0 : Int32).toInt = 0), (by decide : (0 : Int64).toInt = 0), (by decide : (1 : Int32).toInt = 1), (by decide : (1 : Int64).toInt = 1), (by decide : (2 : Int32).toInt = 2), (by decide : (2 : Int64).toInt = 2)] at f_6 f_7 f_131 f_132 f_136; omega)
      · exact False.elim (by simp only [tI_lt, tI_le, tI_eq, tL_lt, tL_le, tL_eq, tWx, (by decide : (0 : Int32).toInt = 0), (by decide : (0 : Int64).toInt = 0), (by decide : (1 : Int32).toInt = 1), (by decide : (1 : Int64).toInt = 1), (by decide : (2 : Int32).toInt = 2), (by decide : (7 : Int64).toInt = 7)] at f_8 f_139 f_140 f_141; omega)
      · exact False.elim (by simp only [tI_lt, tI_le, tI_eq, tL_lt, tL_le, tL_eq, tWx, (by decide : (0 : Int32).toInt = 0), (by decide : (0 : Int64).toInt = 0), (by decide : (1 : Int32).toInt = 1), (by decide : (1 : Int64).toInt = 1), (by decide : (2 : Int32).toInt = 2), (by decide : (2 : Int64).toInt = 2)] at f_6 f_7 f_143 f_144 f_148; omega)
      · exact False.elim (by simp only [tI_lt, tI_le, tI_eq, tL_lt, tL_le, tL_eq, tWx, (by decide : (0 : Int32).toInt = 0), (by decide : (0 : Int64).toInt = 0), (by decide : (1 : Int32).toInt = 1), (by decide : (1 : Int64).toInt = 1), (by decide : (3 : Int32).toInt = 3), (by decide : (7 : Int64).toInt = 7)] at f_8 f_151 f_152 f_153; omega)
      · exact False.elim (by simp only [tI_lt, tI_le, tI_eq, tL_lt, tL_le, tL_eq, tWx, (by decide : (0 : Int32).toInt = 0), (by decide : (0 : Int64).toInt = 0), (by decide : (1 : Int32).toInt = 1), (by decide : (1 : Int64).toInt = 1), (by decide : (2 : Int32).toInt = 2), (by decide : (2 : Int64).toInt = 2)] at f_6 f_7 f_155 f_156 f_160; omega)
      · exact False.elim (by simp only [tI_lt, tI_le, tI_eq, tL_lt, tL_le, tL_eq, tWx, (by decide : (0 : Int32).toInt = 0), (by decide : (0 : Int64).toInt = 0), (by decide : (1 : Int32).toInt = 1), (by decide : (1 : Int64).toInt = 1), (by decide : (4 : Int32).toInt = 4), (by decide : (7 : Int64).toInt = 7)] at f_8 f_163 f_164 f_165; omega)
      · exact False.elim (by simp only [tI_lt, tI_le, tI_eq, tL_lt, tL_le, tL_eq, tWx, (by decide : (0 : Int32).toInt = 0), (by decide : (0 : Int64).toInt = 0), (by decide : (1 : Int32).toInt = 1), (by decide : (1 : Int64).toInt = 1), (by decide : (2 : Int32).toInt = 2), (by decide : (2 : Int64).toInt = 2)] at f_6 f_7 f_167 f_168 f_172; omega)
      · exact False.elim (by simp only [tI_lt, tI_le, tI_eq, tL_lt, tL_le, tL_eq, tWx, (by decide : (0 : Int32).toInt = 0), (by decide : (0 : Int64).toInt = 0), (by decide : (1 : Int32).toInt = 1), (by decide : (1 : Int64).toInt = 1), (by decide : (5 : Int32).toInt = 5), (by decide : (7 : Int64).toInt = 7)] at f_8 f_175 f_176 f_177; omega)
      · exact False.elim (by simp only [tI_lt, tI_le, tI_eq, tL_lt, tL_le, tL_eq, tWx, (by decide : (0 : Int32).toInt = 0), (by decide : (0 : Int64).toInt = 0), (by decide : (1 : Int32).toInt = 1), (by decide : (1 : Int64).toInt = 1), (by decide : (2 : Int32).toInt = 2), (by decide : (2 : Int64).toInt = 2)] at f_6 f_7 f_179 f_180 f_184; omega)
      · exact False.elim (by simp only [tI_lt, tI_le, tI_eq, tL_lt, tL_le, tL_eq, tWx, (by decide : (0 : Int32).toInt = 0), (by decide : (0 : Int64).toInt = 0), (by decide : (1 : Int32).toInt = 1), (by decide : (1 : Int64).toInt = 1), (by decide : (6 : Int32).toInt = 6), (by decide : (7 : Int64).toInt = 7)] at f_8 f_187 f_188 f_189; omega)
      · exact False.elim (by simp only [tI_lt, tI_le, tI_eq, tL_lt, tL_le, tL_eq, tWx, (by decide : (0 : Int32).toInt = 0), (by decide : (0 : Int64).toInt = 0), (by decide : (1 : Int32).toInt = 1), (by decide : (1 : Int64).toInt = 1), (by decide : (2 : Int32).toInt = 2), (by decide : (2 : Int64).toInt = 2)] at f_6 f_7 f_191 f_192 f_196; omega)
      · exact False.elim (by simp only [tI_lt, tI_le, tI_eq, tL_lt, tL_le, tL_eq, tWx, (by decide : (0 : Int32).toInt = 0), (by decide : (0 : Int64).toInt = 0), (by decide : (1 : Int32).toInt = 1), (by decide : (1 : Int64).toInt = 1), (by decide : (7 : Int32).toInt = 7), (by decide : (7 : Int64).toInt = 7)] at f_8 f_199 f_200 f_201; omega)
      · exact False.elim (by simp only [tI_lt, tI_le, tI_eq, tL_lt, tL_le, tL_eq, tWx, (by decide : (0 : Int32).toInt = 0), (by decide : (0 : Int64).toInt = 0), (by decide : (1 : Int32).toInt = 1), (by decide : (1 : Int64).toInt = 1), (by decide : (2 : Int32).toInt = 2), (by decide : (2 : Int64).toInt = 2)] at f_6 f_7 f_203 f_204 f_208; omega)
    · rcases hw2 with ⟨f_103, em, -⟩ | ⟨f_104, f_105, em, -⟩ | ⟨f_106, f_107, f_108, em, -⟩ | ⟨f_109, f_110, f_111, f_112, em, -⟩ | ⟨f_113, f_114, f_115, f_116, f_117, f_118, em, -⟩ | ⟨f_119, f_120, f_121, f_122, f_123, f_124, em, -⟩ | ⟨f_125, f_126, f_127, f_128, f_129, f_130, em, -⟩ | ⟨f_131, f_132, f_133, f_134, f_135, f_136, em, -⟩ | ⟨f_137, f_138, f_139, f_140, f_141, f_142, em, -⟩ | ⟨f_143, f_144, f_145, f_146, f_147, f_148, em, -⟩ | ⟨f_149, f_150, f_151, f_152, f_153, f_154, em, -⟩ | ⟨f_155, f_156, f_157, f_158, f_159, f_160, em, -⟩ | ⟨f_161, f_162, f_163, f_164, f_165, f_166, em, -⟩ | ⟨f_167, f_168, f_169, f_170, f_171, f_172, em, -⟩ | ⟨f_173, f_174, f_175, f_176, f_177, f_178, em, -⟩ | ⟨f_179, f_180, f_181, f_182, f_183, f_184, em, -⟩ | ⟨f_185, f_186, f_187, f_188, f_189, f_190, em, -⟩ | ⟨f_191, f_192, f_193, f_194, f_195, f_196, em, -⟩ | ⟨f_197, f_198, f_199, f_200, f_201, f_202, em, -⟩ | ⟨f_203, f_204, f_205, f_206, f_207, f_208, em, -⟩
      · exact False.elim (by simp only [tI_lt, tI_le, tI_eq, tL_lt, tL_le, tL_eq, tWx, (by decide : (0 : Int32).toInt = 0), (by decide : (0 : Int64).toInt = 0), (by decide : (1 : Int32).toInt = 1), (by decide : (2 : Int32).toInt = 2), (by decide : (2 : Int64).toInt = 2)] at f_9 f_10 f_103; omega)
      · exact False.elim (by simp only [tI_lt, tI_le, tI_eq, tL_lt, tL_le, tL_eq, tWx, (by decide : (0 : Int32).toInt = 0), (by decide : (0 : Int64).toInt = 0), (by decide : (1 : Int32).toInt = 1), (by decide : (1 : Int64).toInt = 1), (by decide : (2 : Int32).toInt = 2), (by decide : (2 : Int64).toInt = 2)] at f_9 f_10 f_104 f_105; omega)
      · exact ex.trans em.symm
      · exact ex.trans em.symm
      · exact False.elim (by simp only [tI_lt, tI_le, tI_eq, tL_lt, tL_le, tL_eq, tWx, (by decide : (0 : Int32).toInt = 0), (by decide : (0 : Int64).toInt = 0), (by decide : (1 : Int32).toInt = 1), (by decide : (1 : Int64).toInt = 1), (by decide : (7 : Int32).toInt = 7), (by decide : (7 : Int64).toInt = 7)] at f_11 f_12 f_115 f_116 f_117; omega)
      · exact False.elim (by simp only [tI_lt, tI_le, tI_eq, tL_lt, tL_le, tL_eq, tWx, (by decide : (0 : Int32).toInt = 0), (by decide : (0 : Int64).toInt = 0), (by decide : (1 : Int32).toInt = 1), (by decide : (1 : Int64).toInt = 1), (by decide : (2 : Int32).toInt = 2), (by decide : (2 : Int64).toInt = 2)] at f_9 f_10 f_119 f_120 f_124; omega)
      · exact False.elim (by simp only [tI_lt, tI_le, tI_eq, tL_lt, tL_le, tL_eq, tWx, (by decide : (0 : Int32).toInt = 0), (by decide : (0 : Int64).toInt = 0), (by decide : (1 : Int32).toInt = 1), (by decide : (1 : Int64).toInt = 1), (by decide : (7 : Int32).toInt = 7), (by decide : (7 : Int64).toInt = 7)] at f_11 f_12 f_127 f_128 f_129; omega)
      · exact False.elim (by simp only [tI_lt, tI_le, tI_eq, tL_lt, tL_le, tL_eq, tWx, (by decide : (0 : Int32).toInt = 0), (by decide : (0 : Int64).toInt = 0), (by decide : (1 : Int32).toInt = 1), (by decide : (1 : Int64).toInt = 1), (by decide : (2 : Int32).toInt = 2), (by decide : (2 : Int64).toInt = 2)] at f_9 f_10 f_131 f_132 f_136; omega)
      · exact False.elim (by simp only [tI_lt, tI_le, tI_eq, tL_lt, tL_le, tL_eq, tWx, (by decide : (0 : Int32).toInt = 0), (by decide : (0 : Int64).toInt = 0), (by decide : (1 : Int32).toInt = 1), (by decide : (1 : Int64).toInt = 1), (by decide : (2 : Int32).toInt = 2), (by decide : (7 : Int32).toInt = 7), (by decide : (7 : Int64).toInt = 7)] at f_11 f_12 f_139 f_140 f_141; omega)
      · exact False.elim (by simp only [tI_lt, tI_le, tI_eq, tL_lt, tL_le, tL_eq, tWx, (by decide : (0 : Int32).toInt = 0), (by decide : (0 : Int64).toInt = 0), (by decide : (1 : Int32).toInt = 1), (by decide : (1 : Int64).toInt = 1), (by decide : (2 : Int32).toInt = 2), (by decide : (2 : Int64).toInt = 2)] at f_9 f_10 f_143 f_144 f_148; omega)
      · exact False.elim (by simp only [tI_lt, tI_le, tI_eq, tL_lt, tL_le, tL_eq, tWx, (by decide : (0 : Int32).toInt = 0), (by decide : (0 : Int64).toInt = 0), (by decide : (1 : Int32).toInt = 1), (by decide : (1 : Int64).toInt = 1), (by decide : (3 : Int32).toInt = 3), (by decide : (7 : Int32).toInt = 7), (by decide : (7 : Int64).toInt = 7)] at f_11 f_12 f_151 f_152 f_153; omega)
      · exact False.elim (by simp only [tI_lt, tI_le, tI_eq, tL_lt, tL_le, tL_eq, tWx, (by decide : (0 : Int32).toInt = 0), (by decide : (0 : Int64).toInt = 0), (by decide : (1 : Int32).toInt = 1), (by decide : (1 : Int64).toInt = 1), (by decide : (2 : Int32).toInt = 2), (by decide : (2 : Int64).toInt = 2)] at f_9 f_10 f_155 f_156 f_160; omega)
      · exact False.elim (by simp only [tI_lt, tI_le, tI_eq, tL_lt, tL_le, tL_eq, tWx, (by decide : (0 : Int32).toInt = 0), (by decide : (0 : Int64).toInt = 0), (by decide : (1 : Int32).toInt = 1), (by decide : (1 : Int64).toInt = 1), (by decide : (4 : Int32).toInt = 4), (by decide : (7 : Int32).toInt = 7), (by decide : (7 : Int64).toInt = 7)] at f_11 f_12 f_163 f_164 f_165; omega)
      · exact False.elim (by simp only [tI_lt, tI_le, tI_eq, tL_lt, tL_le, tL_eq, tWx, (by decide : (0 : Int32).toInt = 0), (by decide : (0 : Int64).toInt = 0), (by decide : (1 : Int32).toInt = 1), (by decide : (1 : Int64).toInt = 1), (by decide : (2 : Int32).toInt = 2), (by decide : (2 : Int64).toInt = 2)] at f_9 f_10 f_167 f_168 f_172; omega)
      · exact False.elim (by simp only [tI_lt, tI_le, tI_eq, tL_lt, tL_le, tL_eq, tWx, (by decide : (0 : Int32).toInt = 0), (by decide : (0 : Int64).toInt = 0), (by decide : (1 : Int32).toInt = 1), (by decide : (1 : Int64).toInt = 1), (by decide : (5 : Int32).toInt = 5), (by decide : (7 : Int32).toInt = 7), (by decide : (7 : Int64).toInt = 7)] at f_11 f_12 f_175 f_176 f_177; omega)
      · exact False.elim (by simp only [tI_lt, tI_le, tI_eq, tL_lt, tL_le, tL_eq, tWx, (by decide : (0 : Int32).toInt = 0), (by decide : (0 : Int64).toInt = 0), (by decide : (1 : Int32).toInt = 1), (by decide : (1 : Int64).toInt = 1), (by decide : (2 : Int32).toInt = 2), (by decide : (2 : Int64).toInt = 2)] at f_9 f_10 f_179 f_180 f_184; omega)
      · exact False.elim (by simp only [tI_lt, tI_le, tI_eq, tL_lt, tL_le, tL_eq, tWx, (by decide : (0 : Int32).toInt = 0), (by decide : (0 : Int64).toInt = 0), (by decide : (1 : Int32).toInt = 1), (by decide : (1 : Int64).toInt = 1), (by decide : (6 : Int32).toInt = 6), (by decide : (7 : Int32).toInt = 7), (by decide : (7 : Int64).toInt = 7)] at f_11 f_12 f_187 f_188 f_189; omega)
      · exact False.elim (by simp only [tI_lt, tI_le, tI_eq, tL_lt, tL_le, tL_eq, tWx, (by decide : (0 : Int32).toInt = 0), (by decide : (0 : Int64).toInt = 0), (by decide : (1 : Int32).toInt = 1), (by decide : (1 : Int64).toInt = 1), (by decide : (2 : Int32).toInt = 2), (by decide : (2 : Int64).toInt = 2)] at f_9 f_10 f_191 f_192 f_196; omega)
      · exact False.elim (by simp only [tI_lt, tI_le, tI_eq, tL_lt, tL_le, tL_eq, tWx, (by decide : (0 : Int32).toInt = 0), (by decide : (0 : Int64).toInt = 0), (by decide : (1 : Int32).toInt = 1), (by decide : (1 : Int64).toInt = 1), (by decide : (7 : Int32).toInt = 7), (by decide : (7 : Int64).toInt = 7)] at f_11 f_12 f_199 f_200 f_201; omega)
      · exact False.elim (by simp only [tI_lt, tI_le, tI_eq, tL_lt, tL_le, tL_eq, tWx, (by decide : (0 : Int32).toInt = 0), (by decide : (0 : Int64).toInt = 0), (by decide : (1 : Int32).toInt = 1), (by decide : (1 : Int64).toInt = 1), (by decide : (2 : Int32).toInt = 2), (by decide : (2 : Int64).toInt = 2)] at f_9 f_10 f_203 f_204 f_208; omega)
    · rcases hw2 with ⟨f_103, em, -⟩ | ⟨f_104, f_105, em, -⟩ | ⟨f_106, f_107, f_108, em, -⟩ | ⟨f_109, f_110, f_111, f_112, em, -⟩ | ⟨f_113, f_114, f_115, f_116, f_117, f_118, em, -⟩ | ⟨f_119, f_120, f_121, f_122, f_123, f_124, em, -⟩ | ⟨f_125, f_126, f_127, f_128, f_129, f_130, em, -⟩ | ⟨f_131, f_132, f_133, f_134, f_135, f_136, em, -⟩ | ⟨f_137, f_138, f_139, f_140, f_141, f_142, em, -⟩ | ⟨f_143, f_144, f_145, f_146, f_147, f_148, em, -⟩ | ⟨f_149, f_150, f_151, f_152, f_153, f_154, em, -⟩ | ⟨f_155, f_156, f_157, f_158, f_159, f_160, em, -⟩ | ⟨f_161, f_162, f_163, f_164, f_165, f_166, em, -⟩ | ⟨f_167, f_168, f_169, f_170, f_171, f_172, em, -⟩ | ⟨f_173, f_174, f_175, f_176, f_177, f_178, em, -⟩ | ⟨f_179, f_180, f_181, f_182, f_183, f_184, em, -⟩ | ⟨f_185, f_186, f_187, f_188, f_189, f_190, em, -⟩ | ⟨f_191, f_192, f_193, f_194, f_195, f_196, em, -⟩ | ⟨f_197, f_198, f_199, f_200, f_201, f_202, em, -⟩ | ⟨f_203, f_204, f_205, f_206, f_207, f_208, em, -⟩
      · exact False.elim (by simp only [tI_lt, tI_le, tI_eq, tL_lt, tL_le, tL_eq, tWx, (by decide : (0 : Int32).toInt = 0), (by decide : (0 : Int64).toInt = 0), (by decide : (2 : Int32).toInt = 2), (by decide : (2 : Int64).toInt = 2)] at f_13 f_17 f_103; omega)
      · exact False.elim (by simp only [tI_lt, tI_le, tI_eq, tL_lt, tL_le, tL_eq, tWx, (by decide : (0 : Int32).toInt = 0), (by decide : (0 : Int64).toInt = 0), (by decide : (1 : Int64).toInt = 1), (by decide : (2 : Int32).toInt = 2), (by decide : (2 : Int64).toInt = 2)] at f_13 f_17 f_104 f_105; omega)
      · exact False.elim (by simp only [tI_lt, tI_le, tI_eq, tL_lt, tL_le, tL_eq, tWx, (by decide : (0 : Int32).toInt = 0), (by decide : (0 : Int64).toInt = 0), (by decide : (1 : Int32).toInt = 1), (by decide : (1 : Int64).toInt = 1), (by decide : (7 : Int32).toInt = 7)] at f_14 f_15 f_16 f_108; omega)
      · exact False.elim (by simp only [tI_lt, tI_le, tI_eq, tL_lt, tL_le, tL_eq, tWx, (by decide : (0 : Int32).toInt = 0), (by decide : (0 : Int64).toInt = 0), (by decide : (1 : Int32).toInt = 1), (by decide : (1 : Int64).toInt = 1), (by decide : (7 : Int32).toInt = 7), (by decide : (7 : Int64).toInt = 7)] at f_14 f_15 f_16 f_111 f_112; omega)
      · exact False.elim (by simp only [tI_lt, tI_le, tI_eq, tL_lt, tL_le, tL_eq, tWx, (by decide : (0 : Int32).toInt = 0), (by decide : (0 : Int64).toInt = 0), (by decide : (1 : Int64).toInt = 1), (by decide : (2 : Int32).toInt = 2), (by decide : (2 : Int64).toInt = 2)] at f_13 f_17 f_113 f_114 f_118; omega)
      · exact ex.trans em.symm
      · exact False.elim (by simp only [tI_lt, tI_le, tI_eq, tL_lt, tL_le, tL_eq, tWx, (by decide : (0 : Int32).toInt = 0), (by decide : (0 : Int64).toInt = 0), (by decide : (1 : Int64).toInt = 1), (by decide : (2 : Int32).toInt = 2), (by decide : (2 : Int64).toInt = 2)] at f_13 f_17 f_125 f_126 f_130; omega)
      · exact ex.trans em.symm
      · exact False.elim (by simp only [tI_lt, tI_le, tI_eq, tL_lt, tL_le, tL_eq, tWx, (by decide : (0 : Int32).toInt = 0), (by decide : (0 : Int64).toInt = 0), (by decide : (1 : Int64).toInt = 1), (by decide : (2 : Int32).toInt = 2), (by decide : (2 : Int64).toInt = 2)] at f_13 f_17 f_137 f_138 f_142; omega)
      · exact ex.trans em.symm
      · exact False.elim (by simp only [tI_lt, tI_le, tI_eq, tL_lt, tL_le, tL_eq, tWx, (by decide : (0 : Int32).toInt = 0), (by decide : (0 : Int64).toInt = 0), (by decide : (1 : Int64).toInt = 1), (by decide : (2 : Int32).toInt = 2), (by decide : (2 : Int64).toInt = 2)] at f_13 f_17 f_149 f_150 f_154; omega)
      · exact ex.trans em.symm
      · exact False.elim (by simp only [tI_lt, tI_le, tI_eq, tL_lt, tL_le, tL_eq, tWx, (by decide : (0 : Int32).toInt = 0), (by decide : (0 : Int64).toInt = 0), (by decide : (1 : Int64).toInt = 1), (by decide : (2 : Int32).toInt = 2), (by decide : (2 : Int64).toInt = 2)] at f_13 f_17 f_161 f_162 f_166; omega)
      · exact ex.trans em.symm
      · exact False.elim (by simp only [tI_lt, tI_le, tI_eq, tL_lt, tL_le, tL_eq, tWx, (by decide : (0 : Int32).toInt = 0), (by decide : (0 : Int64).toInt = 0), (by decide : (1 : Int64).toInt = 1), (by decide : (2 : Int32).toInt = 2), (by decide : (2 : Int64).toInt = 2)] at f_13 f_17 f_173 f_174 f_178; omega)
      · exact ex.trans em.symm
      · exact False.elim (by simp only [tI_lt, tI_le, tI_eq, tL_lt, tL_le, tL_eq, tWx, (by decide : (0 : Int32).toInt = 0), (by decide : (0 : Int64).toInt = 0), (by decide : (1 : Int64).toInt = 1), (by decide : (2 : Int32).toInt = 2), (by decide : (2 : Int64).toInt = 2)] at f_13 f_17 f_185 f_186 f_190; omega)
      · exact ex.trans em.symm
      · exact False.elim (by simp only [tI_lt, tI_le, tI_eq, tL_lt, tL_le, tL_eq, tWx, (by decide : (0 : Int32).toInt = 0), (by decide : (0 : Int64).toInt = 0), (by decide : (1 : Int64).toInt = 1), (by decide : (2 : Int32).toInt = 2), (by decide : (2 : Int64).toInt = 2)] at f_13 f_17 f_197 f_198 f_202; omega)
      · exact ex.trans em.symm
    · rcases hw2 with ⟨f_103, em, -⟩ | ⟨f_104, f_105, em, -⟩ | ⟨f_106, f_107, f_108, em, -⟩ | ⟨f_109, f_110, f_111, f_112, em, -⟩ | ⟨f_113, f_114, f_115, f_116, f_117, f_118, em, -⟩ | ⟨f_119, f_120, f_121, f_122, f_123, f_124, em, -⟩ | ⟨f_125, f_126, f_127, f_128, f_129, f_130, em, -⟩ | ⟨f_131, f_132, f_133, f_134, f_135, f_136, em, -⟩ | ⟨f_137, f_138, f_139, f_140, f_141, f_142, em, -⟩ | ⟨f_143, f_144, f_145, f_146, f_147, f_148, em, -⟩ | ⟨f_149, f_150, f_151, f_152, f_153, f_154, em, -⟩ | ⟨f_155, f_156, f_157, f_158, f_159, f_160, em, -⟩ | ⟨f_161, f_162, f_163, f_164, f_165, f_166, em, -⟩ | ⟨f_167, f_168, f_169, f_170, f_171, f_172, em, -⟩ | ⟨f_173, f_174, f_175, f_176, f_177, f_178, em, -⟩ | ⟨f_179, f_180, f_181, f_182, f_183, f_184, em, -⟩ | ⟨f_185, f_186, f_187, f_188, f_189, f_190, em, -⟩ | ⟨f_191, f_192, f_193, f_194, f_195, f_196, em, -⟩ | ⟨f_197, f_198, f_199, f_200, f_201, f_202, em, -⟩ | ⟨f_203, f_204, f_205, f_206, f_207, f_208, em, -⟩
      · exact False.elim (by simp only [tI_lt, tI_le, tI_eq, tL_lt, tL_le, tL_eq, tWx, (by decide : (0 : Int32).toInt = 0), (by decide : (0 : Int64).toInt = 0), (by decide : (2 : Int32).toInt = 2), (by decide : (2 : Int64).toInt = 2)] at f_18 f_22 f_103; omega)
      · exact False.elim (by simp only [tI_lt, tI_le, tI_eq, tL_lt, tL_le, tL_eq, tWx, (by decide : (0 : Int32).toInt = 0), (by decide : (0 : Int64).toInt = 0), (by decide : (1 : Int64).toInt = 1), (by decide : (2 : Int32).toInt = 2), (by decide : (2 : Int64).toInt = 2)] at f_18 f_22 f_104 f_105; omega)
      · exact False.elim (by simp only [tI_lt, tI_le, tI_eq, tL_lt, tL_le, tL_eq, tWx, (by decide : (0 : Int32).toInt = 0), (by decide : (0 : Int64).toInt = 0), (by decide : (1 : Int32).toInt = 1), (by decide : (1 : Int64).toInt = 1), (by decide : (7 : Int32).toInt = 7)] at f_19 f_20 f_21 f_108; omega)
      · exact False.elim (by simp only [tI_lt, tI_le, tI_eq, tL_lt, tL_le, tL_eq, tWx, (by decide : (0 : Int32).toInt = 0), (by decide : (0 : Int64).toInt = 0), (by decide : (1 : Int32).toInt = 1), (by decide : (1 : Int64).toInt = 1), (by decide : (7 : Int32).toInt = 7), (by decide : (7 : Int64).toInt = 7)] at f_19 f_20 f_21 f_111 f_112; omega)
      · exact False.elim (by simp only [tI_lt, tI_le, tI_eq, tL_lt, tL_le, tL_eq, tWx, (by decide : (0 : Int32).toInt = 0), (by decide : (0 : Int64).toInt = 0), (by decide : (1 : Int64).toInt = 1), (by decide : (2 : Int32).toInt = 2), (by decide : (2 : Int64).toInt = 2)] at f_18 f_22 f_113 f_114 f_118; omega)
      · exact ex.trans em.symm
      · exact False.elim (by simp only [tI_lt, tI_le, tI_eq, tL_lt, tL_le, tL_eq, tWx, (by decide : (0 : Int32).toInt = 0), (by decide : (0 : Int64).toInt = 0), (by decide : (1 : Int64).toInt = 1), (by decide : (2 : Int32).toInt = 2), (by decide : (2 : Int64).toInt = 2)] at f_18 f_22 f_125 f_126 f_130; omega)
      · exact ex.trans em.symm
      · exact False.elim (by simp only [tI_lt, tI_le, tI_eq, tL_lt, tL_le, tL_eq, tWx, (by decide : (0 : Int32).toInt = 0), (by decide : (0 : Int64).toInt = 0), (by decide : (1 : Int64).toInt = 1), (by decide : (2 : Int32).toInt = 2), (by decide : (2 : Int64).toInt = 2)] at f_18 f_22 f_137 f_138 f_142; omega)
      · exact ex.trans em.symm
      · exact False.elim (by simp only [tI_lt, tI_le, tI_eq, tL_lt, tL_le, tL_eq, tWx, (by decide : (0 : Int32).toInt = 0), (by decide : (0 : Int64).toInt = 0), (by decide : (1 : Int64).toInt = 1), (by decide : (2 : Int32).toInt = 2), (by decide : (2 : Int64).toInt = 2)] at f_18 f_22 f_149 f_150 f_154; omega)
      · exact ex.trans em.symm
      · exact False.elim (by simp only [tI_lt, tI_le, tI_eq, tL_lt, tL_le, tL_eq, tWx, (by decide : (0 : Int32).toInt = 0), (by decide : (0 : Int64).toInt = 0), (by decide : (1 : Int64).toInt = 1), (by decide : (2 : Int32).toInt = 2), (by decide : (2 : Int64).toInt = 2)] at f_18 f_22 f_161 f_162 f_166; omega)
      · exact ex.trans em.symm
      · exact False.elim (by simp only [tI_lt, tI_le, tI_eq, tL_lt, tL_le, tL_eq, tWx, (by decide : (0 : Int32).toInt = 0), (by decide : (0 : Int64).toInt = 0), (by decide : (1 : Int64).toInt = 1), (by decide : (2 : Int32).toInt = 2), (by decide : (2 : Int64).toInt = 2)] at f_18 f_22 f_173 f_174 f_178; omega)
      · exact ex.trans em.symm
      · exact False.elim (by simp only [tI_lt, tI_le, tI_eq, tL_lt, tL_le, tL_eq, tWx, (by decide : (0 : Int32).toInt = 0), (by decide : (0 : Int64).toInt = 0), (by decide : (1 : Int64).toInt = 1), (by decide : (2 : Int32).toInt = 2), (by decide : (2 : Int64).toInt = 2)] at f_18 f_22 f_185 f_186 f_190; omega)
      · exact ex.trans em.symm
      · exact False.elim (by simp only [tI_lt, tI_le, tI_eq, tL_lt, tL_le, tL_eq, tWx, (by decide : (0 : Int32).toInt = 0), (by decide : (0 : Int64).toInt = 0), (by decide : (1 : Int64).toInt = 1), (by decide : (2 : Int32).toInt = 2), (by decide : (2 : Int64).toInt = 2)] at f_18 f_22 f_197 f_198 f_202; omega)
      · exact ex.trans em.symm
    · rcases hw2 with ⟨f_103, em, -⟩ | ⟨f_104, f_105, em, -⟩ | ⟨f_106, f_107, f_108, em, -⟩ | ⟨f_109, f_110, f_111, f_112, em, -⟩ | ⟨f_113, f_114, f_115, f_116, f_117, f_118, em, -⟩ | ⟨f_119, f_120, f_121, f_122, f_123, f_124, em, -⟩ | ⟨f_125, f_126, f_127, f_128, f_129, f_130, em, -⟩ | ⟨f_131, f_132, f_133, f_134, f_135, f_136, em, -⟩ | ⟨f_137, f_138, f_139, f_140, f_141, f_142, em, -⟩ | ⟨f_143, f_144, f_145, f_146, f_147, f_148, em, -⟩ | ⟨f_149, f_150, f_151, f_152, f_153, f_154, em, -⟩ | ⟨f_155, f_156, f_157, f_158, f_159, f_160, em, -⟩ | ⟨f_161, f_162, f_163, f_164, f_165, f_166, em, -⟩ | ⟨f_167, f_168, f_169, f_170, f_171, f_172, em, -⟩ | ⟨f_173, f_174, f_175, f_176, f_177, f_178, em, -⟩ | ⟨f_179, f_180, f_181, f_182, f_183, f_184, em, -⟩ | ⟨f_185, f_186, f_187, f_188, f_189, f_190, em, -⟩ | ⟨f_191, f_192, f_193, f_194, f_195, f_196, em, -⟩ | ⟨f_197, f_198, f_199, f_200, f_201, f_202, em, -⟩ | ⟨f_203, f_204, f_205, f_206, f_207, f_208, em, -⟩
      · exact False.elim (by simp only [tI_lt, tI_le, tI_eq, tL_lt, tL_le, tL_eq, tWx, (by decide : (0 : Int32).toInt = 0), (by decide : (0 : Int64).toInt = 0), (by decide : (2 : Int32).toInt = 2), (by decide : (2 : Int64).toInt = 2)] at f_23 f_27 f_103; omega)
      · exact False.elim (by simp only [tI_lt, tI_le, tI_eq, tL_lt, tL_le, tL_eq, tWx, (by decide : (0 : Int32).toInt = 0), (by decide : (0 : Int64).toInt = 0), (by decide : (1 : Int64).toInt = 1), (by decide : (2 : Int32).toInt = 2), (by decide : (2 : Int64).toInt = 2)] at f_23 f_27 f_104 f_105; omega)
      · exact False.elim (by simp only [tI_lt, tI_le, tI_eq, tL_lt, tL_le, tL_eq, tWx, (by decide : (0 : Int32).toInt = 0), (by decide : (0 : Int64).toInt = 0), (by decide : (1 : Int32).toInt = 1), (by decide : (1 : Int64).toInt = 1), (by decide : (2 : Int32).toInt = 2), (by decide : (7 : Int32).toInt = 7)] at f_24 f_25 f_26 f_108; omega)
      · exact False.elim (by simp only [tI_lt, tI_le, tI_eq, tL_lt, tL_le, tL_eq, tWx, (by decide : (0 : Int32).toInt = 0), (by decide : (0 : Int64).toInt = 0), (by decide : (1 : Int32).toInt = 1), (by decide : (1 : Int64).toInt = 1), (by decide : (2 : Int32).toInt = 2), (by decide : (7 : Int32).toInt = 7), (by decide : (7 : Int64).toInt = 7)] at f_24 f_25 f_26 f_111 f_112; omega)
      · exact False.elim (by simp only [tI_lt, tI_le, tI_eq, tL_lt, tL_le, tL_eq, tWx, (by decide : (0 : Int32).toInt = 0), (by decide : (0 : Int64).toInt = 0), (by decide : (1 : Int64).toInt = 1), (by decide : (2 : Int32).toInt = 2), (by decide : (2 : Int64).toInt = 2)] at f_23 f_27 f_113 f_114 f_118; omega)
      · exact ex.trans em.symm
      · exact False.elim (by simp only [tI_lt, tI_le, tI_eq, tL_lt, tL_le, tL_eq, tWx, (by decide : (0 : Int32).toInt = 0), (by decide : (0 : Int64).toInt = 0), (by decide : (1 : Int64).toInt = 1), (by decide : (2 : Int32).toInt = 2), (by decide : (2 : Int64).toInt = 2)] at f_23 f_27 f_125 f_126 f_130; omega)
      · exact ex.trans em.symm
      · exact False.elim (by simp only [tI_lt, tI_le, tI_eq, tL_lt, tL_le, tL_eq, tWx, (by decide : (0 : Int32).toInt = 0), (by decide : (0 : Int64).toInt = 0), (by decide : (1 : Int64).toInt = 1), (by decide : (2 : Int32).toInt = 2), (by decide : (2 : Int64).toInt = 2)] at f_23 f_27 f_137 f_138 f_142; omega)
      · exact ex.trans em.symm
      · exact False.elim (by simp only [tI_lt, tI_le, tI_eq, tL_lt, tL_le, tL_eq, tWx, (by decide : (0 : Int32).toInt = 0), (by decide : (0 : Int64).toInt = 0), (by decide : (1 : Int64).toInt = 1), (by decide : (2 : Int32).toInt = 2), (by decide : (2 : Int64).toInt = 2)] at f_23 f_27 f_149 f_150 f_154; omega)
      · exact ex.trans em.symm
      · exact False.elim (by simp only [tI_lt, tI_le, tI_eq, tL_lt, tL_le, tL_eq, tWx, (by decide : (0 : Int32).toInt = 0), (by decide : (0 : Int64).toInt = 0), (by decide : (1 : Int64).toInt = 1), (by decide : (2 : Int32).toInt = 2), (by decide : (2 : Int64).toInt = 2)] at f_23 f_27 f_161 f_162 f_166; omega)
      · exact ex.trans em.symm
      · exact False.elim (by simp only [tI_lt, tI_le, tI_eq, tL_lt, tL_le, tL_eq, tWx, (by decide : (0 : Int32).toInt = 0), (by decide : (0 : Int64).toInt = 0), (by decide : (1 : Int64).toInt = 1), (by decide : (2 : Int32).toInt = 2), (by decide : (2 : Int64).toInt = 2)] at f_23 f_27 f_173 f_174 f_178; omega)
      · exact ex.trans em.symm
      · exact False.elim (by simp only [tI_lt, tI_le, tI_eq, tL_lt, tL_le, tL_eq, tWx, (by decide : (0 : Int32).toInt = 0), (by decide : (0 : Int64).toInt = 0), (by decide : (1 : Int64).toInt = 1), (by decide : (2 : Int32).toInt = 2), (by decide : (2 : Int64).toInt = 2)] at f_23 f_27 f_185 f_186 f_190; omega)
      · exact ex.trans em.symm
      · exact False.elim (by simp only [tI_lt, tI_le, tI_eq, tL_lt, tL_le, tL_eq, tWx, (by decide : (0 : Int32).toInt = 0), (by decide : (0 : Int64).toInt = 0), (by decide : (1 : Int64).toInt = 1), (by decide : (2 : Int32).toInt = 2), (by decide : (2 : Int64).toInt = 2)] at f_23 f_27 f_197 f_198 f_202; omega)
      · exact ex.trans em.symm
    · rcases hw2 with ⟨f_103, em, -⟩ | ⟨f_104, f_105, em, -⟩ | ⟨f_106, f_107, f_108, em, -⟩ | ⟨f_109, f_110, f_111, f_112, em, -⟩ | ⟨f_113, f_114, f_115, f_116, f_117, f_118, em, -⟩ | ⟨f_119, f_120, f_121, f_122, f_123, f_124, em, -⟩ | ⟨f_125, f_126, f_127, f_128, f_129, f_130, em, -⟩ | ⟨f_131, f_132, f_133, f_134, f_135, f_136, em, -⟩ | ⟨f_137, f_138, f_139, f_140, f_141, f_142, em, -⟩ | ⟨f_143, f_144, f_145, f_146, f_147, f_148, em, -⟩ | ⟨f_149, f_150, f_151, f_152, f_153, f_154, em, -⟩ | ⟨f_155, f_156, f_157, f_158, f_159, f_160, em, -⟩ | ⟨f_161, f_162, f_163, f_164, f_165, f_166, em, -⟩ | ⟨f_167, f_168, f_169, f_170, f_171, f_172, em, -⟩ | ⟨f_173, f_174, f_175, f_176, f_177, f_178, em, -⟩ | ⟨f_179, f_180, f_181, f_182, f_183, f_184, em, -⟩ | ⟨f_185, f_186, f_187, f_188, f_189, f_190, em, -⟩ | ⟨f_191, f_192, f_193, f_194, f_195, f_196, em, -⟩ | ⟨f_197, f_198, f_199, f_200, f_201, f_202, em, -⟩ | ⟨f_203, f_204, f_205, f_206, f_207, f_208, em, -⟩
      · exact False.elim (by simp only [tI_lt, tI_le, tI_eq, tL_lt, tL_le, tL_eq, tWx, (by decide : (0 : Int32).toInt = 0), (by decide : (0 : Int64).toInt = 0), (by decide : (2 : Int32).toInt = 2), (by decide : (2 : Int64).toInt = 2)] at f_28 f_32 f_103; omega)
      · exact False.elim (by simp only [tI_lt, tI_le, tI_eq, tL_lt, tL_le, tL_eq, tWx, (by decide : (0 : Int32).toInt = 0), (by decide : (0 : Int64).toInt = 0), (by decide : (1 : Int64).toInt = 1), (by decide : (2 : Int32).toInt = 2), (by decide : (2 : Int64).toInt = 2)] at f_28 f_32 f_104 f_105; omega)
      · exact False.elim (by simp only [tI_lt, tI_le, tI_eq, tL_lt, tL_le, tL_eq, tWx, (by decide : (0 : Int32).toInt = 0), (by decide : (0 : Int64).toInt = 0), (by decide : (1 : Int32).toInt = 1), (by decide : (1 : Int64).toInt = 1), (by decide : (3 : Int32).toInt = 3), (by decide : (7 : Int32).toInt = 7)] at f_29 f_30 f_31 f_108; omega)
      · exact False.elim (by simp only [tI_lt, tI_le, tI_eq, tL_lt, tL_le, tL_eq, tWx, (by decide : (0 : Int32).toInt = 0), (by decide : (0 : Int64).toInt = 0), (by decide : (1 : Int32).toInt = 1), (by decide : (1 : Int64).toInt = 1), (by decide : (3 : Int32).toInt = 3), (by decide : (7 : Int32).toInt = 7), (by decide : (7 : Int64).toInt = 7)] at f_29 f_30 f_31 f_111 f_112; omega)
      · exact False.elim (by simp only [tI_lt, tI_le, tI_eq, tL_lt, tL_le, tL_eq, tWx, (by decide : (0 : Int32).toInt = 0), (by decide : (0 : Int64).toInt = 0), (by decide : (1 : Int64).toInt = 1), (by decide : (2 : Int32).toInt = 2), (by decide : (2 : Int64).toInt = 2)] at f_28 f_32 f_113 f_114 f_118; omega)
      · exact ex.trans em.symm
      · exact False.elim (by simp only [tI_lt, tI_le, tI_eq, tL_lt, tL_le, tL_eq, tWx, (by decide : (0 : Int32).toInt = 0), (by decide : (0 : Int64).toInt = 0), (by decide : (1 : Int64).toInt = 1), (by decide : (2 : Int32).toInt = 2), (by decide : (2 : Int64).toInt = 2)] at f_28 f_32 f_125 f_126 f_130; omega)
      · exact ex.trans em.symm
      · exact False.elim (by simp only [tI_lt, tI_le, tI_eq, tL_lt, tL_le, tL_eq, tWx, (by decide : (0 : Int32).toInt = 0), (by decide : (0 : Int64).toInt = 0), (by decide : (1 : Int64).toInt = 1), (by decide : (2 : Int32).toInt = 2), (by decide : (2 : Int64).toInt = 2)] at f_28 f_32 f_137 f_138 f_142; omega)
      · exact ex.trans em.symm
      · exact False.elim (by simp only [tI_lt, tI_le, tI_eq, tL_lt, tL_le, tL_eq, tWx, (by decide : (0 : Int32).toInt = 0), (by decide : (0 : Int64).toInt = 0), (by decide : (1 : Int64).toInt = 1), (by decide : (2 : Int32).toInt = 2), (by decide : (2 : Int64).toInt = 2)] at f_28 f_32 f_149 f_150 f_154; omega)
      · exact ex.trans em.symm
      · exact False.elim (by simp only [tI_lt, tI_le, tI_eq, tL_lt, tL_le, tL_eq, tWx, (by decide : (0 : Int32).toInt = 0), (by decide : (0 : Int64).toInt = 0), (by decide : (1 : Int64).toInt = 1), (by decide : (2 : Int32).toInt = 2), (by decide : (2 : Int64).toInt = 2)] at f_28 f_32 f_161 f_162 f_166; omega)
      · exact ex.trans em.symm
      · exact False.elim (by simp only [tI_lt, tI_le, tI_eq, tL_lt, tL_le, tL_eq, tWx, (by decide : (0 : Int32).toInt = 0), (by decide : (0 : Int64).toInt = 0), (by decide : (1 : Int64).toInt = 1), (by decide : (2 : Int32).toInt = 2), (by decide : (2 : Int64).toInt = 2)] at f_28 f_32 f_173 f_174 f_178; omega)
      · exact ex.trans em.symm
      · exact False.elim (by simp only [tI_lt, tI_le, tI_eq, tL_lt, tL_le, tL_eq, tWx, (by decide : (0 : Int32).toInt = 0), (by decide : (0 : Int64).toInt = 0), (by decide : (1 : Int64).toInt = 1), (by decide : (2 : Int32).toInt = 2), (by decide : (2 : Int64).toInt = 2)] at f_28 f_32 f_185 f_186 f_190; omega)
      · exact ex.trans em.symm
      · exact False.elim (by simp only [tI_lt, tI_le, tI_eq, tL_lt, tL_le, tL_eq, tWx, (by decide : (0 : Int32).toInt = 0), (by decide : (0 : Int64).toInt = 0), (by decide : (1 : Int64).toInt = 1), (by decide : (2 : Int32).toInt = 2), (by decide : (2 : Int64).toInt = 2)] at f_28 f_32 f_197 f_198 f_202; omega)
      · exact ex.trans em.symm
    · rcases hw2 with ⟨f_103, em, -⟩ | ⟨f_104, f_105, em, -⟩ | ⟨f_106, f_107, f_108, em, -⟩ | ⟨f_109, f_110, f_111, f_112, em, -⟩ | ⟨f_113, f_114, f_115, f_116, f_117, f_118, em, -⟩ | ⟨f_119, f_120, f_121, f_122, f_123, f_124, em, -⟩ | ⟨f_125, f_126, f_127, f_128, f_129, f_130, em, -⟩ | ⟨f_131, f_132, f_133, f_134, f_135, f_136, em, -⟩ | ⟨f_137, f_138, f_139, f_140, f_141, f_142, em, -⟩ | ⟨f_143, f_144, f_145, f_146, f_147, f_148, em, -⟩ | ⟨f_149, f_150, f_151, f_152, f_153, f_154, em, -⟩ | ⟨f_155, f_156, f_157, f_158, f_159, f_160, em, -⟩ | ⟨f_161, f_162, f_163, f_164, f_165, f_166, em, -⟩ | ⟨f_167, f_168, f_169, f_170, f_171, f_172, em, -⟩ | ⟨f_173, f_174, f_175, f_176, f_177, f_178, em, -⟩ | ⟨f_179, f_180, f_181, f_182, f_183, f_184, em, -⟩ | ⟨f_185, f_186, f_187, f_188, f_189, f_190, em, -⟩ | ⟨f_191, f_192, f_193, f_194, f_195, f_196, em, -⟩ | ⟨f_197, f_198, f_199, f_200, f_201, f_202, em, -⟩ | ⟨f_203, f_204, f_205, f_206, f_207, f_208, em, -⟩
      · exact False.elim (by simp only [tI_lt, tI_le, tI_eq, tL_lt, tL_le, tL_eq, tWx, (by decide : (0 : Int32).toInt = 0), (by decide : (0 : Int64).toInt = 0), (by decide : (2 : Int32).toInt = 2), (by decide : (2 : Int64).toInt = 2)] at f_33 f_37 f_103; omega)
      · exact False.elim (by simp only [tI_lt, tI_le, tI_eq, tL_lt, tL_le, tL_eq, tWx, (by decide : (0 : Int32).toInt = 0), (by decide : (0 : Int64).toInt = 0), (by decide : (1 : Int64).toInt = 1), (by decide : (2 : Int32).toInt = 2), (by decide : (2 : Int64).toInt = 2)] at f_33 f_37 f_104 f_105; omega)
      · exact False.elim (by simp only [tI_lt, tI_le, tI_eq, tL_lt, tL_le, tL_eq, tWx, (by decide : (0 : Int32).toInt = 0), (by decide : (0 : Int64).toInt = 0), (by decide : (1 : Int32).toInt = 1), (by decide : (1 : Int64).toInt = 1), (by decide : (4 : Int32).toInt = 4), (by decide : (7 : Int32).toInt = 7)] at f_34 f_35 f_36 f_108; omega)
      · exact False.elim (by simp only [tI_lt, tI_le, tI_eq, tL_lt, tL_le, tL_eq, tWx, (by decide : (0 : Int32).toInt = 0), (by decide : (0 : Int64).toInt = 0), (by decide : (1 : Int32).toInt = 1), (by decide : (1 : Int64).toInt = 1), (by decide : (4 : Int32).toInt = 4), (by decide : (7 : Int32).toInt = 7), (by decide : (7 : Int64).toInt = 7)] at f_34 f_35 f_36 f_111 f_112; omega)
      · exact False.elim (by simp only [tI_lt, tI_le, tI_eq, tL_lt, tL_le, tL_eq, tWx, (by decide : (0 : Int32).toInt = 0), (by decide : (0 : Int64).toInt = 0), (by decide : (1 : Int64).toInt = 1), (by decide : (2 : Int32).toInt = 2), (by decide : (2 : Int64).toInt = 2)] at f_33 f_37 f_113 f_114 f_118; omega)
      · exact ex.trans em.symm
      · exact False.elim (by simp only [tI_lt, tI_le, tI_eq, tL_lt, tL_le, tL_eq, tWx, (by decide : (0 : Int32).toInt = 0), (by decide : (0 : Int64).toInt = 0), (by decide : (1 : Int64).toInt = 1), (by decide : (2 : Int32).toInt = 2), (by decide : (2 : Int64).toInt = 2)] at f_33 f_37 f_125 f_126 f_130; omega)
      · exact ex.trans em.symm
      · exact False.elim (by simp only [tI_lt, tI_le, tI_eq, tL_lt, tL_le, tL_eq, tWx, (by decide : (0 : Int32).toInt = 0), (by decide : (0 : Int64).toInt = 0), (by decide : (1 : Int64).toInt = 1), (by decide : (2 : Int32).toInt = 2), (by decide : (2 : Int64).toInt = 2)] at f_33 f_37 f_137 f_138 f_142; omega)
      · exact ex.trans em.symm
      · exact False.elim (by simp only [tI_lt, tI_le, tI_eq, tL_lt, tL_le, tL_eq, tWx, (by decide : (0 : Int32).toInt = 0), (by decide : (0 : Int64).toInt = 0), (by decide : (1 : Int64).toInt = 1), (by decide : (2 : Int32).toInt = 2), (by decide : (2 : Int64).toInt = 2)] at f_33 f_37 f_149 f_150 f_154; omega)
      · exact ex.trans em.symm
      · exact False.elim (by simp only [tI_lt, tI_le, tI_eq, tL_lt, tL_le, tL_eq, tWx, (by decide : (0 : Int32).toInt = 0), (by decide : (0 : Int64).toInt = 0), (by decide : (1 : Int64).toInt = 1), (by decide : (2 : Int32).toInt = 2), (by decide : (2 : Int64).toInt = 2)] at f_33 f_37 f_161 f_162 f_166; omega)
      · exact ex.trans em.symm
      · exact False.elim (by simp only [tI_lt, tI_le, tI_eq, tL_lt, tL_le, tL_eq, tWx, (by decide : (0 : Int32).toInt = 0), (by decide : (0 : Int64).toInt = 0), (by decide : (1 : Int64).toInt = 1), (by decide : (2 : Int32).toInt = 2), (by decide : (2 : Int64).toInt = 2)] at f_33 f_37 f_173 f_174 f_178; omega)
      · exact ex.trans em.symm
      · exact False.elim (by simp only [tI_lt, tI_le, tI_eq, tL_lt, tL_le, tL_eq, tWx, (by decide : (0 : Int32).toInt = 0), (by decide : (0 : Int64).toInt = 0), (by decide : (1 : Int64).toInt = 1), (by decide : (2 : Int32).toInt = 2), (by decide : (2 : Int64).toInt = 2)] at f_33 f_37 f_185 f_186 f_190; omega)
      · exact ex.trans em.symm
      · exact False.elim (by simp only [tI_lt, tI_le, tI_eq, tL_lt, tL_le, tL_eq, tWx, (by decide : (0 : Int32).toInt = 0), (by decide : (0 : Int64).toInt = 0), (by decide : (1 : Int64).toInt = 1), (by decide : (2 : Int32).toInt = 2), (by decide : (2 : Int64).toInt = 2)] at f_33 f_37 f_197 f_198 f_202; omega)
      · exact ex.trans em.symm
    · rcases hw2 with ⟨f_103, em, -⟩ | ⟨f_104, f_105, em, -⟩ | ⟨f_106, f_107, f_108, em, -⟩ | ⟨f_109, f_110, f_111, f_112, em, -⟩ | ⟨f_113, f_114, f_115, f_116, f_117, f_118, em, -⟩ | ⟨f_119, f_120, f_121, f_122, f_123, f_124, em, -⟩ | ⟨f_125, f_126, f_127, f_128, f_129, f_130, em, -⟩ | ⟨f_131, f_132, f_133, f_134, f_135, f_136, em, -⟩ | ⟨f_137, f_138, f_139, f_140, f_141, f_142, em, -⟩ | ⟨f_143, f_144, f_145, f_146, f_147, f_148, em, -⟩ | ⟨f_149, f_150, f_151, f_152, f_153, f_154, em, -⟩ | ⟨f_155, f_156, f_157, f_158, f_159, f_160, em, -⟩ | ⟨f_161, f_162, f_163, f_164, f_165, f_166, em, -⟩ | ⟨f_167, f_168, f_169, f_170, f_171, f_172, em, -⟩ | ⟨f_173, f_174, f_175, f_176, f_177, f_178, em, -⟩ | ⟨f_179, f_180, f_181, f_182, f_183, f_184, em, -⟩ | ⟨f_185, f_186, f_187, f_188, f_189, f_190, em, -⟩ | ⟨f_191, f_192, f_193, f_194, f_195, f_196, em, -⟩ | ⟨f_197, f_198, f_199, f_200, f_201, f_202, em, -⟩ | ⟨f_203, f_204, f_205, f_206, f_207, f_208, em, -⟩
      · exact False.elim (by simp only [tI_lt, tI_le, tI_eq, tL_lt, tL_le, tL_eq, tWx, (by decide : (0 : Int32).toInt = 0), (by decide : (0 : Int64).toInt = 0), (by decide : (2 : Int32).toInt = 2), (by decide : (2 : Int64).toInt = 2)] at f_38 f_42 f_103; omega)
      · exact False.elim (by simp only [tI_lt, tI_le, tI_eq, tL_lt, tL_le, tL_eq, tWx, (by decide : (0 : Int32).toInt = 0), (by decide : (0 : Int64).toInt = 0), (by decide : (1 : Int64).toInt = 1), (by decide : (2 : Int32).toInt = 2), (by decide : (2 : Int64).toInt = 2)] at f_38 f_42 f_104 f_105; omega)
      · exact False.elim (by simp only [tI_lt, tI_le, tI_eq, tL_lt, tL_le, tL_eq, tWx, (by decide : (0 : Int32).toInt = 0), (by decide : (0 : Int64).toInt = 0), (by decide : (1 : Int32).toInt = 1), (by decide : (1 : Int64).toInt = 1), (by decide : (5 : Int32).toInt = 5), (by decide : (7 : Int32).toInt = 7)] at f_39 f_40 f_41 f_108; omega)
      · exact False.elim (by simp only [tI_lt, tI_le, tI_eq, tL_lt, tL_le, tL_eq, tWx, (by decide : (0 : Int32).toInt = 0), (by decide : (0 : Int64).toInt = 0), (by decide : (1 : Int32).toInt = 1), (by decide : (1 : Int64).toInt = 1), (by decide : (5 : Int32).toInt = 5), (by decide : (7 : Int32).toInt = 7), (by decide : (7 : Int64).toInt = 7)] at f_39 f_40 f_41 f_111 f_112; omega)
      · exact False.elim (by simp only [tI_lt, tI_le, tI_eq, tL_lt, tL_le, tL_eq, tWx, (by decide : (0 : Int32).toInt = 0), (by decide : (0 : Int64).toInt = 0), (by decide : (1 : Int64).toInt = 1), (by decide : (2 : Int32).toInt = 2), (by decide : (2 : Int64).toInt = 2)] at f_38 f_42 f_113 f_114 f_118; omega)
      · exact ex.trans em.symm
      · exact False.elim (by simp only [tI_lt, tI_le, tI_eq, tL_lt, tL_le, tL_eq, tWx, (by decide : (0 : Int32).toInt = 0), (by decide : (0 : Int64).toInt = 0), (by decide : (1 : Int64).toInt = 1), (by decide : (2 : Int32).toInt = 2), (by decide : (2 : Int64).toInt = 2)] at f_38 f_42 f_125 f_126 f_130; omega)
      · exact ex.trans em.symm
      · exact False.elim (by simp only [tI_lt, tI_le, tI_eq, tL_lt, tL_le, tL_eq, tWx, (by decide : (0 : Int32).toInt = 0), (by decide : (0 : Int64).toInt = 0), (by decide : (1 : Int64).toInt = 1), (by decide : (2 : Int32).toInt = 2), (by decide : (2 : Int64).toInt = 2)] at f_38 f_42 f_137 f_138 f_142; omega)
      · exact ex.trans em.symm
      · exact False.elim (by simp only [tI_lt, tI_le, tI_eq, tL_lt, tL_le, tL_eq, tWx, (by decide : (0 : Int32).toInt = 0), (by decide : (0 : Int64).toInt = 0), (by decide : (1 : Int64).toInt = 1), (by decide : (2 : Int32).toInt = 2), (by decide : (2 : Int64).toInt = 2)] at f_38 f_42 f_149 f_150 f_154; omega)
      · exact ex.trans em.symm
      · exact False.elim (by simp only [tI_lt, tI_le, tI_eq, tL_lt, tL_le, tL_eq, tWx, (by decide : (0 : Int32).toInt = 0), (by decide : (0 : Int64).toInt = 0), (by decide : (1 : Int64).toInt = 1), (by decide : (2 : Int32).toInt = 2), (by decide : (2 : Int64).toInt = 2)] at f_38 f_42 f_161 f_162 f_166; omega)
      · exact ex.trans em.symm
      · exact False.elim (by simp only [tI_lt, tI_le, tI_eq, tL_lt, tL_le, tL_eq, tWx, (by decide : (0 : Int32).toInt = 0), (by decide : (0 : Int64).toInt = 0), (by decide : (1 : Int64).toInt = 1), (by decide : (2 : Int32).toInt = 2), (by decide : (2 : Int64).toInt = 2)] at f_38 f_42 f_173 f_174 f_178; omega)
      · exact ex.trans em.symm
      · exact False.elim (by simp only [tI_lt, tI_le, tI_eq, tL_lt, tL_le, tL_eq, tWx, (by decide : (0 : Int32).toInt = 0), (by decide : (0 : Int64).toInt = 0), (by decide : (1 : Int64).toInt = 1), (by decide : (2 : Int32).toInt = 2), (by decide : (2 : Int64).toInt = 2)] at f_38 f_42 f_185 f_186 f_190; omega)
      · exact ex.trans em.symm
      · exact False.elim (by simp only [tI_lt, tI_le, tI_eq, tL_lt, tL_le, tL_eq, tWx, (by decide : (0 : Int32).toInt = 0), (by decide : (0 : Int64).toInt = 0), (by decide : (1 : Int64).toInt = 1), (by decide : (2 : Int32).toInt = 2), (by decide : (2 : Int64).toInt = 2)] at f_38 f_42 f_197 f_198 f_202; omega)
      · exact ex.trans em.symm
    · rcases hw2 with ⟨f_103, em, -⟩ | ⟨f_104, f_105, em, -⟩ | ⟨f_106, f_107, f_108, em, -⟩ | ⟨f_109, f_110, f_111, f_112, em, -⟩ | ⟨f_113, f_114, f_115, f_116, f_117, f_118, em, -⟩ | ⟨f_119, f_120, f_121, f_122, f_123, f_124, em, -⟩ | ⟨f_125, f_126, f_127, f_128, f_129, f_130, em, -⟩ | ⟨f_131, f_132, f_133, f_134, f_135, f_136, em, -⟩ | ⟨f_137, f_138, f_139, f_140, f_141, f_142, em, -⟩ | ⟨f_143, f_144, f_145, f_146, f_147, f_148, em, -⟩ | ⟨f_149, f_150, f_151, f_152, f_153, f_154, em, -⟩ | ⟨f_155, f_156, f_157, f_158, f_159, f_160, em, -⟩ | ⟨f_161, f_162, f_163, f_164, f_165, f_166, em, -⟩ | ⟨f_167, f_168, f_169, f_170, f_171, f_172, em, -⟩ | ⟨f_173, f_174, f_175, f_176, f_177, f_178, em, -⟩ | ⟨f_179, f_180, f_181, f_182, f_183, f_184, em, -⟩ | ⟨f_185, f_186, f_187, f_188, f_189, f_190, em, -⟩ | ⟨f_191, f_192, f_193, f_194, f_195, f_196, em, -⟩ | ⟨f_197, f_198, f_199, f_200, f_201, f_202, em, -⟩ | ⟨f_203, f_204, f_205, f_206, f_207, f_208, em, -⟩
      · exact False.elim (by simp only [tI_lt, tI_le, tI_eq, tL_lt, tL_le, tL_eq, tWx, (by decide : (0 : Int32).toInt = 0), (by decide : (0 : Int64).toInt = 0), (by decide : (2 : Int32).toInt = 2), (by decide : (2 : Int64).toInt = 2)] at f_43 f_47 f_103; omega)
      · exact False.elim (by simp only [tI_lt, tI_le, tI_eq, tL_lt, tL_le, tL_eq, tWx, (by decide : (0 : Int32).toInt = 0), (by decide : (0 : Int64).toInt = 0), (by decide : (1 : Int64).toInt = 1), (by decide : (2 : Int32).toInt = 2), (by decide : (2 : Int64).toInt = 2)] at f_43 f_47 f_104 f_105; omega)
      · exact False.elim (by simp only [tI_lt, tI_le, tI_eq, tL_lt, tL_le, tL_eq, tWx, (by decide : (0 : Int32).toInt = 0), (by decide : (0 : Int64).toInt = 0), (by decide : (1 : Int32).toInt = 1), (by decide : (1 : Int64).toInt = 1), (by decide : (6 : Int32).toInt = 6), (by decide : (7 : Int32).toInt = 7)] at f_44 f_45 f_46 f_108; omega)
      · exact False.elim (by simp only [tI_lt, tI_le, tI_eq, tL_lt, tL_le, tL_eq, tWx, (by decide : (0 : Int32).toInt = 0), (by decide : (0 : Int64).toInt = 0), (by decide : (1 : Int32).toInt = 1), (by decide : (1 : Int64).toInt = 1), (by decide : (6 : Int32).toInt = 6), (by decide : (7 : Int32).toInt = 7), (by decide : (7 : Int64).toInt = 7)] at f_44 f_45 f_46 f_111 f_112; omega)
      · exact False.elim (by simp only [tI_lt, tI_le, tI_eq, tL_lt, tL_le, tL_eq, tWx, (by decide : (0 : Int32).toInt = 0), (by decide : (0 : Int64).toInt = 0), (by decide : (1 : Int64).toInt = 1), (by decide : (2 : Int32).toInt = 2), (by decide : (2 : Int64).toInt = 2)] at f_43 f_47 f_113 f_114 f_118; omega)
      · exact ex.trans em.symm
      · exact False.elim (by simp only [tI_lt, tI_le, tI_eq, tL_lt, tL_le, tL_eq, tWx, (by decide : (0 : Int32).toInt = 0), (by decide : (0 : Int64).toInt = 0), (by decide : (1 : Int64).toInt = 1), (by decide : (2 : Int32).toInt = 2), (by decide : (2 : Int64).toInt = 2)] at f_43 f_47 f_125 f_126 f_130; omega)
      · exact ex.trans em.symm
      · exact False.elim (by simp only [tI_lt, tI_le, tI_eq, tL_lt, tL_le, tL_eq, tWx, (by decide : (0 : Int32).toInt = 0), (by decide : (0 : Int64).toInt = 0), (by decide : (1 : Int64).toInt = 1), (by decide : (2 : Int32).toInt = 2), (by decide : (2 : Int64).toInt = 2)] at f_43 f_47 f_137 f_138 f_142; omega)
      · exact ex.trans em.symm
      · exact False.elim (by simp only [tI_lt, tI_le, tI_eq, tL_lt, tL_le, tL_eq, tWx, (by decide : (0 : Int32).toInt = 0), (by decide : (0 : Int64).toInt = 0), (by decide : (1 : Int64).toInt = 1), (by decide : (2 : Int32).toInt = 2), (by decide : (2 : Int64).toInt = 2)] at f_43 f_47 f_149 f_150 f_154; omega)
      · exact ex.trans em.symm
      · exact False.elim (by simp only [tI_lt, tI_le, tI_eq, tL_lt, tL_le, tL_eq, tWx, (by decide : (0 : Int32).toInt = 0), (by decide : (0 : Int64).toInt = 0), (by decide : (1 : Int64).toInt = 1), (by decide : (2 : Int32).toInt = 2), (by decide : (2 : Int64).toInt = 2)] at f_43 f_47 f_161 f_162 f_166; omega)
      · exact ex.trans em.symm
      · exact False.elim (by simp only [tI_lt, tI_le, tI_eq, tL_lt, tL_le, tL_eq, tWx, (by decide : (0 : Int32).toInt = 0), (by decide : (0 : Int64).toInt = 0), (by decide : (1 : Int64).toInt = 1), (by decide : (2 : Int32).toInt = 2), (by decide : (2 : Int64).toInt = 2)] at f_43 f_47 f_173 f_174 f_178; omega)
      · exact ex.trans em.symm
      · exact False.elim (by simp only [tI_lt, tI_le, tI_eq, tL_lt, tL_le, tL_eq, tWx, (by decide : (0 : Int32).toInt = 0), (by decide : (0 : Int64).toInt = 0), (by decide : (1 : Int64).toInt = 1), (by decide : (2 : Int32).toInt = 2), (by decide : (2 : Int64).toInt = 2)] at f_43 f_47 f_185 f_186 f_190; omega)
      · exact ex.trans em.symm
      · exact False.elim (by simp only [tI_lt, tI_le, tI_eq, tL_lt, tL_le, tL_eq, tWx, (by decide : (0 : Int32).toInt = 0), (by decide : (0 : Int64).toInt = 0), (by decide : (1 : Int64).toInt = 1), (by decide : (2 : Int32).toInt = 2), (by decide : (2 : Int64).toInt = 2)] at f_43 f_47 f_197 f_198 f_202; omega)
      · exact ex.trans em.symm
    · rcases hw2 with ⟨f_103, em, -⟩ | ⟨f_104, f_105, em, -⟩ | ⟨f_106, f_107, f_108, em, -⟩ | ⟨f_109, f_110, f_111, f_112, em, -⟩ | ⟨f_113, f_114, f_115, f_116, f_117, f_118, em, -⟩ | ⟨f_119, f_120, f_121, f_122, f_123, f_124, em, -⟩ | ⟨f_125, f_126, f_127, f_128, f_129, f_130, em, -⟩ | ⟨f_131, f_132, f_133, f_134, f_135, f_136, em, -⟩ | ⟨f_137, f_138, f_139, f_140, f_141, f_142, em, -⟩ | ⟨f_143, f_144, f_145, f_146, f_147, f_148, em, -⟩ | ⟨f_149, f_150, f_151, f_152, f_153, f_154, em, -⟩ | ⟨f_155, f_156, f_157, f_158, f_159, f_160, em, -⟩ | ⟨f_161, f_162, f_163, f_164, f_165, f_166, em, -⟩ | ⟨f_167, f_168, f_169, f_170, f_171, f_172, em, -⟩ | ⟨f_173, f_174, f_175, f_176, f_177, f_178, em, -⟩ | ⟨f_179, f_180, f_181, f_182, f_183, f_184, em, -⟩ | ⟨f_185, f_186, f_187, f_188, f_189, f_190, em, -⟩ | ⟨f_191, f_192, f_193, f_194, f_195, f_196, em, -⟩ | ⟨f_197, f_198, f_199, f_200, f_201, f_202, em, -⟩ | ⟨f_203, f_204, f_205, f_206, f_207, f_208, em, -⟩
      · exact False.elim (by simp only [tI_lt, tI_le, tI_eq, tL_lt, tL_le, tL_eq, tWx, (by decide : (0 : Int32).toInt = 0), (by decide : (0 : Int64).toInt = 0), (by decide : (2 : Int32).toInt = 2), (by decide : (2 : Int64).toInt = 2)] at f_48 f_52 f_103; omega)
      · exact False.elim (by simp only [tI_lt, tI_le, tI_eq, tL_lt, tL_le, tL_eq, tWx, (by decide : (0 : Int32).toInt = 0), (by decide : (0 : Int64).toInt = 0), (by decide : (1 : Int64).toInt = 1), (by decide : (2 : Int32).toInt = 2), (by decide : (2 : Int64).toInt = 2)] at f_48 f_52 f_104 f_105; omega)
      · exact False.elim (by simp only [tI_lt, tI_le, tI_eq, tL_lt, tL_le, tL_eq, tWx, (by decide : (0 : Int32).toInt = 0), (by decide : (0 : Int64).toInt = 0), (by decide : (1 : Int32).toInt = 1), (by decide : (1 : Int64).toInt = 1), (by decide : (7 : Int32).toInt = 7)] at f_49 f_50 f_51 f_108; omega)
      · exact False.elim (by simp only [tI_lt, tI_le, tI_eq, tL_lt, tL_le, tL_eq, tWx, (by decide : (0 : Int32).toInt = 0), (by decide : (0 : Int64).toInt = 0), (by decide : (1 : Int32).toInt = 1), (by decide : (1 : Int64).toInt = 1), (by decide : (7 : Int32).toInt = 7), (by decide : (7 : Int64).toInt = 7)] at f_49 f_50 f_51 f_111 f_112; omega)
      · exact False.elim (by simp only [tI_lt, tI_le, tI_eq, tL_lt, tL_le, tL_eq, tWx, (by decide : (0 : Int32).toInt = 0), (by decide : (0 : Int64).toInt = 0), (by decide : (1 : Int64).toInt = 1), (by decide : (2 : Int32).toInt = 2), (by decide : (2 : Int64).toInt = 2)] at f_48 f_52 f_113 f_114 f_118; omega)
      · exact ex.trans em.symm
      · exact False.elim (by simp only [tI_lt, tI_le, tI_eq, tL_lt, tL_le, tL_eq, tWx, (by decide : (0 : Int32).toInt = 0), (by decide : (0 : Int64).toInt = 0), (by decide : (1 : Int64).toInt = 1), (by decide : (2 : Int32).toInt = 2), (by decide : (2 : Int64).toInt = 2)] at f_48 f_52 f_125 f_126 f_130; omega)
      · exact ex.trans em.symm
      · exact False.elim (by simp only [tI_lt, tI_le, tI_eq, tL_lt, tL_le, tL_eq, tWx, (by decide : (0 : Int32).toInt = 0), (by decide : (0 : Int64).toInt = 0), (by decide : (1 : Int64).toInt = 1), (by decide : (2 : Int32).toInt = 2), (by decide : (2 : Int64).toInt = 2)] at f_48 f_52 f_137 f_138 f_142; omega)
      · exact ex.trans em.symm
      · exact False.elim (by simp only [tI_lt, tI_le, tI_eq, tL_lt, tL_le, tL_eq, tWx, (by decide : (0 : Int32).toInt = 0), (by decide : (0 : Int64).toInt = 0), (by decide : (1 : Int64).toInt = 1), (by decide : (2 : Int32).toInt = 2), (by decide : (2 : Int64).toInt = 2)] at f_48 f_52 f_149 f_150 f_154; omega)
      · exact ex.trans em.symm
      · exact False.elim (by simp only [tI_lt, tI_le, tI_eq, tL_lt, tL_le, tL_eq, tWx, (by decide : (0 : Int32).toInt = 0), (by decide : (0 : Int64).toInt = 0), (by decide : (1 : Int64).toInt = 1), (by decide : (2 : Int32).toInt = 2), (by decide : (2 : Int64).toInt = 2)] at f_48 f_52 f_161 f_162 f_166; omega)
      · exact ex.trans em.symm
      · exact False.elim (by simp only [tI_lt, tI_le, tI_eq, tL_lt, tL_le, tL_eq, tWx, (by decide : (0 : Int32).toInt = 0), (by decide : (0 : Int64).toInt = 0), (by decide : (1 : Int64).toInt = 1), (by decide : (2 : Int32).toInt = 2), (by decide : (2 : Int64).toInt = 2)] at f_48 f_52 f_173 f_174 f_178; omega)
      · exact ex.trans em.symm
      · exact False.elim (by simp only [tI_lt, tI_le, tI_eq, tL_lt, tL_le, tL_eq, tWx, (by decide : (0 : Int32).toInt = 0), (by decide : (0 : Int64).toInt = 0), (by decide : (1 : Int64).toInt = 1), (by decide : (2 : Int32).toInt = 2), (by decide : (2 : Int64).toInt = 2)] at f_48 f_52 f_185 f_186 f_190; omega)
      · exact ex.trans em.symm
      · exact False.elim (by simp only [tI_lt, tI_le, tI_eq, tL_lt, tL_le, tL_eq, tWx, (by decide : (0 : Int32).toInt = 0), (by decide : (0 : Int64).toInt = 0), (by decide : (1 : Int64).toInt = 1), (by decide : (2 : Int32).toInt = 2), (by decide : (2 : Int64).toInt = 2)] at f_48 f_52 f_197 f_198 f_202; omega)
      · exact ex.trans em.symm
    · rcases hw2 with ⟨f_103, em, -⟩ | ⟨f_104, f_105, em, -⟩ | ⟨f_106, f_107, f_108, em, -⟩ | ⟨f_109, f_110, f_111, f_112, em, -⟩ | ⟨f_113, f_114, f_115, f_116, f_117, f_118, em, -⟩ | ⟨f_119, f_120, f_121, f_122, f_123, f_124, em, -⟩ | ⟨f_125, f_126, f_127, f_128, f_129, f_130, em, -⟩ | ⟨f_131, f_132, f_133, f_134, f_135, f_136, em, -⟩ | ⟨f_137, f_138, f_139, f_140, f_141, f_142, em, -⟩ | ⟨f_143, f_144, f_145, f_146, f_147, f_148, em, -⟩ | ⟨f_149, f_150, f_151, f_152, f_153, f_154, em, -⟩ | ⟨f_155, f_156, f_157, f_158, f_159, f_160, em, -⟩ | ⟨f_161, f_162, f_163, f_164, f_165, f_166, em, -⟩ | ⟨f_167, f_168, f_169, f_170, f_171, f_172, em, -⟩ | ⟨f_173, f_174, f_175, f_176, f_177, f_178, em, -⟩ | ⟨f_179, f_180, f_181, f_182, f_183, f_184, em, -⟩ | ⟨f_185, f_186, f_187, f_188, f_189, f_190, em, -⟩ | ⟨f_191, f_192, f_193, f_194, f_195, f_196, em, -⟩ | ⟨f_197, f_198, f_199, f_200, f_201, f_202, em, -⟩ | ⟨f_203, f_204, f_205, f_206, f_207, f_208, em, -⟩
      · exact False.elim (by simp only [tI_lt, tI_le, tI_eq, tL_lt, tL_le, tL_eq, tWx, (by decide : (0 : Int32).toInt = 0), (by decide : (0 : Int64).toInt = 0), (by decide : (1 : Int32).toInt = 1), (by decide : (2 : Int32).toInt = 2), (by decide : (2 : Int64).toInt = 2)] at f_53 f_54 f_58 f_103; omega)
      · exact False.elim (by simp only [tI_lt, tI_le, tI_eq, tL_lt, tL_le, tL_eq, tWx, (by decide : (0 : Int32).toInt = 0), (by decide : (0 : Int64).toInt = 0), (by decide : (1 : Int32).toInt = 1), (by decide : (1 : Int64).toInt = 1), (by decide : (2 : Int32).toInt = 2), (by decide : (2 : Int64).toInt = 2)] at f_53 f_54 f_58 f_104 f_105; omega)
      · exact False.elim (by simp only [tI_lt, tI_le, tI_eq, tL_lt, tL_le, tL_eq, tWx, (by decide : (0 : Int32).toInt = 0), (by decide : (0 : Int64).toInt = 0), (by decide : (1 : Int32).toInt = 1), (by decide : (1 : Int64).toInt = 1), (by decide : (7 : Int32).toInt = 7)] at f_55 f_56 f_57 f_108; omega)
      · exact False.elim (by simp only [tI_lt, tI_le, tI_eq, tL_lt, tL_le, tL_eq, tWx, (by decide : (0 : Int32).toInt = 0), (by decide : (0 : Int64).toInt = 0), (by decide : (1 : Int32).toInt = 1), (by decide : (1 : Int64).toInt = 1), (by decide : (7 : Int32).toInt = 7), (by decide : (7 : Int64).toInt = 7)] at f_55 f_56 f_57 f_111 f_112; omega)
      · exact ex.trans em.symm
      · exact False.elim (by simp only [tI_lt, tI_le, tI_eq, tL_lt, tL_le, tL_eq, tWx, (by decide : (0 : Int32).toInt = 0), (by decide : (0 : Int64).toInt = 0), (by decide : (1 : Int32).toInt = 1), (by decide : (1 : Int64).toInt = 1), (by decide : (2 : Int32).toInt = 2), (by decide : (2 : Int64).toInt = 2)] at f_53 f_54 f_58 f_119 f_120 f_124; omega)
      · exact ex.trans em.symm
      · exact False.elim (by simp only [tI_lt, tI_le, tI_eq, tL_lt, tL_le, tL_eq, tWx, (by decide : (0 : Int32).toInt = 0), (by decide : (0 : Int64).toInt = 0), (by decide : (1 : Int32).toInt = 1), (by decide : (1 : Int64).toInt = 1), (by decide : (2 : Int32).toInt = 2), (by decide : (2 : Int64).toInt = 2)] at f_53 f_54 f_58 f_131 f_132 f_136; omega)
      · exact ex.trans em.symm
      · exact False.elim (by simp only [tI_lt, tI_le, tI_eq, tL_lt, tL_le, tL_eq, tWx, (by decide : (0 : Int32).toInt = 0), (by decide : (0 : Int64).toInt = 0), (by decide : (1 : Int32).toInt = 1), (by decide : (1 : Int64).toInt = 1), (by decide : (2 : Int32).toInt = 2), (by decide : (2 : Int64).toInt = 2)] at f_53 f_54 f_58 f_143 f_144 f_148; omega)
      · exact ex.trans em.symm
      · exact False.elim (by simp only [tI_lt, tI_le, tI_eq, tL_lt, tL_le, tL_eq, tWx, (by decide : (0 : Int32).toInt = 0), (by decide : (0 : Int64).toInt = 0), (by decide : (1 : Int32).toInt = 1), (by decide : (1 : Int64).toInt = 1), (by decide : (2 : Int32).toInt = 2), (by decide : (2 : Int64).toInt = 2)] at f_53 f_54 f_58 f_155 f_156 f_160; omega)
      · exact ex.trans em.symm
      · exact False.elim (by simp only [tI_lt, tI_le, tI_eq, tL_lt, tL_le, tL_eq, tWx, (by decide : (0 : Int32).toInt = 0), (by decide : (0 : Int64).toInt = 0), (by decide : (1 : Int32).toInt = 1), (by decide : (1 : Int64).toInt = 1), (by decide : (2 : Int32).toInt = 2), (by decide : (2 : Int64).toInt = 2)] at f_53 f_54 f_58 f_167 f_168 f_172; omega)
      · exact ex.trans em.symm
      · exact False.elim (by simp only [tI_lt, tI_le, tI_eq, tL_lt, tL_le, tL_eq, tWx, (by decide : (0 : Int32).toInt = 0), (by decide : (0 : Int64).toInt = 0), (by decide : (1 : Int32).toInt = 1), (by decide : (1 : Int64).toInt = 1), (by decide : (2 : Int32).toInt = 2), (by decide : (2 : Int64).toInt = 2)] at f_53 f_54 f_58 f_179 f_180 f_184; omega)
      · exact ex.trans em.symm
      · exact False.elim (by simp only [tI_lt, tI_le, tI_eq, tL_lt, tL_le, tL_eq, tWx, (by decide : (0 : Int32).toInt = 0), (by decide : (0 : Int64).toInt = 0), (by decide : (1 : Int32).toInt = 1), (by decide : (1 : Int64).toInt = 1), (by decide : (2 : Int32).toInt = 2), (by decide : (2 : Int64).toInt = 2)] at f_53 f_54 f_58 f_191 f_192 f_196; omega)
      · exact ex.trans em.symm
      · exact False.elim (by simp only [tI_lt, tI_le, tI_eq, tL_lt, tL_le, tL_eq, tWx, (by decide : (0 : Int32).toInt = 0), (by decide : (0 : Int64).toInt = 0), (by decide : (1 : Int32).toInt = 1), (by decide : (1 : Int64).toInt = 1), (by decide : (2 : Int32).toInt = 2), (by decide : (2 : Int64).toInt = 2)] at f_53 f_54 f_58 f_203 f_204 f_208; omega)
    · rcases hw2 with ⟨f_103, em, -⟩ | ⟨f_104, f_105, em, -⟩ | ⟨f_106, f_107, f_108, em, -⟩ | ⟨f_109, f_110, f_111, f_112, em, -⟩ | ⟨f_113, f_114, f_115, f_116, f_117, f_118, em, -⟩ | ⟨f_119, f_120, f_121, f_122, f_123, f_124, em, -⟩ | ⟨f_125, f_126, f_127, f_128, f_129, f_130, em, -⟩ | ⟨f_131, f_132, f_133, f_134, f_135, f_136, em, -⟩ | ⟨f_137, f_138, f_139, f_140, f_141, f_142, em, -⟩ | ⟨f_143, f_144, f_145, f_146, f_147, f_148, em, -⟩ | ⟨f_149, f_150, f_151, f_152, f_153, f_154, em, -⟩ | ⟨f_155, f_156, f_157, f_158, f_159, f_160, em, -⟩ | ⟨f_161, f_162, f_163, f_164, f_165, f_166, em, -⟩ | ⟨f_167, f_168, f_169, f_170, f_171, f_172, em, -⟩ | ⟨f_173, f_174, f_175, f_176, f_177, f_178, em, -⟩ | ⟨f_179, f_180, f_181, f_182, f_183, f_184, em, -⟩ | ⟨f_185, f_186, f_187, f_188, f_189, f_190, em, -⟩ | ⟨f_191, f_192, f_193, f_194, f_195, f_196, em, -⟩ | ⟨f_197, f_198, f_199, f_200, f_201, f_202, em, -⟩ | ⟨f_203, f_204, f_205, f_206, f_207, f_208, em, -⟩
      · exact False.elim (by simp only [tI_lt, tI_le, tI_eq, tL_lt, tL_le, tL_eq, tWx, (by decide : (0 : Int32).toInt = 0), (by decide : (0 : Int64).toInt = 0), (by decide : (1 : Int32).toInt = 1), (by decide : (2 : Int32).toInt = 2), (by decide : (2 : Int64).toInt = 2)] at f_59 f_60 f_64 f_103; omega)
      · exact False.elim (by simp only [tI_lt, tI_le, tI_eq, tL_lt, tL_le, tL_eq, tWx, (by decide : (0 : Int32).toInt = 0), (by decide : (0 : Int64).toInt = 0), (by decide : (1 : Int32).toInt = 1), (by decide : (1 : Int64).toInt = 1), (by decide : (2 : Int32).toInt = 2), (by decide : (2 : Int64).toInt = 2)] at f_59 f_60 f_64 f_104 f_105; omega)
      · exact False.elim (by simp only [tI_lt, tI_le, tI_eq, tL_lt, tL_le, tL_eq, tWx, (by decide : (0 : Int32).toInt = 0), (by decide : (0 : Int64).toInt = 0), (by decide : (1 : Int32).toInt = 1), (by decide : (1 : Int64).toInt = 1), (by decide : (7 : Int32).toInt = 7)] at f_61 f_62 f_63 f_108; omega)
      · exact False.elim (by simp only [tI_lt, tI_le, tI_eq, tL_lt, tL_le, tL_eq, tWx, (by decide : (0 : Int32).toInt = 0), (by decide : (0 : Int64).toInt = 0), (by decide : (1 : Int32).toInt = 1), (by decide : (1 : Int64).toInt = 1), (by decide : (7 : Int32).toInt = 7), (by decide : (7 : Int64).toInt = 7)] at f_61 f_62 f_63 f_111 f_112; omega)
      · exact ex.trans em.symm
      · exact False.elim (by simp only [tI_lt, tI_le, tI_eq, tL_lt, tL_le, tL_eq, tWx, (by decide : (0 : Int32).toInt = 0), (by decide : (0 : Int64).toInt = 0), (by decide : (1 : Int32).toInt = 1), (by decide : (1 : Int64).toInt = 1), (by decide : (2 : Int32).toInt = 2), (by decide : (2 : Int64).toInt = 2)] at f_59 f_60 f_64 f_119 f_120 f_124; omega)
      · exact ex.trans em.symm
      · exact False.elim (by simp only [tI_lt, tI_le, tI_eq, tL_lt, tL_le, tL_eq, tWx, (by decide : (0 : Int32).toInt = 0), (by decide : (0 : Int64).toInt = 0), (by decide : (1 : Int32).toInt = 1), (by decide : (1 : Int64).toInt = 1), (by decide : (2 : Int32).toInt = 2), (by decide : (2 : Int64).toInt = 2)] at f_59 f_60 f_64 f_131 f_132 f_136; omega)
      · exact ex.trans em.symm
      · exact False.elim (by simp only [tI_lt, tI_le, tI_eq, tL_lt, tL_le, tL_eq, tWx, (by decide : (0 : Int32).toInt = 0), (by decide : (0 : Int64).toInt = 0), (by decide : (1 : Int32).toInt = 1), (by decide : (1 : Int64).toInt = 1), (by decide : (2 : Int32).toInt = 2), (by decide : (2 : Int64).toInt = 2)] at f_59 f_60 f_64 f_143 f_144 f_148; omega)
      · exact ex.trans em.symm
      · exact False.elim (by simp only [tI_lt, tI_le, tI_eq, tL_lt, tL_le, tL_eq, tWx, (by decide : (0 : Int32).toInt = 0), (by decide : (0 : Int64).toInt = 0), (by decide : (1 : Int32).toInt = 1), (by decide : (1 : Int64).toInt = 1), (by decide : (2 : Int32).toInt = 2), (by decide : (2 : Int64).toInt = 2)] at f_59 f_60 f_64 f_155 f_156 f_160; omega)
      · exact ex.trans em.symm
      · exact False.elim (by simp only [tI_lt, tI_le, tI_eq, tL_lt, tL_le, tL_eq, tWx, (by decide : (0 : Int32).toInt = 0), (by decide : (0 : Int64).toInt = 0), (by decide : (1 : Int32).toInt = 1), (by decide : (1 : Int64).toInt = 1), (by decide : (2 : Int32).toInt = 2), (by decide : (2 : Int64).toInt = 2)] at f_59 f_60 f_64 f_167 f_168 f_172; omega)
      · exact ex.trans em.symm
      · exact False.elim (by simp only [tI_lt, tI_le, tI_eq, tL_lt, tL_le, tL_eq, tWx, (by decide : (0 : Int32).toInt = 0), (by decide : (0 : Int64).toInt = 0), (by decide : (1 : Int32).toInt = 1), (by decide : (1 : Int64).toInt = 1), (by decide : (2 : Int32).toInt = 2), (by decide : (2 : Int64).toInt = 2)] at f_59 f_60 f_64 f_179 f_180 f_184; omega)
      · exact ex.trans em.symm
      · exact False.elim (by simp only [tI_lt, tI_le, tI_eq, tL_lt, tL_le, tL_eq, tWx, (by decide : (0 : Int32).toInt = 0), (by decide : (0 : Int64).toInt = 0), (by decide : (1 : Int32).toInt = 1), (by decide : (1 : Int64).toInt = 1), (by decide : (2 : Int32).toInt = 2), (by decide : (2 : Int64).toInt = 2)] at f_59 f_60 f_64 f_191 f_192 f_196; omega)
      · exact ex.trans em.symm
      · exact False.elim (by simp only [tI_lt, tI_le, tI_eq, tL_lt, tL_le, tL_eq, tWx, (by decide : (0 : Int32).toInt = 0), (by decide : (0 : Int64).toInt = 0), (by decide : (1 : Int32).toInt = 1), (by decide : (1 : Int64).toInt = 1), (by decide : (2 : Int32).toInt = 2), (by decide : (2 : Int64).toInt = 2)] at f_59 f_60 f_64 f_203 f_204 f_208; omega)
    · rcases hw2 with ⟨f_103, em, -⟩ | ⟨f_104, f_105, em, -⟩ | ⟨f_106, f_107, f_108, em, -⟩ | ⟨f_109, f_110, f_111, f_112, em, -⟩ | ⟨f_113, f_114, f_115, f_116, f_117, f_118, em, -⟩ | ⟨f_119, f_120, f_121, f_122, f_123, f_124, em, -⟩ | ⟨f_125, f_126, f_127, f_128, f_129, f_130, em, -⟩ | ⟨f_131, f_132, f_133, f_134, f_135, f_136, em, -⟩ | ⟨f_137, f_138, f_139, f_140, f_141, f_142, em, -⟩ | ⟨f_143, f_144, f_145, f_146, f_147, f_148, em, -⟩ | ⟨f_149, f_150, f_151, f_152, f_153, f_154, em, -⟩ | ⟨f_155, f_156, f_157, f_158, f_159, f_160, em, -⟩ | ⟨f_161, f_162, f_163, f_164, f_165, f_166, em, -⟩ | ⟨f_167, f_168, f_169, f_170, f_171, f_172, em, -⟩ | ⟨f_173, f_174, f_175, f_176, f_177, f_178, em, -⟩ | ⟨f_179, f_180, f_181, f_182, f_183, f_184, em, -⟩ | ⟨f_185, f_186, f_187, f_188, f_189, f_190, em, -⟩ | ⟨f_191, f_192, f_193, f_194, f_195, f_196, em, -⟩ | ⟨f_197, f_198, f_199, f_200, f_201, f_202, em, -⟩ | ⟨f_203, f_204, f_205, f_206, f_207, f_208, em, -⟩
      · exact False.elim (by simp only [tI_lt, tI_le, tI_eq, tL_lt, tL_le, tL_eq, tWx, (by decide : (0 : Int32).toInt = 0), (by decide : (0 : Int64).toInt = 0), (by decide : (1 : Int32).toInt = 1), (by decide : (2 : Int32).toInt = 2), (by decide : (2 : Int64).toInt = 2)] at f_65 f_66 f_70 f_103; omega)
      · exact False.elim (by simp only [tI_lt, tI_le, tI_eq, tL_lt, tL_le, tL_eq, tWx, (by decide : (0 : Int32).toInt = 0), (by decide : (0 : Int64).toInt = 0), (by decide : (1 : Int32).toInt = 1), (by decide : (1 : Int64).toInt = 1), (by decide : (2 : Int32).toInt = 2), (by decide : (2 : Int64).toInt = 2)] at f_65 f_66 f_70 f_104 f_105; omega)
      · exact False.elim (by simp only [tI_lt, tI_le, tI_eq, tL_lt, tL_le, tL_eq, tWx, (by decide : (0 : Int32).toInt = 0), (by decide : (0 : Int64).toInt = 0), (by decide : (1 : Int32).toInt = 1), (by decide : (1 : Int64).toInt = 1), (by decide : (2 : Int32).toInt = 2), (by decide : (7 : Int32).toInt = 7)] at f_67 f_68 f_69 f_108; omega)
      · exact False.elim (by simp only [tI_lt, tI_le, tI_eq, tL_lt, tL_le, tL_eq, tWx, (by decide : (0 : Int32).toInt = 0), (by decide : (0 : Int64).toInt = 0), (by decide : (1 : Int32).toInt = 1), (by decide : (1 : Int64).toInt = 1), (by decide : (2 : Int32).toInt = 2), (by decide : (7 : Int32).toInt = 7), (by decide : (7 : Int64).toInt = 7)] at f_67 f_68 f_69 f_111 f_112; omega)
      · exact ex.trans em.symm
      · exact False.elim (by simp only [tI_lt, tI_le, tI_eq, tL_lt, tL_le, tL_eq, tWx, (by decide : (0 : Int32).toInt = 0), (by decide : (0 : Int64).toInt = 0), (by decide : (1 : Int32).toInt = 1), (by decide : (1 : Int64).toInt = 1), (by decide : (2 : Int32).toInt = 2), (by decide : (2 : Int64).toInt = 2)] at f_65 f_66 f_70 f_119 f_120 f_124; omega)
      · exact ex.trans em.symm
      · exact False.elim (by simp only [tI_lt, tI_le, tI_eq, tL_lt, tL_le, tL_eq, tWx, (by decide : (0 : Int32).toInt = 0), (by decide : (0 : Int64).toInt = 0), (by decide : (1 : Int32).toInt = 1), (by decide : (1 : Int64).toInt = 1), (by decide : (2 : Int32).toInt = 2), (by decide : (2 : Int64).toInt = 2)] at f_65 f_66 f_70 f_131 f_132 f_136; omega)
      · exact ex.trans em.symm
      · exact False.elim (by simp only [tI_lt, tI_le, tI_eq, tL_lt, tL_le, tL_eq, tWx, (by decide : (0 : Int32).toInt = 0), (by decide : (0 : Int64).toInt = 0), (by decide : (1 : Int32).toInt = 1), (by decide : (1 : Int64).toInt = 1), (by decide : (2 : Int32).toInt = 2), (by decide : (2 : Int64).toInt = 2)] at f_65 f_66 f_70 f_143 f_144 f_148; omega)
      · exact ex.trans em.symm
      · exact False.elim (by simp only [tI_lt, tI_le, tI_eq, tL_lt, tL_le, tL_eq, tWx, (by decide : (0 : Int32).toInt = 0), (by decide : (0 : Int64).toInt = 0), (by decide : (1 : Int32).toInt = 1), (by decide : (1 : Int64).toInt = 1), (by decide : (2 : Int32).toInt = 2), (by decide : (2 : Int64).toInt = 2)] at f_65 f_66 f_70 f_155 f_156 f_160; omega)
      · exact ex.trans em.symm
      · exact False.elim (by simp only [tI_lt, tI_le, tI_eq, tL_lt, tL_le, tL_eq, tWx, (by decide : (0 : Int32).toInt = 0), (by decide : (0 : Int64).toInt = 0), (by decide : (1 : Int32).toInt = 1), (by decide : (1 : Int64).toInt = 1), (by decide : (2 : Int32).toInt = 2), (by decide : (2 : Int64).toInt = 2)] at f_65 f_66 f_70 f_167 f_168 f_172; omega)
      · exact ex.trans em.symm
      · exact False.elim (by simp only [tI_lt, tI_le, tI_eq, tL_lt, tL_le, tL_eq, tWx, (by decide : (0 : Int32).toInt = 0), (by decide : (0 : Int64).toInt = 0), (by decide : (1 : Int32).toInt = 1), (by decide : (1 : Int64).toInt = 1), (by decide : (2 : Int32).toInt = 2), (by decide : (2 : Int64).toInt = 2)] at f_65 f_66 f_70 f_179 f_180 f_184; omega)
      · exact ex.trans em.symm
      · exact False.elim (by simp only [tI_lt, tI_le, tI_eq, tL_lt, tL_le, tL_eq, tWx, (by decide : (0 : Int32).toInt = 0), (by decide : (0 : Int64).toInt = 0), (by decide : (1 : Int32).toInt = 1), (by decide : (1 : Int64).toInt = 1), (by decide : (2 : Int32).toInt = 2), (by decide : (2 : Int64).toInt = 2)] at f_65 f_66 f_70 f_191 f_192 f_196; omega)
      · exact ex.trans em.symm
      · exact False.elim (by simp only [tI_lt, tI_le, tI_eq, tL_lt, tL_le, tL_eq, tWx, (by decide : (0 : Int32).toInt = 0), (by decide : (0 : Int64).toInt = 0), (by decide : (1 : Int32).toInt = 1), (by decide : (1 : Int64).toInt = 1), (by decide : (2 : Int32).toInt = 2), (by decide : (2 : Int64).toInt = 2)] at f_65 f_66 f_70 f_203 f_204 f_208; omega)
    · rcases hw2 with ⟨f_103, em, -⟩ | ⟨f_104, f_105, em, -⟩ | ⟨f_106, f_107, f_108, em, -⟩ | ⟨f_109, f_110, f_111, f_112, em, -⟩ | ⟨f_113, f_114, f_115, f_116, f_117, f_118, em, -⟩ | ⟨f_119, f_120, f_121, f_122, f_123, f_124, em, -⟩ | ⟨f_125, f_126, f_127, f_128, f_129, f_130, em, -⟩ | ⟨f_131, f_132, f_133, f_134, f_135, f_136, em, -⟩ | ⟨f_137, f_138, f_139, f_140, f_141, f_142, em, -⟩ | ⟨f_143, f_144, f_145, f_146, f_147, f_148, em, -⟩ | ⟨f_149, f_150, f_151, f_152, f_153, f_154, em, -⟩ | ⟨f_155, f_156, f_157, f_158, f_159, f_160, em, -⟩ | ⟨f_161, f_162, f_163, f_164, f_165, f_166, em, -⟩ | ⟨f_167, f_168, f_169, f_170, f_171, f_172, em, -⟩ | ⟨f_173, f_174, f_175, f_176, f_177, f_178, em, -⟩ | ⟨f_179, f_180, f_181, f_182, f_183, f_184, em, -⟩ | ⟨f_185, f_186, f_187, f_188, f_189, f_190, em, -⟩ | ⟨f_191, f_192, f_193, f_194, f_195, f_196, em, -⟩ | ⟨f_197, f_198, f_199, f_200, f_201, f_202, em, -⟩ | ⟨f_203, f_204, f_205, f_206, f_207, f_208, em, -⟩
      · exact False.elim (by simp only [tI_lt, tI_le, tI_eq, tL_lt, tL_le, tL_eq, tWx, (by decide : (0 : Int32).toInt = 0), (by decide : (0 : Int64).toInt = 0), (by decide : (1 : Int32).toInt = 1), (by decide : (2 : Int32).toInt = 2), (by decide : (2 : Int64).toInt = 2)] at f_71 f_72 f_76 f_103; omega)
      · exact False.elim (by simp only [tI_lt, tI_le, tI_eq, tL_lt, tL_le, tL_eq, tWx, (by decide : (0 : Int32).toInt = 0), (by decide : (0 : Int64).toInt = 0), (by decide : (1 : Int32).toInt = 1), (by decide : (1 : Int64).toInt = 1), (by decide : (2 : Int32).toInt = 2), (by decide : (2 : Int64).toInt = 2)] at f_71 f_72 f_76 f_104 f_105; omega)
      · exact False.elim (by simp only [tI_lt, tI_le, tI_eq, tL_lt, tL_le, tL_eq, tWx, (by decide : (0 : Int32).toInt = 0), (by decide : (0 : Int64).toInt = 0), (by decide : (1 : Int32).toInt = 1), (by decide : (1 : Int64).toInt = 1), (by decide : (3 : Int32).toInt = 3), (by decide : (7 : Int32).toInt = 7)] at f_73 f_74 f_75 f_108; omega)
      · exact False.elim (by simp only [tI_lt, tI_le, tI_eq, tL_lt, tL_le, tL_eq, tWx, (by decide : (0 : Int32).toInt = 0), (by decide : (0 : Int64).toInt = 0), (by decide : (1 : Int32).toInt = 1), (by decide : (1 : Int64).toInt = 1), (by decide : (3 : Int32).toInt = 3), (by decide : (7 : Int32).toInt = 7), (by decide : (7 : Int64).toInt = 7)] at f_73 f_74 f_75 f_111 f_112; omega)
      · exact ex.trans em.symm
      · exact False.elim (by simp only [tI_lt, tI_le, tI_eq, tL_lt, tL_le, tL_eq, tWx, (by decide : (0 : Int32).toInt = 0), (by decide : (0 : Int64).toInt = 0), (by decide : (1 : Int32).toInt = 1), (by decide : (1 : Int64).toInt = 1), (by decide : (2 : Int32).toInt = 2), (by decide : (2 : Int64).toInt = 2)] at f_71 f_72 f_76 f_119 f_120 f_124; omega)
      · exact ex.trans em.symm
      · exact False.elim (by simp only [tI_lt, tI_le, tI_eq, tL_lt, tL_le, tL_eq, tWx, (by decide : (0 : Int32).toInt = 0), (by decide : (0 : Int64).toInt = 0), (by decide : (1 : Int32).toInt = 1), (by decide : (1 : Int64).toInt = 1), (by decide : (2 : Int32).toInt = 2), (by decide : (2 : Int64).toInt = 2)] at f_71 f_72 f_76 f_131 f_132 f_136; omega)
      · exact ex.trans em.symm
      · exact False.elim (by simp only [tI_lt, tI_le, tI_eq, tL_lt, tL_le, tL_eq, tWx, (by decide : (0 : Int32).toInt = 0), (by decide : (0 : Int64).toInt = 0), (by decide : (1 : Int32).toInt = 1), (by decide : (1 : Int64).toInt = 1), (by decide : (2 : Int32).toInt = 2), (by decide : (2 : Int64).toInt = 2)] at f_71 f_72 f_76 f_143 f_144 f_148; omega)
      · exact ex.trans em.symm
      · exact False.elim (by simp only [tI_lt, tI_le, tI_eq, tL_lt, tL_le, tL_eq, tWx, (by decide : (0 : Int32).toInt = 0), (by decide : (0 : Int64).toInt = 0), (by decide : (1 : Int32).toInt = 1), (by decide : (1 : Int64).toInt = 1), (by decide : (2 : Int32).toInt = 2), (by decide : (2 : Int64).toInt = 2)] at f_71 f_72 f_76 f_155 f_156 f_160; omega)
      · exact ex.trans em.symm
      · exact False.elim (by simp only [tI_lt, tI_le, tI_eq, tL_lt, tL_le, tL_eq, tWx, (by decide : (0 : Int32).toInt = 0), (by decide : (0 : Int64).toInt = 0), (by decide : (1 : Int32).toInt = 1), (by decide : (1 : Int64).toInt = 1), (by decide : (2 : Int32).toInt = 2), (by decide : (2 : Int64).toInt = 2)] at f_71 f_72 f_76 f_167 f_168 f_172; omega)
      · exact ex.trans em.symm
      · exact False.elim (by simp only [tI_lt, tI_le, tI_eq, tL_lt, tL_le, tL_eq, tWx, (by decide : (0 : Int32).toInt = 0), (by decide : (0 : Int64).toInt = 0), (by decide : (1 : Int32).toInt = 1), (by decide : (1 : Int64).toInt = 1), (by decide : (2 : Int32).toInt = 2), (by decide : (2 : Int64).toInt = 2)] at f_71 f_72 f_76 f_179 f_180 f_184; omega)
      · exact ex.trans em.symm
      · exact False.elim (by simp only [tI_lt, tI_le, tI_eq, tL_lt, tL_le, tL_eq, tWx, (by decide : (0 : Int32).toInt = 0), (by decide : (0 : Int64).toInt = 0), (by decide : (1 : Int32).toInt = 1), (by decide : (1 : Int64).toInt = 1), (by decide : (2 : Int32).toInt = 2), (by decide : (2 : Int64).toInt = 2)] at f_71 f_72 f_76 f_191 f_192 f_196; omega)
      · exact ex.trans em.symm
      · exact False.elim (by simp only [tI_lt, tI_le, tI_eq, tL_lt, tL_le, tL_eq, tWx, (by decide : (0 : Int32).toInt = 0), (by decide : (0 : Int64).toInt = 0), (by decide : (1 : Int32).toInt = 1), (by decide : (1 : Int64).toInt = 1), (by decide : (2 : Int32).toInt = 2), (by decide : (2 : Int64).toInt = 2)] at f_71 f_72 f_76 f_203 f_204 f_208; omega)
    · rcases hw2 with ⟨f_103, em, -⟩ | ⟨f_104, f_105, em, -⟩ | ⟨f_106, f_107, f_108, em, -⟩ | ⟨f_109, f_110, f_111, f_112, em, -⟩ | ⟨f_113, f_114, f_115, f_116, f_117, f_118, em, -⟩ | ⟨f_119, f_120, f_121, f_122, f_123, f_124, em, -⟩ | ⟨f_125, f_126, f_127, f_128, f_129, f_130, em, -⟩ | ⟨f_131, f_132, f_133, f_134, f_135, f_136, em, -⟩ | ⟨f_137, f_138, f_139, f_140, f_141, f_142, em, -⟩ | ⟨f_143, f_144, f_145, f_146, f_147, f_148, em, -⟩ | ⟨f_149, f_150, f_151, f_152, f_153, f_154, em, -⟩ | ⟨f_155, f_156, f_157, f_158, f_159, f_160, em, -⟩ | ⟨f_161, f_162, f_163, f_164, f_165, f_166, em, -⟩ | ⟨f_167, f_168, f_169, f_170, f_171, f_172, em, -⟩ | ⟨f_173, f_174, f_175, f_176, f_177, f_178, em, -⟩ | ⟨f_179, f_180, f_181, f_182, f_183, f_184, em, -⟩ | ⟨f_185, f_186, f_187, f_188, f_189, f_190, em, -⟩ | ⟨f_191, f_192, f_193, f_194, f_195, f_196, em, -⟩ | ⟨f_197, f_198, f_199, f_200, f_201, f_202, em, -⟩ | ⟨f_203, f_204, f_205, f_206, f_207, f_208, em, -⟩
      · exact False.elim (by simp only [tI_lt, tI_le, tI_eq, tL_lt, tL_le, tL_eq, tWx, (by decide : (0 : Int32).toInt = 0), (by decide : (0 : Int64).toInt = 0), (by decide : (1 : Int32).toInt = 1), (by decide : (2 : Int32).toInt = 2), (by decide : (2 : Int64).toInt = 2)] at f_77 f_78 f_82 f_103; omega)
      · exact False.elim (by simp only [tI_lt, tI_le, tI_eq, tL_lt, tL_le, tL_eq, tWx, (by decide : (0 : Int32).toInt = 0), (by decide : (0 : Int64).toInt = 0), (by decide : (1 : Int32).toInt = 1), (by decide : (1 : Int64).toInt = 1), (by decide : (2 : Int32).toInt = 2), (by decide : (2 : Int64).toInt = 2)] at f_77 f_78 f_82 f_104 f_105; omega)
      · exact False.elim (by simp only [tI_lt, tI_le, tI_eq, tL_lt, tL_le, tL_eq, tWx, (by decide : (0 : Int32).toInt = 0), (by decide : (0 : Int64).toInt = 0), (by decide : (1 : Int32).toInt = 1), (by decide : (1 : Int64).toInt = 1), (by decide : (4 : Int32).toInt = 4), (by decide : (7 : Int32).toInt = 7)] at f_79 f_80 f_81 f_108; omega)
      · exact False.elim (by simp only [tI_lt, tI_le, tI_eq, tL_lt, tL_le, tL_eq, tWx, (by decide : (0 : Int32).toInt = 0), (by decide : (0 : Int64).toInt = 0), (by decide : (1 : Int32).toInt = 1), (by decide : (1 : Int64).toInt = 1), (by decide : (4 : Int32).toInt = 4), (by decide : (7 : Int32).toInt = 7), (by decide : (7 : Int64).toInt = 7)] at f_79 f_80 f_81 f_111 f_112; omega)
      · exact ex.trans em.symm
      · exact False.elim (by simp only [tI_lt, tI_le, tI_eq, tL_lt, tL_le, tL_eq, tWx, (by decide : (0 : Int32).toInt = 0), (by decide : (0 : Int64).toInt = 0), (by decide : (1 : Int32).toInt = 1), (by decide : (1 : Int64).toInt = 1), (by decide : (2 : Int32).toInt = 2), (by decide : (2 : Int64).toInt = 2)] at f_77 f_78 f_82 f_119 f_120 f_124; omega)
      · exact ex.trans em.symm
      · exact False.elim (by simp only [tI_lt, tI_le, tI_eq, tL_lt, tL_le, tL_eq, tWx, (by decide : (0 : Int32).toInt = 0), (by decide : (0 : Int64).toInt = 0), (by decide : (1 : Int32).toInt = 1), (by decide : (1 : Int64).toInt = 1), (by decide : (2 : Int32).toInt = 2), (by decide : (2 : Int64).toInt = 2)] at f_77 f_78 f_82 f_131 f_132 f_136; omega)
      · exact ex.trans em.symm
      · exact False.elim (by simp only [tI_lt, tI_le, tI_eq, tL_lt, tL_le, tL_eq, tWx, (by decide : (0 : Int32).toInt = 0), (by decide : (0 : Int64).toInt = 0), (by decide : (1 : Int32).toInt = 1), (by decide : (1 : Int64).toInt = 1), (by decide : (2 : Int32).toInt = 2), (by decide : (2 : Int64).toInt = 2)] at f_77 f_78 f_82 f_143 f_144 f_148; omega)
      · exact ex.trans em.symm
      · exact False.elim (by simp only [tI_lt, tI_le, tI_eq, tL_lt, tL_le, tL_eq, tWx, (by decide : (0 : Int32).toInt = 0), (by decide : (0 : Int64).toInt = 0), (by decide : (1 : Int32).toInt = 1), (by decide : (1 : Int64).toInt = 1), (by decide : (2 : Int32).toInt = 2), (by decide : (2 : Int64).toInt = 2)] at f_77 f_78 f_82 f_155 f_156 f_160; omega)
      · exact ex.trans em.symm
      · exact False.elim (by simp only [tI_lt, tI_le, tI_eq, tL_lt, tL_le, tL_eq, tWx, (by decide : (0 : Int32).toInt = 0), (by decide : (0 : Int64).toInt = 0), (by decide : (1 : Int32).toInt = 1), (by decide : (1 : Int64).toInt = 1), (by decide : (2 : Int32).toInt = 2), (by decide : (2 : Int64).toInt = 2)] at f_77 f_78 f_82 f_167 f_168 f_172; omega)
      · exact ex.trans em.symm
      · exact False.elim (by simp only [tI_lt, tI_le, tI_eq, tL_lt, tL_le, tL_eq, tWx, (by decide : (0 : Int32).toInt = 0), (by decide : (0 : Int64).toInt = 0), (by decide : (1 : Int32).toInt = 1), (by decide : (1 : Int64).toInt = 1), (by decide : (2 : Int32).toInt = 2), (by decide : (2 : Int64).toInt = 2)] at f_77 f_78 f_82 f_179 f_180 f_184; omega)
      · exact ex.trans em.symm
      · exact False.elim (by simp only [tI_lt, tI_le, tI_eq, tL_lt, tL_le, tL_eq, tWx, (by decide : (0 : Int32).toInt = 0), (by decide : (0 : Int64).toInt = 0), (by decide : (1 : Int32).toInt = 1), (by decide : (1 : Int64).toInt = 1), (by decide : (2 : Int32).toInt = 2), (by decide : (2 : Int64).toInt = 2)] at f_77 f_78 f_82 f_191 f_192 f_196; omega)
      · exact ex.trans em.symm
      · exact False.elim (by simp only [tI_lt, tI_le, tI_eq, tL_lt, tL_le, tL_eq, tWx, (by decide : (0 : Int32).toInt = 0), (by decide : (0 : Int64).toInt = 0), (by decide : (1 : Int32).toInt = 1), (by decide : (1 : Int64).toInt = 1), (by decide : (2 : Int32).toInt = 2), (by decide : (2 : Int64).toInt = 2)] at f_77 f_78 f_82 f_203 f_204 f_208; omega)
    · rcases hw2 with ⟨f_103, em, -⟩ | ⟨f_104, f_105, em, -⟩ | ⟨f_106, f_107, f_108, em, -⟩ | ⟨f_109, f_110, f_111, f_112, em, -⟩ | ⟨f_113, f_114, f_115, f_116, f_117, f_118, em, -⟩ | ⟨f_119, f_120, f_121, f_122, f_123, f_124, em, -⟩ | ⟨f_125, f_126, f_127, f_128, f_129, f_130, em, -⟩ | ⟨f_131, f_132, f_133, f_134, f_135, f_136, em, -⟩ | ⟨f_137, f_138, f_139, f_140, f_141, f_142, em, -⟩ | ⟨f_143, f_144, f_145, f_146, f_147, f_148, em, -⟩ | ⟨f_149, f_150, f_151, f_152, f_153, f_154, em, -⟩ | ⟨f_155, f_156, f_157, f_158, f_159, f_160, em, -⟩ | ⟨f_161, f_162, f_163, f_164, f_165, f_166, em, -⟩ | ⟨f_167, f_168, f_169, f_170, f_171, f_172, em, -⟩ | ⟨f_173, f_174, f_175, f_176, f_177, f_178, em, -⟩ | ⟨f_179, f_180, f_181, f_182, f_183, f_184, em, -⟩ | ⟨f_185, f_186, f_187, f_188, f_189, f_190, em, -⟩ | ⟨f_191, f_192, f_193, f_194, f_195, f_196, em, -⟩ | ⟨f_197, f_198, f_199, f_200, f_201, f_202, em, -⟩ | ⟨f_203, f_204, f_205, f_206, f_207, f_208, em, -⟩
      · exact False.elim (by simp only [tI_lt, tI_le, tI_eq, tL_lt, tL_le, tL_eq, tWx, (by decide : (0 : Int32).toInt = 0), (by decide : (0 : Int64).toInt = 0), (by decide : (1 : Int32).toInt = 1), (by decide : (2 : Int32).toInt = 2), (by decide : (2 : Int64).toInt = 2)] at f_83 f_84 f_88 f_103; omega)
      · exact False.elim (by simp only [tI_lt, tI_le, tI_eq, tL_lt, tL_le, tL_eq, tWx, (by decide : (0 : Int32).toInt = 0), (by decide : (0 : Int64).toInt = 0), (by decide : (1 : Int32).toInt = 1), (by decide : (1 : Int64).toInt = 1), (by decide : (2 : Int32).toInt = 2), (by decide : (2 : Int64).toInt = 2)] at f_83 f_84 f_88 f_104 f_105; omega)
      · exact False.elim (by simp only [tI_lt, tI_le, tI_eq, tL_lt, tL_le, tL_eq, tWx, (by decide : (0 : Int32).toInt = 0), (by decide : (0 : Int64).toInt = 0), (by decide : (1 : Int32).toInt = 1), (by decide : (1 : Int64).toInt = 1), (by decide : (5 : Int32).toInt = 5), (by decide : (7 : Int32).toInt = 7)] at f_85 f_86 f_87 f_108; omega)
      · exact False.elim (by simp only [tI_lt, tI_le, tI_eq, tL_lt, tL_le, tL_eq, tWx, (by decide : (0 : Int32).toInt = 0), (by decide : (0 : Int64).toInt = 0), (by decide : (1 : Int32).toInt = 1), (by decide : (1 : Int64).toInt = 1), (by decide : (5 : Int32).toInt = 5), (by decide : (7 : Int32).toInt = 7), (by decide : (7 : Int64).toInt = 7)] at f_85 f_86 f_87 f_111 f_112; omega)
      · exact ex.trans em.symm
      · exact False.elim (by simp only [tI_lt, tI_le, tI_eq, tL_lt, tL_le, tL_eq, tWx, (by decide : (0 : Int32).toInt = 0), (by decide : (0 : Int64).toInt = 0), (by decide : (1 : Int32).toInt = 1), (by decide : (1 : Int64).toInt = 1), (by decide : (2 : Int32).toInt = 2), (by decide : (2 : Int64).toInt = 2)] at f_83 f_84 f_88 f_119 f_120 f_124; omega)
      · exact ex.trans em.symm
      · exact False.elim (by simp only [tI_lt, tI_le, tI_eq, tL_lt, tL_le, tL_eq, tWx, (by decide : (0 : Int32).toInt = 0), (by decide : (0 : Int64).toInt = 0), (by decide : (1 : Int32).toInt = 1), (by decide : (1 : Int64).toInt = 1), (by decide : (2 : Int32).toInt = 2), (by decide : (2 : Int64).toInt = 2)] at f_83 f_84 f_88 f_131 f_132 f_136; omega)
      · exact ex.trans em.symm
      · exact False.elim (by simp only [tI_lt, tI_le, tI_eq, tL_lt, tL_le, tL_eq, tWx, (by decide : (0 : Int32).toInt = 0), (by decide : (0 : Int64).toInt = 0), (by decide : (1 : Int32).toInt = 1), (by decide : (1 : Int64).toInt = 1), (by decide : (2 : Int32).toInt = 2), (by decide : (2 : Int64).toInt = 2)] at f_83 f_84 f_88 f_143 f_144 f_148; omega)
      · exact ex.trans em.symm
      · exact False.elim (by simp only [tI_lt, tI_le, tI_eq, tL_lt, tL_le, tL_eq, tWx, (by decide : (0 : Int32).toInt = 0), (by decide : (0 : Int64).toInt = 0), (by decide : (1 : Int32).toInt = 1), (by decide : (1 : Int64).toInt = 1), (by decide : (2 : Int32).toInt = 2), (by decide : (2 : Int64).toInt = 2)] at f_83 f_84 f_88 f_155 f_156 f_160; omega)
      · exact ex.trans em.symm
      · exact False.elim (by simp only [tI_lt, tI_le, tI_eq, tL_lt, tL_le, tL_eq, tWx, (by decide : (0 : Int32).toInt = 0), (by decide : (0 : Int64).toInt = 0), (by decide : (1 : Int32).toInt = 1), (by decide : (1 : Int64).toInt = 1), (by decide : (2 : Int32).toInt = 2), (by decide : (2 : Int64).toInt = 2)] at f_83 f_84 f_88 f_167 f_168 f_172; omega)
      · exact ex.trans em.symm
      · exact False.elim (by simp only [tI_lt, tI_le, tI_eq, tL_lt, tL_le, tL_eq, tWx, (by decide : (0 : Int32).toInt = 0), (by decide : (0 : Int64).toInt = 0), (by decide : (1 : Int32).toInt = 1), (by decide : (1 : Int64).toInt = 1), (by decide : (2 : Int32).toInt = 2), (by decide : (2 : Int64).toInt = 2)] at f_83 f_84 f_88 f_179 f_180 f_184; omega)
      · exact ex.trans em.symm
      · exact False.elim (by simp only [tI_lt, tI_le, tI_eq, tL_lt, tL_le, tL_eq, tWx, (by decide : (0 : Int32).toInt = 0), (by decide : (0 : Int64).toInt = 0), (by decide : (1 : Int32).toInt = 1), (by decide : (1 : Int64).toInt = 1), (by decide : (2 : Int32).toInt = 2), (by decide : (2 : Int64).toInt = 2)] at f_83 f_84 f_88 f_191 f_192 f_196; omega)
      · exact ex.trans em.symm
      · exact False.elim (by simp only [tI_lt, tI_le, tI_eq, tL_lt, tL_le, tL_eq, tWx, (by decide : (0 : Int32).toInt = 0), (by decide : (0 : Int64).toInt = 0), (by decide : (1 : Int32).toInt = 1), (by decide : (1 : Int64).toInt = 1), (by decide : (2 : Int32).toInt = 2), (by decide : (2 : Int64).toInt = 2)] at f_83 f_84 f_88 f_203 f_204 f_208; omega)
    · rcases hw2 with ⟨f_103, em, -⟩ | ⟨f_104, f_105, em, -⟩ | ⟨f_106, f_107, f_108, em, -⟩ | ⟨f_109, f_110, f_111, f_112, em, -⟩ | ⟨f_113, f_114, f_115, f_116, f_117, f_118, em, -⟩ | ⟨f_119, f_120, f_121, f_122, f_123, f_124, em, -⟩ | ⟨f_125, f_126, f_127, f_128, f_129, f_130, em, -⟩ | ⟨f_131, f_132, f_133, f_134, f_135, f_136, em, -⟩ | ⟨f_137, f_138, f_139, f_140, f_141, f_142, em, -⟩ | ⟨f_143, f_144, f_145, f_146, f_147, f_148, em, -⟩ | ⟨f_149, f_150, f_151, f_152, f_153, f_154, em, -⟩ | ⟨f_155, f_156, f_157, f_158, f_159, f_160, em, -⟩ | ⟨f_161, f_162, f_163, f_164, f_165, f_166, em, -⟩ | ⟨f_167, f_168, f_169, f_170, f_171, f_172, em, -⟩ | ⟨f_173, f_174, f_175, f_176, f_177, f_178, em, -⟩ | ⟨f_179, f_180, f_181, f_182, f_183, f_184, em, -⟩ | ⟨f_185, f_186, f_187, f_188, f_189, f_190, em, -⟩ | ⟨f_191, f_192, f_193, f_194, f_195, f_196, em, -⟩ | ⟨f_197, f_198, f_199, f_200, f_201, f_202, em, -⟩ | ⟨f_203, f_204, f_205, f_206, f_207, f_208, em, -⟩
      · exact False.elim (by simp only [tI_lt, tI_le, tI_eq, tL_lt, tL_le, tL_eq, tWx, (by decide : (0 : Int32).toInt = 0), (by decide : (0 : Int64).toInt = 0), (by decide : (1 : Int32).toInt = 1), (by decide : (2 : Int32).toInt = 2), (by decide : (2 : Int64).toInt = 2)] at f_89 f_90 f_94 f_103; omega)
      · exact False.elim (by simp only [tI_lt, tI_le, tI_eq, tL_lt, tL_le, tL_eq, tWx, (by decide : (0 : Int32).toInt = 0), (by decide : (0 : Int64).toInt = 0), (by decide : (1 : Int32).toInt = 1), (by decide : (1 : Int64).toInt = 1), (by decide : (2 : Int32).toInt = 2), (by decide : (2 : Int64).toInt = 2)] at f_89 f_90 f_94 f_104 f_105; omega)
      · exact False.elim (by simp only [tI_lt, tI_le, tI_eq, tL_lt, tL_le, tL_eq, tWx, (by decide : (0 : Int32).toInt = 0), (by decide : (0 : Int64).toInt = 0), (by decide : (1 : Int32).toInt = 1), (by decide : (1 : Int64).toInt = 1), (by decide : (6 : Int32).toInt = 6), (by decide : (7 : Int32).toInt = 7)] at f_91 f_92 f_93 f_108; omega)
      · exact False.elim (by simp only [tI_lt, tI_le, tI_eq, tL_lt, tL_le, tL_eq, tWx, (by decide : (0 : Int32).toInt = 0), (by decide : (0 : Int64).toInt = 0), (by decide : (1 : Int32).toInt = 1), (by decide : (1 : Int64).toInt = 1), (by decide : (6 : Int32).toInt = 6), (by decide : (7 : Int32).toInt = 7), (by decide : (7 : Int64).toInt = 7)] at f_91 f_92 f_93 f_111 f_112; omega)
      · exact ex.trans em.symm
      · exact False.elim (by simp only [tI_lt, tI_le, tI_eq, tL_lt, tL_le, tL_eq, tWx, (by decide : (0 : Int32).toInt = 0), (by decide : (0 : Int64).toInt = 0), (by decide : (1 : Int32).toInt = 1), (by decide : (1 : Int64).toInt = 1), (by decide : (2 : Int32).toInt = 2), (by decide : (2 : Int64).toInt = 2)] at f_89 f_90 f_94 f_119 f_120 f_124; omega)
      · exact ex.trans em.symm
      · exact False.elim (by simp only [tI_lt, tI_le, tI_eq, tL_lt, tL_le, tL_eq, tWx, (by decide : (0 : Int32).toInt = 0), (by decide : (0 : Int64).toInt = 0), (by decide : (1 : Int32).toInt = 1), (by decide : (1 : Int64).toInt = 1), (by decide : (2 : Int32).toInt = 2), (by decide : (2 : Int64).toInt = 2)] at f_89 f_90 f_94 f_131 f_132 f_136; omega)
      · exact ex.trans em.symm
      · exact False.elim (by simp only [tI_lt, tI_le, tI_eq, tL_lt, tL_le, tL_eq, tWx, (by decide : (0 : Int32).toInt = 0), (by decide : (0 : Int64).toInt = 0), (by decide : (1 : Int32).toInt = 1), (by decide : (1 : Int64).toInt = 1), (by decide : (2 : Int32).toInt = 2), (by decide : (2 : Int64).toInt = 2)] at f_89 f_90 f_94 f_143 f_144 f_148; omega)
      · exact ex.trans em.symm
      · exact False.elim (by simp only [tI_lt, tI_le, tI_eq, tL_lt, tL_le, tL_eq, tWx, (by decide : (0 : Int32).toInt = 0), (by decide : (0 : Int64).toInt = 0), (by decide : (1 : Int32).toInt = 1), (by decide : (1 : Int64).toInt = 1), (by decide : (2 : Int32).toInt = 2), (by decide : (2 : Int64).toInt = 2)] at f_89 f_90 f_94 f_155 f_156 f_160; omega)
      · exact ex.trans em.symm
      · exact False.elim (by simp only [tI_lt, tI_le, tI_eq, tL_lt, tL_le, tL_eq, tWx, (by decide : (0 : Int32).toInt = 0), (by decide : (0 : Int64).toInt = 0), (by decide : (1 : Int32).toInt = 1), (by decide : (1 : Int64).toInt = 1), (by decide : (2 : Int32).toInt = 2), (by decide : (2 : Int64).toInt = 2)] at f_89 f_90 f_94 f_167 f_168 f_172; omega)
      · exact ex.trans em.symm
      · exact False.elim (by simp only [tI_lt, tI_le, tI_eq, tL_lt, tL_le, tL_eq, tWx, (by decide : (0 : Int32).toInt = 0), (by decide : (0 : Int64).toInt = 0), (by decide : (1 : Int32).toInt = 1), (by decide : (1 : Int64).toInt = 1), (by decide : (2 : Int32).toInt = 2), (by decide : (2 : Int64).toInt = 2)] at f_89 f_90 f_94 f_179 f_180 f_184; omega)
      · exact ex.trans em.symm
      · exact False.elim (by simp only [tI_lt, tI_le, tI_eq, tL_lt, tL_le, tL_eq, tWx, (by decide : (0 : Int32).toInt = 0), (by decide : (0 : Int64).toInt = 0), (by decide : (1 : Int32).toInt = 1), (by decide : (1 : Int64).toInt = 1), (by decide : (2 : Int32).toInt = 2), (by decide : (2 : Int64).toInt = 2)] at f_89 f_90 f_94 f_191 f_192 f_196; omega)
      · exact ex.trans em.symm
      · exact False.elim (by simp only [tI_lt, tI_le, tI_eq, tL_lt, tL_le, tL_eq, tWx, (by decide : (0 : Int32).toInt = 0), (by decide : (0 : Int64).toInt = 0), (by decide : (1 : Int32).toInt = 1), (by decide : (1 : Int64).toInt = 1), (by decide : (2 : Int32).toInt = 2), (by decide : (2 : Int64).toInt = 2)] at f_89 f_90 f_94 f_203 f_204 f_208; omega)
    · rcases hw2 with ⟨f_103, em, -⟩ | ⟨f_104, f_105, em, -⟩ | ⟨f_106, f_107, f_108, em, -⟩ | ⟨f_109, f_110, f_111, f_112, em, -⟩ | ⟨f_113, f_114, f_115, f_116, f_117, f_118, em, -⟩ | ⟨f_119, f_120, f_121, f_122, f_123, f_124, em, -⟩ | ⟨f_125, f_126, f_127, f_128, f_129, f_130, em, -⟩ | ⟨f_131, f_132, f_133, f_134, f_135, f_136, em, -⟩ | ⟨f_137, f_138, f_139, f_140, f_141, f_142, em, -⟩ | ⟨f_143, f_144, f_145, f_146, f_147, f_148, em, -⟩ | ⟨f_149, f_150, f_151, f_152, f_153, f_154, em, -⟩ | ⟨f_155, f_156, f_157, f_158, f_159, f_160, em, -⟩ | ⟨f_161, f_162, f_163, f_164, f_165, f_166, em, -⟩ | ⟨f_167, f_168, f_169, f_170, f_171, f_172, em, -⟩ | ⟨f_173, f_174, f_175, f_176, f_177, f_178, em, -⟩ | ⟨f_179, f_180, f_181, f_182, f_183, f_184, em, -⟩ | ⟨f_185, f_186, f_187, f_188, f_189, f_190, em, -⟩ | ⟨f_191, f_192, f_193, f_194, f_195, f_196, em, -⟩ | ⟨f_197, f_198, f_199, f_200, f_201, f_202, em, -⟩ | ⟨f_203, f_204, f_205, f_206, f_207, f_208, em, -⟩
      · exact False.elim (by simp only [tI_lt, tI_le, tI_eq, tL_lt, tL_le, tL_eq, tWx, (by decide : (0 : Int32).toInt = 0), (by decide : (0 : Int64).toInt = 0), (by decide : (1 : Int32).toInt = 1), (by decide : (2 : Int32).toInt = 2), (by decide : (2 : Int64).toInt = 2)] at f_95 f_96 f_100 f_103; omega)
      · exact False.elim (by simp only [tI_lt, tI_le, tI_eq, tL_lt, tL_le, tL_eq, tWx, (by decide : (0 : Int32).toInt = 0), (by decide : (0 : Int64).toInt = 0), (by decide : (1 : Int32).toInt = 1), (by decide : (1 : Int64).toInt = 1), (by decide : (2 : Int32).toInt = 2), (by decide : (2 : Int64).toInt = 2)] at f_95 f_96 f_100 f_104 f_105; omega)
      · exact False.elim (by simp only [tI_lt, tI_le, tI_eq, tL_lt, tL_le, tL_eq, tWx, (by decide : (0 : Int32).toInt = 0), (by decide : (0 : Int64).toInt = 0), (by decide : (1 : Int32).toInt = 1), (by decide : (1 : Int64).toInt = 1), (by decide : (7 : Int32).toInt = 7)] at f_97 f_98 f_99 f_108; omega)
      · exact False.elim (by simp only [tI_lt, tI_le, tI_eq, tL_lt, tL_le, tL_eq, tWx, (by decide : (0 : Int32).toInt = 0), (by decide : (0 : Int64).toInt = 0), (by decide : (1 : Int32).toInt = 1), (by decide : (1 : Int64).toInt = 1), (by decide : (7 : Int32).toInt = 7), (by decide : (7 : Int64).toInt = 7)] at f_97 f_98 f_99 f_111 f_112; omega)
      · exact ex.trans em.symm
      · exact False.elim (by simp only [tI_lt, tI_le, tI_eq, tL_lt, tL_le, tL_eq, tWx, (by decide : (0 : Int32).toInt = 0), (by decide : (0 : Int64).toInt = 0), (by decide : (1 : Int32).toInt = 1), (by decide : (1 : Int64).toInt = 1), (by decide : (2 : Int32).toInt = 2), (by decide : (2 : Int64).toInt = 2)] at f_95 f_96 f_100 f_119 f_120 f_124; omega)
      · exact ex.trans em.symm
      · exact False.elim (by simp only [tI_lt, tI_le, tI_eq, tL_lt, tL_le, tL_eq, tWx, (by decide : (0 : Int32).toInt = 0), (by decide : (0 : Int64).toInt = 0), (by decide : (1 : Int32).toInt = 1), (by decide : (1 : Int64).toInt = 1), (by decide : (2 : Int32).toInt = 2), (by decide : (2 : Int64).toInt = 2)] at f_95 f_96 f_100 f_131 f_132 f_136; omega)
      · exact ex.trans em.symm
      · exact False.elim (by simp only [tI_lt, tI_le, tI_eq, tL_lt, tL_le, tL_eq, tWx, (by decide : (0 : Int32).toInt = 0), (by decide : (0 : Int64).toInt = 0), (by decide : (1 : Int32).toInt = 1), (by decide : (1 : Int64).toInt = 1), (by decide : (2 : Int32).toInt = 2), (by decide : (2 : Int64).toInt = 2)] at f_95 f_96 f_100 f_143 f_144 f_148; omega)
      · exact ex.trans em.symm
      · exact False.elim (by simp only [tI_lt, tI_le, tI_eq, tL_lt, tL_le, tL_eq, tWx, (by decide : (0 : Int32).toInt = 0), (by decide : (0 : Int64).toInt = 0), (by decide : (1 : Int32).toInt = 1), (by decide : (1 : Int64).toInt = 1), (by decide : (2 : Int32).toInt = 2), (by decide : (2 : Int64).toInt = 2)] at f_95 f_96 f_100 f_155 f_156 f_160; omega)
      · exact ex.trans em.symm
      · exact False.elim (by simp only [tI_lt, tI_le, tI_eq, tL_lt, tL_le, tL_eq, tWx, (by decide : (0 : Int32).toInt = 0), (by decide : (0 : Int64).toInt = 0), (by decide : (1 : Int32).toInt = 1), (by decide : (1 : Int64).toInt = 1), (by decide : (2 : Int32).toInt = 2), (by decide : (2 : Int64).toInt = 2)] at f_95 f_96 f_100 f_167 f_168 f_172; omega)
      · exact ex.trans em.symm
      · exact False.elim (by simp only [tI_lt, tI_le, tI_eq, tL_lt, tL_le, tL_eq, tWx, (by decide : (0 : Int32).toInt = 0), (by decide : (0 : Int64).toInt = 0), (by decide : (1 : Int32).toInt = 1), (by decide : (1 : Int64).toInt = 1), (by decide : (2 : Int32).toInt = 2), (by decide : (2 : Int64).toInt = 2)] at f_95 f_96 f_100 f_179 f_180 f_184; omega)
      · exact ex.trans em.symm
      · exact False.elim (by simp only [tI_lt, tI_le, tI_eq, tL_lt, tL_le, tL_eq, tWx, (by decide : (0 : Int32).toInt = 0), (by decide : (0 : Int64).toInt = 0), (by decide : (1 : Int32).toInt = 1), (by decide : (1 : Int64).toInt = 1), (by decide : (2 : Int32).toInt = 2), (by decide : (2 : Int64).toInt = 2)] at f_95 f_96 f_100 f_191 f_192 f_196; omega)
      · exact ex.trans em.symm
      · exact False.elim (by simp only [tI_lt, tI_le, tI_eq, tL_lt, tL_le, tL_eq, tWx, (by decide : (0 : Int32).toInt = 0), (by decide : (0 : Int64).toInt = 0), (by decide : (1 : Int32).toInt = 1), (by decide : (1 : Int64).toInt = 1), (by decide : (2 : Int32).toInt = 2), (by decide : (2 : Int64).toInt = 2)] at f_95 f_96 f_100 f_203 f_204 f_208; omega)
    · rcases hw2 with ⟨f_103, em, -⟩ | ⟨f_104, f_105, em, -⟩ | ⟨f_106, f_107, f_108, em, -⟩ | ⟨f_109, f_110, f_111, f_112, em, -⟩ | ⟨f_113, f_114, f_115, f_116, f_117, f_118, em, -⟩ | ⟨f_119, f_120, f_121, f_122, f_123, f_124, em, -⟩ | ⟨f_125, f_126, f_127, f_128, f_129, f_130, em, -⟩ | ⟨f_131, f_132, f_133, f_134, f_135, f_136, em, -⟩ | ⟨f_137, f_138, f_139, f_140, f_141, f_142, em, -⟩ | ⟨f_143, f_144, f_145, f_146, f_147, f_148, em, -⟩ | ⟨f_149, f_150, f_151, f_152, f_153, f_154, em, -⟩ | ⟨f_155, f_156, f_157, f_158, f_159, f_160, em, -⟩ | ⟨f_161, f_162, f_163, f_164, f_165, f_166, em, -⟩ | ⟨f_167, f_168, f_169, f_170, f_171, f_172, em, -⟩ | ⟨f_173, f_174, f_175, f_176, f_177, f_178, em, -⟩ | ⟨f_179, f_180, f_181, f_182, f_183, f_184, em, -⟩ | ⟨f_185, f_186, f_187, f_188, f_189, f_190, em, -⟩ | ⟨f_191, f_192, f_193, f_194, f_195, f_196, em, -⟩ | ⟨f_197, f_198, f_199, f_200, f_201, f_202, em, -⟩ | ⟨f_203, f_204, f_205, f_206, f_207, f_208, em, -⟩
      · exact ex.trans em.symm
      · exact ex.trans em.symm
      · exact False.elim (by simp only [tI_lt, tI_le, tI_eq, tL_lt, tL_le, tL_eq, tWx, (by decide : (0 : Int32).toInt = 0), (by decide : (0 : Int64).toInt = 0), (by decide : (1 : Int32).toInt = 1), (by decide : (1 : Int64).toInt = 1), (by decide : (2 : Int32).toInt = 2), (by decide : (2 : Int64).toInt = 2)] at f_101 f_102 f_106 f_107; omega)
      · exact False.elim (by simp only [tI_lt, tI_le, tI_eq, tL_lt, tL_le, tL_eq, tWx, (by decide : (0 : Int32).toInt = 0), (by decide : (0 : Int64).toInt = 0), (by decide : (1 : Int32).toInt = 1), (by decide : (1 : Int64).toInt = 1), (by decide : (2 : Int32).toInt = 2), (by decide : (2 : Int64).toInt = 2)] at f_101 f_102 f_109 f_110; omega)
      · exact False.elim (by simp only [tI_lt, tI_le, tI_eq, tL_lt, tL_le, tL_eq, tWx, (by decide : (0 : Int32).toInt = 0), (by decide : (0 : Int64).toInt = 0), (by decide : (1 : Int32).toInt = 1), (by decide : (1 : Int64).toInt = 1), (by decide : (2 : Int32).toInt = 2), (by decide : (2 : Int64).toInt = 2)] at f_101 f_102 f_113 f_114 f_118; omega)
      · exact False.elim (by simp only [tI_lt, tI_le, tI_eq, tL_lt, tL_le, tL_eq, tWx, (by decide : (0 : Int32).toInt = 0), (by decide : (0 : Int64).toInt = 0), (by decide : (1 : Int32).toInt = 1), (by decide : (1 : Int64).toInt = 1), (by decide : (2 : Int32).toInt = 2), (by decide : (2 : Int64).toInt = 2)] at f_101 f_102 f_119 f_120 f_124; omega)
      · exact False.elim (by simp only [tI_lt, tI_le, tI_eq, tL_lt, tL_le, tL_eq, tWx, (by decide : (0 : Int32).toInt = 0), (by decide : (0 : Int64).toInt = 0), (by decide : (1 : Int32).toInt = 1), (by decide : (1 : Int64).toInt = 1), (by decide : (2 : Int32).toInt = 2), (by decide : (2 : Int64).toInt = 2)] at f_101 f_102 f_125 f_126 f_130; omega)
      · exact False.elim (by simp only [tI_lt, tI_le, tI_eq, tL_lt, tL_le, tL_eq, tWx, (by decide : (0 : Int32).toInt = 0), (by decide : (0 : Int64).toInt = 0), (by decide : (1 : Int32).toInt = 1), (by decide : (1 : Int64).toInt = 1), (by decide : (2 : Int32).toInt = 2), (by decide : (2 : Int64).toInt = 2)] at f_101 f_102 f_131 f_132 f_136; omega)
      · exact False.elim (by simp only [tI_lt, tI_le, tI_eq, tL_lt, tL_le, tL_eq, tWx, (by decide : (0 : Int32).toInt = 0), (by decide : (0 : Int64).toInt = 0), (by decide : (1 : Int32).toInt = 1), (by decide : (1 : Int64).toInt = 1), (by decide : (2 : Int32).toInt = 2), (by decide : (2 : Int64).toInt = 2)] at f_101 f_102 f_137 f_138 f_142; omega)
      · exact False.elim (by simp only [tI_lt, tI_le, tI_eq, tL_lt, tL_le, tL_eq, tWx, (by decide : (0 : Int32).toInt = 0), (by decide : (0 : Int64).toInt = 0), (by decide : (1 : Int32).toInt = 1), (by decide : (1 : Int64).toInt = 1), (by decide : (2 : Int32).toInt = 2), (by decide : (2 : Int64).toInt = 2)] at f_101 f_102 f_143 f_144 f_148; omega)
      · exact False.elim (by simp only [tI_lt, tI_le, tI_eq, tL_lt, tL_le, tL_eq, tWx, (by decide : (0 : Int32).toInt = 0), (by decide : (0 : Int64).toInt = 0), (by decide : (1 : Int32).toInt = 1), (by decide : (1 : Int64).toInt = 1), (by decide : (2 : Int32).toInt = 2), (by decide : (2 : Int64).toInt = 2)] at f_101 f_102 f_149 f_150 f_154; omega)
      · exact False.elim (by simp only [tI_lt, tI_le, tI_eq, tL_lt, tL_le, tL_eq, tWx, (by decide : (0 : Int32).toInt = 0), (by decide : (0 : Int64).toInt = 0), (by decide : (1 : Int32).toInt = 1), (by decide : (1 : Int64).toInt = 1), (by decide : (2 : Int32).toInt = 2), (by decide : (2 : Int64).toInt = 2)] at f_101 f_102 f_155 f_156 f_160; omega)
      · exact False.elim (by simp only [tI_lt, tI_le, tI_eq, tL_lt, tL_le, tL_eq, tWx, (by decide : (0 : Int32).toInt = 0), (by decide : (0 : Int64).toInt = 0), (by decide : (1 : Int32).toInt = 1), (by decide : (1 : Int64).toInt = 1), (by decide : (2 : Int32).toInt = 2), (by decide : (2 : Int64).toInt = 2)] at f_101 f_102 f_161 f_162 f_166; omega)
      · exact False.elim (by simp only [tI_lt, tI_le, tI_eq, tL_lt, tL_le, tL_eq, tWx, (by decide : (0 : Int32).toInt = 0), (by decide : (0 : Int64).toInt = 0), (by decide : (1 : Int32).toInt = 1), (by decide : (1 : Int64).toInt = 1), (by decide : (2 : Int32).toInt = 2), (by decide : (2 : Int64).toInt = 2)] at f_101 f_102 f_167 f_168 f_172; omega)
      · exact False.elim (by simp only [tI_lt, tI_le, tI_eq, tL_lt, tL_le, tL_eq, tWx, (by decide : (0 : Int32).toInt = 0), (by decide : (0 : Int64).toInt = 0), (by decide : (1 : Int32).toInt = 1), (by decide : (1 : Int64).toInt = 1), (by decide : (2 : Int32).toInt = 2), (by decide : (2 : Int64).toInt = 2)] at f_101 f_102 f_173 f_174 f_178; omega)
      · exact False.elim (by simp only [tI_lt, tI_le, tI_eq, tL_lt, tL_le, tL_eq, tWx, (by decide : (0 : Int32).toInt = 0), (by decide : (0 : Int64).toInt = 0), (by decide : (1 : Int32).toInt = 1), (by decide : (1 : Int64).toInt = 1), (by decide : (2 : Int32).toInt = 2), (by decide : (2 : Int64).toInt = 2)] at f_101 f_102 f_179 f_180 f_184; omega)
      · exact False.elim (by simp only [tI_lt, tI_le, tI_eq, tL_lt, tL_le, tL_eq, tWx, (by decide : (0 : Int32).toInt = 0), (by decide : (0 : Int64).toInt = 0), (by decide : (1 : Int32).toInt = 1), (by decide : (1 : Int64).toInt = 1), (by decide : (2 : Int32).toInt = 2), (by decide : (2 : Int64).toInt = 2)] at f_101 f_102 f_185 f_186 f_190; omega)
      · exact False.elim (by simp only [tI_lt, tI_le, tI_eq, tL_lt, tL_le, tL_eq, tWx, (by decide : (0 : Int32).toInt = 0), (by decide : (0 : Int64).toInt = 0), (by decide : (1 : Int32).toInt = 1), (by decide : (1 : Int64).toInt = 1), (by decide : (2 : Int32).toInt = 2), (by decide : (2 : Int64).toInt = 2)] at f_101 f_102 f_191 f_192 f_196; omega)
      · exact False.elim (by simp only [tI_lt, tI_le, tI_eq, tL_lt, tL_le, tL_eq, tWx, (by decide : (0 : Int32).toInt = 0), (by decide : (0 : Int64).toInt = 0), (by decide : (1 : Int32).toInt = 1), (by decide : (1 : Int64).toInt = 1), (by decide : (2 : Int32).toInt = 2), (by decide : (2 : Int64).toInt = 2)] at f_101 f_102 f_197 f_198 f_202; omega)
      · exact False.elim (by simp only [tI_lt, tI_le, tI_eq, tL_lt, tL_le, tL_eq, tWx, (by decide : (0 : Int32).toInt = 0), (by decide : (0 : Int64).toInt = 0), (by decide : (1 : Int32).toInt = 1), (by decide : (1 : Int64).toInt = 1), (by decide : (2 : Int32).toInt = 2), (by decide : (2 : Int64).toInt = 2)] at f_101 f_102 f_203 f_204 f_208; omega)
  refine lv_icmp_eq (tgt := 1549) hx hb dL_law_1325 (by decide) (fun _ => ?_) (fun c_1 => absurd e9 c_1)
  exact law_end C0 (Nat.le_of_ble_eq_true rfl) (Nat.le_of_ble_eq_true rfl) hS (lv_sub hl [0, 3] rfl)
theorem dL_law_1330 : decode cL_law 1330 = .ok (.aload_n 1, 1) := by decide +kernel
theorem dL_law_1331 : decode cL_law 1331 = .ok (.aload_n 0, 1) := by decide +kernel
theorem dL_law_1332 : decode cL_law 1332 = .ok (.iload_n 3, 1) := by decide +kernel
theorem dL_law_1333 : decode cL_law 1333 = .ok (.iconst 1, 1) := by decide +kernel
theorem dL_law_1334 : decode cL_law 1334 = .ok (.iadd, 1) := by decide +kernel
theorem dL_law_1335 : decode cL_law 1335 = .ok (.iaload, 1) := by decide +kernel
theorem dL_law_1336 : decode cL_law 1336 = .ok (.aload_n 0, 1) := by decide +kernel
theorem dL_law_1337 : decode cL_law 1337 = .ok (.iload_n 3, 1) := by decide +kernel
theorem dL_law_1338 : decode cL_law 1338 = .ok (.iconst 2, 1) := by decide +kernel
theorem dL_law_1339 : decode cL_law 1339 = .ok (.iadd, 1) := by decide +kernel
theorem dL_law_1340 : decode cL_law 1340 = .ok (.iaload, 1) := by decide +kernel
theorem dL_law_1341 : decode cL_law 1341 = .ok (.aload_n 0, 1) := by decide +kernel
theorem dL_law_1342 : decode cL_law 1342 = .ok (.iload_n 3, 1) := by decide +kernel
theorem dL_law_1343 : decode cL_law 1343 = .ok (.iconst 3, 1) := by decide +kernel
theorem dL_law_1344 : decode cL_law 1344 = .ok (.iadd, 1) := by decide +kernel
theorem dL_law_1345 : decode cL_law 1345 = .ok (.iaload, 1) := by decide +kernel
theorem q_5_176 : Cond.code yX9_numbers prog_1_method_69_code 4 (some FieldType.int) ∈ gw := gw_5 (i := 176) (rfl) rfl
theorem q_5_174 : Cond.instanceMethod yX9_numbers ∈ gw := gw_5 (i := 174) (by decide +kernel) rfl
theorem q_5_175 : Cond.selects "BeaconDelay" yX9_numbers yX9_numbers ∈ gw := gw_5 (i := 175) (by decide +kernel) rfl
theorem mt_X9_numbers : MtV yX9_numbers cX9_numbers 4 (some .int) 3 := ⟨⟨q_5_176, q_1_1, by decide +kernel, by decide +kernel, by decide +kernel⟩, q_5_174, q_5_175⟩
theorem q_5_173 : Cond.methodLink "BeaconDelayLaw" 173 yX9_numbers ∈ gw := gw_5 (i := 173) (by decide +kernel) rfl
theorem dL_law_1346 : decode cL_law 1346 = .ok (.invokevirtual 173, 3) := by decide +kernel
theorem dL_law_1349 : decode cL_law 1349 = .ok (.aload_n 2, 1) := by decide +kernel
theorem dL_law_1350 : decode cL_law 1350 = .ok (.aload_n 0, 1) := by decide +kernel
theorem dL_law_1351 : decode cL_law 1351 = .ok (.iload_n 3, 1) := by decide +kernel
theorem dL_law_1352 : decode cL_law 1352 = .ok (.iconst 1, 1) := by decide +kernel
theorem dL_law_1353 : decode cL_law 1353 = .ok (.iadd, 1) := by decide +kernel
theorem dL_law_1354 : decode cL_law 1354 = .ok (.iaload, 1) := by decide +kernel
theorem dL_law_1355 : decode cL_law 1355 = .ok (.aload_n 0, 1) := by decide +kernel
theorem dL_law_1356 : decode cL_law 1356 = .ok (.iload_n 3, 1) := by decide +kernel
theorem dL_law_1357 : decode cL_law 1357 = .ok (.iconst 2, 1) := by decide +kernel
theorem dL_law_1358 : decode cL_law 1358 = .ok (.iadd, 1) := by decide +kernel
theorem dL_law_1359 : decode cL_law 1359 = .ok (.iaload, 1) := by decide +kernel
theorem dL_law_1360 : decode cL_law 1360 = .ok (.aload_n 0, 1) := by decide +kernel
theorem dL_law_1361 : decode cL_law 1361 = .ok (.iload_n 3, 1) := by decide +kernel
theorem dL_law_1362 : decode cL_law 1362 = .ok (.iconst 3, 1) := by decide +kernel
theorem dL_law_1363 : decode cL_law 1363 = .ok (.iadd, 1) := by decide +kernel
theorem dL_law_1364 : decode cL_law 1364 = .ok (.iaload, 1) := by decide +kernel
theorem q_8_134 : Cond.code yX10_numbers prog_12_method_129_code 5 (some FieldType.int) ∈ gw := gw_8 (i := 134) (rfl) rfl
theorem q_8_132 : Cond.instanceMethod yX10_numbers ∈ gw := gw_8 (i := 132) (by decide +kernel) rfl
theorem q_8_133 : Cond.selects "BeaconDelayModel" yX10_numbers yX10_numbers ∈ gw := gw_8 (i := 133) (by decide +kernel) rfl
theorem mt_X10_numbers : MtV yX10_numbers cX10_numbers 5 (some .int) 3 := ⟨⟨q_8_134, q_1_9, by decide +kernel, by decide +kernel, by decide +kernel⟩, q_8_132, q_8_133⟩
theorem q_8_131 : Cond.methodLink "BeaconDelayLaw" 176 yX10_numbers ∈ gw := gw_8 (i := 131) (by decide +kernel) rfl
theorem dL_law_1365 : decode cL_law 1365 = .ok (.invokevirtual 176, 3) := by decide +kernel
theorem dL_law_1368 : decode cL_law 1368 = .ok (.if_icmp .eq 181, 3) := by decide +kernel
-- numbers
set_option maxHeartbeats 4000000 in
set_option maxRecDepth 100000 in
theorem lc_38 {p : Program} {e : Env} {s : State} {m : MethodId} {below : List Frame} {meth : Method} {c : Code} {l : Launch} {b : Nat} {xs : Nat → Int32} {V : GV} {y z : Nat → Nat} (C0 : lw_At p s m meth c b 6 xs) (hg : ∀ w ∈ gw, w.before #[Value.ref b] s = true) (hK : va_K V.1 vwCl (tyV V) s) (hE : En V (fun q : Nat => s.heap.size ≤ q) s s.heap) {H : Heap} {locs : List Loc} (hP : va_P V.1 vwCl (xW V y ++ mW V z) H) (hD : va_D (fun q : Nat => s.heap.size ≤ q) (xW V y ++ mW V z)) (hS : va_S (fun q : Nat => s.heap.size ≤ q) s.heap H locs) {ls : Array Slot} (hl : lv_has ls 4 [(0, .ref b), (1, .ref (y 0)), (2, .ref (z 0)), (3, .int 0)]) : W p l e room_1 s m #[Value.ref b] below meth c H locs 84 223324 (lw_Z below #[Value.ref b] s) (F0 m 1330 ls []) := by
  obtain ⟨hx, hb, hr, hml, hown, hts, hX, hbl, hlocks, hgv⟩ := id C0
  have hA : ∀ q : Nat, s.heap.size ≤ q → (fun q : Nat => s.heap.size ≤ q) q := fun _ h => h
  have hbA : ¬ (fun q : Nat => s.heap.size ≤ q) b := Nat.not_le.mpr hbl
  refine lv_aload_n hx hb dL_law_1330 rfl (lv_at hl 1 rfl) ?_
  refine lv_aload_n hx hb dL_law_1331 rfl (lv_at hl 0 rfl) ?_
  refine lv_iload_n hx hb dL_law_1332 rfl (lv_at hl 3 rfl) ?_
  refine lv_iconst (v := 1) hx hb dL_law_1333 (by decide) ?_
  refine lv_iadd hx hb dL_law_1334 ?_
  refine tpi (y := 1) (by decide +kernel) ?_
  refine va_sld hx hb hX hbl hbA hS (vin (by decide +kernel)) dL_law_1335 ?_
  refine tpi (y := xs 1) rfl ?_
  refine lv_aload_n hx hb dL_law_1336 rfl (lv_at hl 0 rfl) ?_
  refine lv_iload_n hx hb dL_law_1337 rfl (lv_at hl 3 rfl) ?_
  refine lv_iconst (v := 2) hx hb dL_law_1338 (by decide) ?_
  refine lv_iadd hx hb dL_law_1339 ?_
  refine tpi (y := 2) (by decide +kernel) ?_
  refine va_sld hx hb hX hbl hbA hS (vin (by decide +kernel)) dL_law_1340 ?_
  refine tpi (y := xs 2) rfl ?_
  refine lv_aload_n hx hb dL_law_1341 rfl (lv_at hl 0 rfl) ?_
  refine lv_iload_n hx hb dL_law_1342 rfl (lv_at hl 3 rfl) ?_
  refine lv_iconst (v := 3) hx hb dL_law_1343 (by decide) ?_
  refine lv_iadd hx hb dL_law_1344 ?_
  refine tpi (y := 3) (by decide +kernel) ?_
  refine va_sld hx hb hX hbl hbA hS (vin (by decide +kernel)) dL_law_1345 ?_
  refine tpi (y := xs 3) rfl ?_
  refine jnI (wr := mW V z) (rnV (rest := []) ⟨hx, hb, hml, hown, hg⟩ (c_X9_numbers_0 l V y ((xs 1)) ((xs 2)) ((xs 3))) mt_X9_numbers q_5_173 ⟨Nat.le_of_ble_eq_true rfl, Nat.le_of_ble_eq_true rfl⟩ hK hP hD hS hA hE [0, 30, 33, 34, 35, 36, 37, 38, 39, 40] rfl rfl 0 rfl rfl rfl rfl hl.1 rfl (Nat.le_of_ble_eq_true rfl) dL_law_1346 ⟨Nat.le_of_ble_eq_true rfl, Nat.le_of_ble_eq_true rfl⟩) hP hD hS hA [0, 30, 33, 34, 35, 36, 37, 38, 39, 40] [59, 60, 61, 62, 63, 64, 65, 66, 67, 68, 69, 70, 71, 72, 73, 74, 75, 76, 77, 78, 79, 80, 81, 82, 83] rfl rfl rfl (by decide) (fun r w H locs hw hP hD hS => ?_)
  refine W.widen (k := 84) (n := 223324) (Nat.le_of_ble_eq_true rfl) (Nat.le_of_ble_eq_true rfl) ?_
  have hP : va_P V.1 vwCl (mW V z) H := takeP hP
  have hD : va_D (fun q : Nat => s.heap.size ≤ q) (mW V z) := takeD hD
  refine lv_aload_n hx hb dL_law_1349 rfl (lv_at hl 2 rfl) ?_
  refine lv_aload_n hx hb dL_law_1350 rfl (lv_at hl 0 rfl) ?_
  refine lv_iload_n hx hb dL_law_1351 rfl (lv_at hl 3 rfl) ?_
  refine lv_iconst (v := 1) hx hb dL_law_1352 (by decide) ?_
  refine lv_iadd hx hb dL_law_1353 ?_
  refine tpi (y := 1) (by decide +kernel) ?_
  refine va_sld hx hb hX hbl hbA hS (vin (by decide +kernel)) dL_law_1354 ?_
  refine tpi (y := xs 1) rfl ?_
  refine lv_aload_n hx hb dL_law_1355 rfl (lv_at hl 0 rfl) ?_
  refine lv_iload_n hx hb dL_law_1356 rfl (lv_at hl 3 rfl) ?_
  refine lv_iconst (v := 2) hx hb dL_law_1357 (by decide) ?_
  refine lv_iadd hx hb dL_law_1358 ?_
  refine tpi (y := 2) (by decide +kernel) ?_
  refine va_sld hx hb hX hbl hbA hS (vin (by decide +kernel)) dL_law_1359 ?_
  refine tpi (y := xs 2) rfl ?_
  refine lv_aload_n hx hb dL_law_1360 rfl (lv_at hl 0 rfl) ?_
  refine lv_iload_n hx hb dL_law_1361 rfl (lv_at hl 3 rfl) ?_
  refine lv_iconst (v := 3) hx hb dL_law_1362 (by decide) ?_
  refine lv_iadd hx hb dL_law_1363 ?_
  refine tpi (y := 3) (by decide +kernel) ?_
  refine va_sld hx hb hX hbl hbA hS (vin (by decide +kernel)) dL_law_1364 ?_
  refine tpi (y := xs 3) rfl ?_
  refine jnI (wr := []) (rnV (rest := [.int r]) ⟨hx, hb, hml, hown, hg⟩ (c_X10_numbers_0 l V z ((xs 1)) ((xs 2)) ((xs 3))) mt_X10_numbers q_8_131 ⟨Nat.le_of_ble_eq_true rfl, Nat.le_of_ble_eq_true rfl⟩ hK hP hD hS hA hE [0, 21, 22, 23] rfl rfl 0 rfl rfl rfl rfl hl.1 rfl (Nat.le_of_ble_eq_true rfl) dL_law_1365 ⟨Nat.le_of_ble_eq_true rfl, Nat.le_of_ble_eq_true rfl⟩) hP hD hS hA [0, 21, 22, 23] [] rfl rfl rfl (by decide) (fun r2 w2 H locs hw2 hP hD hS => ?_)
  refine W.widen (k := 84) (n := 223324) (Nat.le_of_ble_eq_true rfl) (Nat.le_of_ble_eq_true rfl) ?_
  have e9 : r = r2 := by
    rcases hw with ⟨f_1, ex, -⟩ | ⟨f_2, f_3, ex, -⟩ | ⟨f_4, f_5, f_6, ex, -⟩ | ⟨f_7, f_8, f_9, f_10, ex, -⟩ | ⟨f_11, f_12, f_13, f_14, f_15, ex, -⟩ | ⟨f_16, f_17, f_18, f_19, f_20, f_21, ex, -⟩ | ⟨f_22, f_23, f_24, f_25, f_26, f_27, f_28, ex, -⟩ | ⟨f_29, f_30, f_31, f_32, f_33, f_34, f_35, ex, -⟩ | ⟨f_36, f_37, f_38, f_39, f_40, f_41, f_42, ex, -⟩ | ⟨f_43, f_44, f_45, f_46, f_47, f_48, f_49, ex, -⟩
    · rcases hw2 with ⟨f_50, em, -⟩ | ⟨f_51, f_52, em, -⟩ | ⟨f_53, f_54, f_55, em, -⟩ | ⟨f_56, f_57, f_58, f_59, em, -⟩ | ⟨f_60, f_61, f_62, f_63, f_64, em, -⟩ | ⟨f_65, f_66, f_67, f_68, f_69, f_70, em, -⟩ | ⟨f_71, f_72, f_73, f_74, f_75, f_76, f_77, em, -⟩ | ⟨f_78, f_79, f_80, f_81, f_82, f_83, f_84, em, -⟩ | ⟨f_85, f_86, f_87, f_88, f_89, f_90, f_91, em, -⟩ | ⟨f_92, f_93, f_94, f_95, f_96, f_97, f_98, em, -⟩
      · exact ex.trans em.symm
      · exact ex.trans em.symm
      · exact ex.trans em.symm
      · exact ex.trans em.symm
      · exact False.elim (by simp only [tI_lt, tI_le, tI_eq, tL_lt, tL_le, tL_eq, tWx, (by decide : (0 : Int32).toInt = 0), (by decide : (0 : Int64).toInt = 0), (by decide : (1 : Int32).toInt = 1), (by decide : (1 : Int64).toInt = 1), (by decide : (3 : Int64).toInt = 3)] at f_1 f_60 f_61; omega)
      · exact False.elim (by simp only [tI_lt, tI_le, tI_eq, tL_lt, tL_le, tL_eq, tWx, (by decide : (0 : Int32).toInt = 0), (by decide : (0 : Int64).toInt = 0), (by decide : (1 : Int32).toInt = 1), (by decide : (1 : Int64).toInt = 1), (by decide : (3 : Int64).toInt = 3)] at f_1 f_65 f_66; omega)
      · exact False.elim (by simp only [tI_lt, tI_le, tI_eq, tL_lt, tL_le, tL_eq, tWx, (by decide : (0 : Int32).toInt = 0), (by decide : (0 : Int64).toInt = 0), (by decide : (1 : Int32).toInt = 1), (by decide : (1 : Int64).toInt = 1), (by decide : (3 : Int64).toInt = 3)] at f_1 f_71 f_72 f_77; omega)
      · exact False.elim (by simp only [tI_lt, tI_le, tI_eq, tL_lt, tL_le, tL_eq, tWx, (by decide : (0 : Int32).toInt = 0), (by decide : (0 : Int64).toInt = 0), (by decide : (1 : Int32).toInt = 1), (by decide : (1 : Int64).toInt = 1), (by decide : (3 : Int64).toInt = 3)] at f_1 f_78 f_79 f_84; omega)
      · exact False.elim (by simp only [tI_lt, tI_le, tI_eq, tL_lt, tL_le, tL_eq, tWx, (by decide : (0 : Int32).toInt = 0), (by decide : (0 : Int64).toInt = 0), (by decide : (1 : Int32).toInt = 1), (by decide : (1 : Int64).toInt = 1), (by decide : (2 : Int32).toInt = 2), (by decide : (3 : Int64).toInt = 3)] at f_1 f_85 f_86 f_91; omega)
      · exact False.elim (by simp only [tI_lt, tI_le, tI_eq, tL_lt, tL_le, tL_eq, tWx, (by decide : (0 : Int32).toInt = 0), (by decide : (0 : Int64).toInt = 0), (by decide : (1 : Int32).toInt = 1), (by decide : (1 : Int64).toInt = 1), (by decide : (3 : Int32).toInt = 3), (by decide : (3 : Int64).toInt = 3)] at f_1 f_92 f_93 f_98; omega)
    · rcases hw2 with ⟨f_50, em, -⟩ | ⟨f_51, f_52, em, -⟩ | ⟨f_53, f_54, f_55, em, -⟩ | ⟨f_56, f_57, f_58, f_59, em, -⟩ | ⟨f_60, f_61, f_62, f_63, f_64, em, -⟩ | ⟨f_65, f_66, f_67, f_68, f_69, f_70, em, -⟩ | ⟨f_71, f_72, f_73, f_74, f_75, f_76, f_77, em, -⟩ | ⟨f_78, f_79, f_80, f_81, f_82, f_83, f_84, em, -⟩ | ⟨f_85, f_86, f_87, f_88, f_89, f_90, f_91, em, -⟩ | ⟨f_92, f_93, f_94, f_95, f_96, f_97, f_98, em, -⟩
      · exact ex.trans em.symm
      · exact ex.trans em.symm
      · exact ex.trans em.symm
      · exact ex.trans em.symm
      · exact False.elim (by simp only [tI_lt, tI_le, tI_eq, tL_lt, tL_le, tL_eq, tWx, (by decide : (0 : Int32).toInt = 0), (by decide : (0 : Int64).toInt = 0), (by decide : (1 : Int32).toInt = 1), (by decide : (1 : Int64).toInt = 1), (by decide : (3 : Int64).toInt = 3), (by decide : (4 : Int32).toInt = 4)] at f_2 f_3 f_60 f_61; omega)
      · exact False.elim (by simp only [tI_lt, tI_le, tI_eq, tL_lt, tL_le, tL_eq, tWx, (by decide : (0 : Int32).toInt = 0), (by decide : (0 : Int64).toInt = 0), (by decide : (1 : Int32).toInt = 1), (by decide : (1 : Int64).toInt = 1), (by decide : (3 : Int64).toInt = 3), (by decide : (4 : Int32).toInt = 4)] at f_2 f_3 f_65 f_66; omega)
      · exact False.elim (by simp only [tI_lt, tI_le, tI_eq, tL_lt, tL_le, tL_eq, tWx, (by decide : (0 : Int32).toInt = 0), (by decide : (0 : Int64).toInt = 0), (by decide : (1 : Int32).toInt = 1), (by decide : (1 : Int64).toInt = 1), (by decide : (3 : Int64).toInt = 3), (by decide : (4 : Int32).toInt = 4)] at f_2 f_3 f_71 f_72 f_77; omega)
      · exact False.elim (by simp only [tI_lt, tI_le, tI_eq, tL_lt, tL_le, tL_eq, tWx, (by decide : (0 : Int32).toInt = 0), (by decide : (0 : Int64).toInt = 0), (by decide : (1 : Int32).toInt = 1), (by decide : (1 : Int64).toInt = 1), (by decide : (3 : Int64).toInt = 3), (by decide : (4 : Int32).toInt = 4)] at f_2 f_3 f_78 f_79 f_84; omega)
      · exact False.elim (by simp only [tI_lt, tI_le, tI_eq, tL_lt, tL_le, tL_eq, tWx, (by decide : (0 : Int32).toInt = 0), (by decide : (0 : Int64).toInt = 0), (by decide : (1 : Int32).toInt = 1), (by decide : (1 : Int64).toInt = 1), (by decide : (2 : Int32).toInt = 2), (by decide : (3 : Int64).toInt = 3), (by decide : (4 : Int32).toInt = 4)] at f_2 f_3 f_85 f_86 f_91; omega)
      · exact False.elim (by simp only [tI_lt, tI_le, tI_eq, tL_lt, tL_le, tL_eq, tWx, (by decide : (0 : Int32).toInt = 0), (by decide : (0 : Int64).toInt = 0), (by decide : (1 : Int32).toInt = 1), (by decide : (1 : Int64).toInt = 1), (by decide : (3 : Int32).toInt = 3), (by decide : (3 : Int64).toInt = 3), (by decide : (4 : Int32).toInt = 4)] at f_2 f_3 f_92 f_93 f_98; omega)
    · rcases hw2 with ⟨f_50, em, -⟩ | ⟨f_51, f_52, em, -⟩ | ⟨f_53, f_54, f_55, em, -⟩ | ⟨f_56, f_57, f_58, f_59, em, -⟩ | ⟨f_60, f_61, f_62, f_63, f_64, em, -⟩ | ⟨f_65, f_66, f_67, f_68, f_69, f_70, em, -⟩ | ⟨f_71, f_72, f_73, f_74, f_75, f_76, f_77, em, -⟩ | ⟨f_78, f_79, f_80, f_81, f_82, f_83, f_84, em, -⟩ | ⟨f_85, f_86, f_87, f_88, f_89, f_90, f_91, em, -⟩ | ⟨f_92, f_93, f_94, f_95, f_96, f_97, f_98, em, -⟩
      · exact ex.trans em.symm
      · exact ex.trans em.symm
      · exact ex.trans em.symm
      · exact ex.trans em.symm
      · exact False.elim (by simp only [tI_lt, tI_le, tI_eq, tL_lt, tL_le, tL_eq, tWx, (by decide : (0 : Int32).toInt = 0), (by decide : (0 : Int64).toInt = 0), (by decide : (2 : Int32).toInt = 2), (by decide : (2 : Int64).toInt = 2), (by decide : (3 : Int64).toInt = 3)] at f_6 f_62 f_63; omega)
      · exact False.elim (by simp only [tI_lt, tI_le, tI_eq, tL_lt, tL_le, tL_eq, tWx, (by decide : (0 : Int32).toInt = 0), (by decide : (0 : Int64).toInt = 0), (by decide : (2 : Int32).toInt = 2), (by decide : (2 : Int64).toInt = 2), (by decide : (3 : Int64).toInt = 3)] at f_6 f_67 f_68; omega)
      · exact False.elim (by simp only [tI_lt, tI_le, tI_eq, tL_lt, tL_le, tL_eq, tWx, (by decide : (0 : Int32).toInt = 0), (by decide : (0 : Int64).toInt = 0), (by decide : (2 : Int32).toInt = 2), (by decide : (2 : Int64).toInt = 2), (by decide : (3 : Int64).toInt = 3)] at f_6 f_73 f_74; omega)
      · exact False.elim (by simp only [tI_lt, tI_le, tI_eq, tL_lt, tL_le, tL_eq, tWx, (by decide : (0 : Int32).toInt = 0), (by decide : (0 : Int64).toInt = 0), (by decide : (2 : Int32).toInt = 2), (by decide : (2 : Int64).toInt = 2), (by decide : (3 : Int64).toInt = 3)] at f_6 f_80 f_81; omega)
      · exact False.elim (by simp only [tI_lt, tI_le, tI_eq, tL_lt, tL_le, tL_eq, tWx, (by decide : (0 : Int32).toInt = 0), (by decide : (0 : Int64).toInt = 0), (by decide : (2 : Int32).toInt = 2), (by decide : (2 : Int64).toInt = 2), (by decide : (3 : Int64).toInt = 3)] at f_6 f_87 f_88; omega)
      · exact False.elim (by simp only [tI_lt, tI_le, tI_eq, tL_lt, tL_le, tL_eq, tWx, (by decide : (0 : Int32).toInt = 0), (by decide : (0 : Int64).toInt = 0), (by decide : (2 : Int32).toInt = 2), (by decide : (2 : Int64).toInt = 2), (by decide : (3 : Int64).toInt = 3)] at f_6 f_94 f_95; omega)
    · rcases hw2 with ⟨f_50, em, -⟩ | ⟨f_51, f_52, em, -⟩ | ⟨f_53, f_54, f_55, em, -⟩ | ⟨f_56, f_57, f_58, f_59, em, -⟩ | ⟨f_60, f_61, f_62, f_63, f_64, em, -⟩ | ⟨f_65, f_66, f_67, f_68, f_69, f_70, em, -⟩ | ⟨f_71, f_72, f_73, f_74, f_75, f_76, f_77, em, -⟩ | ⟨f_78, f_79, f_80, f_81, f_82, f_83, f_84, em, -⟩ | ⟨f_85, f_86, f_87, f_88, f_89, f_90, f_91, em, -⟩ | ⟨f_92, f_93, f_94, f_95, f_96, f_97, f_98, em, -⟩
      · exact ex.trans em.symm
      · exact ex.trans em.symm
      · exact ex.trans em.symm
      · exact ex.trans em.symm
      · exact False.elim (by simp only [tI_lt, tI_le, tI_eq, tL_lt, tL_le, tL_eq, tWx, (by decide : (0 : Int32).toInt = 0), (by decide : (0 : Int64).toInt = 0), (by decide : (2 : Int32).toInt = 2), (by decide : (2 : Int64).toInt = 2), (by decide : (3 : Int32).toInt = 3), (by decide : (3 : Int64).toInt = 3)] at f_9 f_10 f_62 f_63; omega)
      · exact False.elim (by simp only [tI_lt, tI_le, tI_eq, tL_lt, tL_le, tL_eq, tWx, (by decide : (0 : Int32).toInt = 0), (by decide : (0 : Int64).toInt = 0), (by decide : (2 : Int32).toInt = 2), (by decide : (2 : Int64).toInt = 2), (by decide : (3 : Int32).toInt = 3), (by decide : (3 : Int64).toInt = 3)] at f_9 f_10 f_67 f_68; omega)
      · exact False.elim (by simp only [tI_lt, tI_le, tI_eq, tL_lt, tL_le, tL_eq, tWx, (by decide : (0 : Int32).toInt = 0), (by decide : (0 : Int64).toInt = 0), (by decide : (2 : Int32).toInt = 2), (by decide : (2 : Int64).toInt = 2), (by decide : (3 : Int32).toInt = 3), (by decide : (3 : Int64).toInt = 3)] at f_9 f_10 f_73 f_74; omega)
      · exact False.elim (by simp only [tI_lt, tI_le, tI_eq, tL_lt, tL_le, tL_eq, tWx, (by decide : (0 : Int32).toInt = 0), (by decide : (0 : Int64).toInt = 0), (by decide : (2 : Int32).toInt = 2), (by decide : (2 : Int64).toInt = 2), (by decide : (3 : Int32).toInt = 3), (by decide : (3 : Int64).toInt = 3)] at f_9 f_10 f_80 f_81; omega)
      · exact False.elim (by simp only [tI_lt, tI_le, tI_eq, tL_lt, tL_le, tL_eq, tWx, (by decide : (0 : Int32).toInt = 0), (by decide : (0 : Int64).toInt = 0), (by decide : (2 : Int32).toInt = 2), (by decide : (2 : Int64).toInt = 2), (by decide : (3 : Int32).toInt = 3), (by decide : (3 : Int64).toInt = 3)] at f_9 f_10 f_87 f_88; omega)
      · exact False.elim (by simp only [tI_lt, tI_le, tI_eq, tL_lt, tL_le, tL_eq, tWx, (by decide : (0 : Int32).toInt = 0), (by decide : (0 : Int64).toInt = 0), (by decide : (2 : Int32).toInt = 2), (by decide : (2 : Int64).toInt = 2), (by decide : (3 : Int32).toInt = 3), (by decide : (3 : Int64).toInt = 3)] at f_9 f_10 f_94 f_95; omega)
    · rcases hw2 with ⟨f_50, em, -⟩ | ⟨f_51, f_52, em, -⟩ | ⟨f_53, f_54, f_55, em, -⟩ | ⟨f_56, f_57, f_58, f_59, em, -⟩ | ⟨f_60, f_61, f_62, f_63, f_64, em, -⟩ | ⟨f_65, f_66, f_67, f_68, f_69, f_70, em, -⟩ | ⟨f_71, f_72, f_73, f_74, f_75, f_76, f_77, em, -⟩ | ⟨f_78, f_79, f_80, f_81, f_82, f_83, f_84, em, -⟩ | ⟨f_85, f_86, f_87, f_88, f_89, f_90, f_91, em, -⟩ | ⟨f_92, f_93, f_94, f_95, f_96, f_97, f_98, em, -⟩
      · exact False.elim (by simp only [tI_lt, tI_le, tI_eq, tL_lt, tL_le, tL_eq, tWx, (by decide : (0 : Int32).toInt = 0), (by decide : (0 : Int64).toInt = 0), (by decide : (1 : Int32).toInt = 1), (by decide : (1 : Int64).toInt = 1), (by decide : (4 : Int32).toInt = 4)] at f_11 f_12 f_50; omega)
      · exact False.elim (by simp only [tI_lt, tI_le, tI_eq, tL_lt, tL_le, tL_eq, tWx, (by decide : (0 : Int32).toInt = 0), (by decide : (0 : Int64).toInt = 0), (by decide : (1 : Int32).toInt = 1), (by decide : (1 : Int64).toInt = 1), (by decide : (3 : Int64).toInt = 3), (by decide : (4 : Int32).toInt = 4)] at f_11 f_12 f_51 f_52; omega)
      · exact False.elim (by simp only [tI_lt, tI_le, tI_eq, tL_lt, tL_le, tL_eq, tWx, (by decide : (0 : Int32).toInt = 0), (by decide : (0 : Int64).toInt = 0), (by decide : (2 : Int32).toInt = 2), (by decide : (2 : Int64).toInt = 2), (by decide : (3 : Int32).toInt = 3)] at f_13 f_14 f_55; omega)
      · exact False.elim (by simp only [tI_lt, tI_le, tI_eq, tL_lt, tL_le, tL_eq, tWx, (by decide : (0 : Int32).toInt = 0), (by decide : (0 : Int64).toInt = 0), (by decide : (2 : Int32).toInt = 2), (by decide : (2 : Int64).toInt = 2), (by decide : (3 : Int32).toInt = 3), (by decide : (3 : Int64).toInt = 3)] at f_13 f_14 f_58 f_59; omega)
      · exact ex.trans em.symm
      · exact ex.trans em.symm
      · exact False.elim (by simp only [tI_lt, tI_le, tI_eq, tL_lt, tL_le, tL_eq, tWx, (by decide : (0 : Int32).toInt = 0), (by decide : (0 : Int64).toInt = 0), (by decide : (3 : Int32).toInt = 3), (by decide : (3 : Int64).toInt = 3), (by decide : (40 : Int64).toInt = 40)] at f_15 f_75 f_76; omega)
      · exact False.elim (by simp only [tI_lt, tI_le, tI_eq, tL_lt, tL_le, tL_eq, tWx, (by decide : (0 : Int32).toInt = 0), (by decide : (0 : Int64).toInt = 0), (by decide : (3 : Int32).toInt = 3), (by decide : (3 : Int64).toInt = 3), (by decide : (40 : Int64).toInt = 40)] at f_15 f_82 f_83; omega)
      · exact False.elim (by simp only [tI_lt, tI_le, tI_eq, tL_lt, tL_le, tL_eq, tWx, (by decide : (0 : Int32).toInt = 0), (by decide : (0 : Int64).toInt = 0), (by decide : (3 : Int32).toInt = 3), (by decide : (3 : Int64).toInt = 3), (by decide : (40 : Int64).toInt = 40)] at f_15 f_89 f_90; omega)
      · exact False.elim (by simp only [tI_lt, tI_le, tI_eq, tL_lt, tL_le, tL_eq, tWx, (by decide : (0 : Int32).toInt = 0), (by decide : (0 : Int64).toInt = 0), (by decide : (3 : Int32).toInt = 3), (by decide : (3 : Int64).toInt = 3), (by decide : (40 : Int64).toInt = 40)] at f_15 f_96 f_97; omega)
    · rcases hw2 with ⟨f_50, em, -⟩ | ⟨f_51, f_52, em, -⟩ | ⟨f_53, f_54, f_55, em, -⟩ | ⟨f_56, f_57, f_58, f_59, em, -⟩ | ⟨f_60, f_61, f_62, f_63, f_64, em, -⟩ | ⟨f_65, f_66, f_67, f_68, f_69, f_70, em, -⟩ | ⟨f_71, f_72, f_73, f_74, f_75, f_76, f_77, em, -⟩ | ⟨f_78, f_79, f_80, f_81, f_82, f_83, f_84, em, -⟩ | ⟨f_85, f_86, f_87, f_88, f_89, f_90, f_91, em, -⟩ | ⟨f_92, f_93, f_94, f_95, f_96, f_97, f_98, em, -⟩
      · exact False.elim (by simp only [tI_lt, tI_le, tI_eq, tL_lt, tL_le, tL_eq, tWx, (by decide : (0 : Int32).toInt = 0), (by decide : (0 : Int64).toInt = 0), (by decide : (1 : Int32).toInt = 1), (by decide : (1 : Int64).toInt = 1), (by decide : (4 : Int32).toInt = 4)] at f_16 f_17 f_50; omega)
      · exact False.elim (by simp only [tI_lt, tI_le, tI_eq, tL_lt, tL_le, tL_eq, tWx, (by decide : (0 : Int32).toInt = 0), (by decide : (0 : Int64).toInt = 0), (by decide : (1 : Int32).toInt = 1), (by decide : (1 : Int64).toInt = 1), (by decide : (3 : Int64).toInt = 3), (by decide : (4 : Int32).toInt = 4)] at f_16 f_17 f_51 f_52; omega)
      · exact False.elim (by simp only [tI_lt, tI_le, tI_eq, tL_lt, tL_le, tL_eq, tWx, (by decide : (0 : Int32).toInt = 0), (by decide : (0 : Int64).toInt = 0), (by decide : (2 : Int32).toInt = 2), (by decide : (2 : Int64).toInt = 2), (by decide : (3 : Int32).toInt = 3)] at f_18 f_19 f_55; omega)
      · exact False.elim (by simp only [tI_lt, tI_le, tI_eq, tL_lt, tL_le, tL_eq, tWx, (by decide : (0 : Int32).toInt = 0), (by decide : (0 : Int64).toInt = 0), (by decide : (2 : Int32).toInt = 2), (by decide : (2 : Int64).toInt = 2), (by decide : (3 : Int32).toInt = 3), (by decide : (3 : Int64).toInt = 3)] at f_18 f_19 f_58 f_59; omega)
      · exact ex.trans em.symm
      · exact ex.trans em.symm
      · exact False.elim (by simp only [tI_lt, tI_le, tI_eq, tL_lt, tL_le, tL_eq, tWx, (by decide : (0 : Int32).toInt = 0), (by decide : (0 : Int64).toInt = 0), (by decide : (3 : Int32).toInt = 3), (by decide : (3 : Int64).toInt = 3), (by decide : (40 : Int32).toInt = 40), (by decide : (40 : Int64).toInt = 40)] at f_20 f_21 f_75 f_76; omega)
      · exact False.elim (by simp only [tI_lt, tI_le, tI_eq, tL_lt, tL_le, tL_eq, tWx, (by decide : (0 : Int32).toInt = 0), (by decide : (0 : Int64).toInt = 0), (by decide : (3 : Int32).toInt = 3), (by decide : (3 : Int64).toInt = 3), (by decide : (40 : Int32).toInt = 40), (by decide : (40 : Int64).toInt = 40)] at f_20 f_21 f_82 f_83; omega)
      · exact False.elim (by simp only [tI_lt, tI_le, tI_eq, tL_lt, tL_le, tL_eq, tWx, (by decide : (0 : Int32).toInt = 0), (by decide : (0 : Int64).toInt = 0), (by decide : (3 : Int32).toInt = 3), (by decide : (3 : Int64).toInt = 3), (by decide : (40 : Int32).toInt = 40), (by decide : (40 : Int64).toInt = 40)] at f_20 f_21 f_89 f_90; omega)
      · exact False.elim (by simp only [tI_lt, tI_le, tI_eq, tL_lt, tL_le, tL_eq, tWx, (by decide : (0 : Int32).toInt = 0), (by decide : (0 : Int64).toInt = 0), (by decide : (3 : Int32).toInt = 3), (by decide : (3 : Int64).toInt = 3), (by decide : (40 : Int32).toInt = 40), (by decide : (40 : Int64).toInt = 40)] at f_20 f_21 f_96 f_97; omega)
    · rcases hw2 with ⟨f_50, em, -⟩ | ⟨f_51, f_52, em, -⟩ | ⟨f_53, f_54, f_55, em, -⟩ | ⟨f_56, f_57, f_58, f_59, em, -⟩ | ⟨f_60, f_61, f_62, f_63, f_64, em, -⟩ | ⟨f_65, f_66, f_67, f_68, f_69, f_70, em, -⟩ | ⟨f_71, f_72, f_73, f_74, f_75, f_76, f_77, em, -⟩ | ⟨f_78, f_79, f_80, f_81, f_82, f_83, f_84, em, -⟩ | ⟨f_85, f_86, f_87, f_88, f_89, f_90, f_91, em, -⟩ | ⟨f_92, f_93, f_94, f_95, f_96, f_97, f_98, em, -⟩
      · exact False.elim (by simp only [tI_lt, tI_le, tI_eq, tL_lt, tL_le, tL_eq, tWx, (by decide : (0 : Int32).toInt = 0), (by decide : (0 : Int64).toInt = 0), (by decide : (1 : Int32).toInt = 1), (by decide : (1 : Int64).toInt = 1), (by decide : (4 : Int32).toInt = 4)] at f_22 f_23 f_28 f_50; omega)
      · exact False.elim (by simp only [tI_lt, tI_le, tI_eq, tL_lt, tL_le, tL_eq, tWx, (by decide : (0 : Int32).toInt = 0), (by decide : (0 : Int64).toInt = 0), (by decide : (1 : Int32).toInt = 1), (by decide : (1 : Int64).toInt = 1), (by decide : (3 : Int64).toInt = 3), (by decide : (4 : Int32).toInt = 4)] at f_22 f_23 f_28 f_51 f_52; omega)
      · exact False.elim (by simp only [tI_lt, tI_le, tI_eq, tL_lt, tL_le, tL_eq, tWx, (by decide : (0 : Int32).toInt = 0), (by decide : (0 : Int64).toInt = 0), (by decide : (2 : Int32).toInt = 2), (by decide : (2 : Int64).toInt = 2), (by decide : (3 : Int32).toInt = 3)] at f_24 f_25 f_55; omega)
      · exact False.elim (by simp only [tI_lt, tI_le, tI_eq, tL_lt, tL_le, tL_eq, tWx, (by decide : (0 : Int32).toInt = 0), (by decide : (0 : Int64).toInt = 0), (by decide : (2 : Int32).toInt = 2), (by decide : (2 : Int64).toInt = 2), (by decide : (3 : Int32).toInt = 3), (by decide : (3 : Int64).toInt = 3)] at f_24 f_25 f_58 f_59; omega)
      · exact False.elim (by simp only [tI_lt, tI_le, tI_eq, tL_lt, tL_le, tL_eq, tWx, (by decide : (0 : Int32).toInt = 0), (by decide : (0 : Int64).toInt = 0), (by decide : (3 : Int32).toInt = 3), (by decide : (3 : Int64).toInt = 3), (by decide : (40 : Int32).toInt = 40)] at f_26 f_27 f_64; omega)
      · exact False.elim (by simp only [tI_lt, tI_le, tI_eq, tL_lt, tL_le, tL_eq, tWx, (by decide : (0 : Int32).toInt = 0), (by decide : (0 : Int64).toInt = 0), (by decide : (3 : Int32).toInt = 3), (by decide : (3 : Int64).toInt = 3), (by decide : (40 : Int32).toInt = 40), (by decide : (40 : Int64).toInt = 40)] at f_26 f_27 f_69 f_70; omega)
      · exact ex.trans em.symm
      · exact ex.trans em.symm
      · exact ex.trans em.symm
      · exact ex.trans em.symm
    · rcases hw2 with ⟨f_50, em, -⟩ | ⟨f_51, f_52, em, -⟩ | ⟨f_53, f_54, f_55, em, -⟩ | ⟨f_56, f_57, f_58, f_59, em, -⟩ | ⟨f_60, f_61, f_62, f_63, f_64, em, -⟩ | ⟨f_65, f_66, f_67, f_68, f_69, f_70, em, -⟩ | ⟨f_71, f_72, f_73, f_74, f_75, f_76, f_77, em, -⟩ | ⟨f_78, f_79, f_80, f_81, f_82, f_83, f_84, em, -⟩ | ⟨f_85, f_86, f_87, f_88, f_89, f_90, f_91, em, -⟩ | ⟨f_92, f_93, f_94, f_95, f_96, f_97, f_98, em, -⟩
      · exact False.elim (by simp only [tI_lt, tI_le, tI_eq, tL_lt, tL_le, tL_eq, tWx, (by decide : (0 : Int32).toInt = 0), (by decide : (0 : Int64).toInt = 0), (by decide : (1 : Int32).toInt = 1), (by decide : (1 : Int64).toInt = 1), (by decide : (4 : Int32).toInt = 4)] at f_29 f_30 f_35 f_50; omega)
      · exact False.elim (by simp only [tI_lt, tI_le, tI_eq, tL_lt, tL_le, tL_eq, tWx, (by decide : (0 : Int32).toInt = 0), (by decide : (0 : Int64).toInt = 0), (by decide : (1 : Int32).toInt = 1), (by decide : (1 : Int64).toInt = 1), (by decide : (3 : Int64).toInt = 3), (by decide : (4 : Int32).toInt = 4)] at f_29 f_30 f_35 f_51 f_52; omega)
      · exact False.elim (by simp only [tI_lt, tI_le, tI_eq, tL_lt, tL_le, tL_eq, tWx, (by decide : (0 : Int32).toInt = 0), (by decide : (0 : Int64).toInt = 0), (by decide : (2 : Int32).toInt = 2), (by decide : (2 : Int64).toInt = 2), (by decide : (3 : Int32).toInt = 3)] at f_31 f_32 f_55; omega)
      · exact False.elim (by simp only [tI_lt, tI_le, tI_eq, tL_lt, tL_le, tL_eq, tWx, (by decide : (0 : Int32).toInt = 0), (by decide : (0 : Int64).toInt = 0), (by decide : (2 : Int32).toInt = 2), (by decide : (2 : Int64).toInt = 2), (by decide : (3 : Int32).toInt = 3), (by decide : (3 : Int64).toInt = 3)] at f_31 f_32 f_58 f_59; omega)
      · exact False.elim (by simp only [tI_lt, tI_le, tI_eq, tL_lt, tL_le, tL_eq, tWx, (by decide : (0 : Int32).toInt = 0), (by decide : (0 : Int64).toInt = 0), (by decide : (3 : Int32).toInt = 3), (by decide : (3 : Int64).toInt = 3), (by decide : (40 : Int32).toInt = 40)] at f_33 f_34 f_64; omega)
      · exact False.elim (by simp only [tI_lt, tI_le, tI_eq, tL_lt, tL_le, tL_eq, tWx, (by decide : (0 : Int32).toInt = 0), (by decide : (0 : Int64).toInt = 0), (by decide : (3 : Int32).toInt = 3), (by decide : (3 : Int64).toInt = 3), (by decide : (40 : Int32).toInt = 40), (by decide : (40 : Int64).toInt = 40)] at f_33 f_34 f_69 f_70; omega)
      · exact ex.trans em.symm
      · exact ex.trans em.symm
      · exact ex.trans em.symm
      · exact ex.trans em.symm
    · rcases hw2 with ⟨f_50, em, -⟩ | ⟨f_51, f_52, em, -⟩ | ⟨f_53, f_54, f_55, em, -⟩ | ⟨f_56, f_57, f_58, f_59, em, -⟩ | ⟨f_60, f_61, f_62, f_63, f_64, em, -⟩ | ⟨f_65, f_66, f_67, f_68, f_69, f_70, em, -⟩ | ⟨f_71, f_72, f_73, f_74, f_75, f_76, f_77, em, -⟩ | ⟨f_78, f_79, f_80, f_81, f_82, f_83, f_84, em, -⟩ | ⟨f_85, f_86, f_87, f_88, f_89, f_90, f_91, em, -⟩ | ⟨f_92, f_93, f_94, f_95, f_96, f_97, f_98, em, -⟩
      · exact False.elim (by simp only [tI_lt, tI_le, tI_eq, tL_lt, tL_le, tL_eq, tWx, (by decide : (0 : Int32).toInt = 0), (by decide : (0 : Int64).toInt = 0), (by decide : (1 : Int32).toInt = 1), (by decide : (1 : Int64).toInt = 1), (by decide : (2 : Int32).toInt = 2), (by decide : (4 : Int32).toInt = 4)] at f_36 f_37 f_42 f_50; omega)
      · exact False.elim (by simp only [tI_lt, tI_le, tI_eq, tL_lt, tL_le, tL_eq, tWx, (by decide : (0 : Int32).toInt = 0), (by decide : (0 : Int64).toInt = 0), (by decide : (1 : Int32).toInt = 1), (by decide : (1 : Int64).toInt = 1), (by decide : (2 : Int32).toInt = 2), (by decide : (3 : Int64).toInt = 3), (by decide : (4 : Int32).toInt = 4)] at f_36 f_37 f_42 f_51 f_52; omega)
      · exact False.elim (by simp only [tI_lt, tI_le, tI_eq, tL_lt, tL_le, tL_eq, tWx, (by decide : (0 : Int32).toInt = 0), (by decide : (0 : Int64).toInt = 0), (by decide : (2 : Int32).toInt = 2), (by decide : (2 : Int64).toInt = 2), (by decide : (3 : Int32).toInt = 3)] at f_38 f_39 f_55; omega)
      · exact False.elim (by simp only [tI_lt, tI_le, tI_eq, tL_lt, tL_le, tL_eq, tWx, (by decide : (0 : Int32).toInt = 0), (by decide : (0 : Int64).toInt = 0), (by decide : (2 : Int32).toInt = 2), (by decide : (2 : Int64).toInt = 2), (by decide : (3 : Int32).toInt = 3), (by decide : (3 : Int64).toInt = 3)] at f_38 f_39 f_58 f_59; omega)
      · exact False.elim (by simp only [tI_lt, tI_le, tI_eq, tL_lt, tL_le, tL_eq, tWx, (by decide : (0 : Int32).toInt = 0), (by decide : (0 : Int64).toInt = 0), (by decide : (3 : Int32).toInt = 3), (by decide : (3 : Int64).toInt = 3), (by decide : (40 : Int32).toInt = 40)] at f_40 f_41 f_64; omega)
      · exact False.elim (by simp only [tI_lt, tI_le, tI_eq, tL_lt, tL_le, tL_eq, tWx, (by decide : (0 : Int32).toInt = 0), (by decide : (0 : Int64).toInt = 0), (by decide : (3 : Int32).toInt = 3), (by decide : (3 : Int64).toInt = 3), (by decide : (40 : Int32).toInt = 40), (by decide : (40 : Int64).toInt = 40)] at f_40 f_41 f_69 f_70; omega)
      · exact ex.trans em.symm
      · exact ex.trans em.symm
      · exact ex.trans em.symm
      · exact ex.trans em.symm
    · rcases hw2 with ⟨f_50, em, -⟩ | ⟨f_51, f_52, em, -⟩ | ⟨f_53, f_54, f_55, em, -⟩ | ⟨f_56, f_57, f_58, f_59, em, -⟩ | ⟨f_60, f_61, f_62, f_63, f_64, em, -⟩ | ⟨f_65, f_66, f_67, f_68, f_69, f_70, em, -⟩ | ⟨f_71, f_72, f_73, f_74, f_75, f_76, f_77, em, -⟩ | ⟨f_78, f_79, f_80, f_81, f_82, f_83, f_84, em, -⟩ | ⟨f_85, f_86, f_87, f_88, f_89, f_90, f_91, em, -⟩ | ⟨f_92, f_93, f_94, f_95, f_96, f_97, f_98, em, -⟩
      · exact False.elim (by simp only [tI_lt, tI_le, tI_eq, tL_lt, tL_le, tL_eq, tWx, (by decide : (0 : Int32).toInt = 0), (by decide : (0 : Int64).toInt = 0), (by decide : (1 : Int32).toInt = 1), (by decide : (1 : Int64).toInt = 1), (by decide : (3 : Int32).toInt = 3), (by decide : (4 : Int32).toInt = 4)] at f_43 f_44 f_49 f_50; omega)
      · exact False.elim (by simp only [tI_lt, tI_le, tI_eq, tL_lt, tL_le, tL_eq, tWx, (by decide : (0 : Int32).toInt = 0), (by decide : (0 : Int64).toInt = 0), (by decide : (1 : Int32).toInt = 1), (by decide : (1 : Int64).toInt = 1), (by decide : (3 : Int32).toInt = 3), (by decide : (3 : Int64).toInt = 3), (by decide : (4 : Int32).toInt = 4)] at f_43 f_44 f_49 f_51 f_52; omega)
      · exact False.elim (by simp only [tI_lt, tI_le, tI_eq, tL_lt, tL_le, tL_eq, tWx, (by decide : (0 : Int32).toInt = 0), (by decide : (0 : Int64).toInt = 0), (by decide : (2 : Int32).toInt = 2), (by decide : (2 : Int64).toInt = 2), (by decide : (3 : Int32).toInt = 3)] at f_45 f_46 f_55; omega)
      · exact False.elim (by simp only [tI_lt, tI_le, tI_eq, tL_lt, tL_le, tL_eq, tWx, (by decide : (0 : Int32).toInt = 0), (by decide : (0 : Int64).toInt = 0), (by decide : (2 : Int32).toInt = 2), (by decide : (2 : Int64).toInt = 2), (by decide : (3 : Int32).toInt = 3), (by decide : (3 : Int64).toInt = 3)] at f_45 f_46 f_58 f_59; omega)
      · exact False.elim (by simp only [tI_lt, tI_le, tI_eq, tL_lt, tL_le, tL_eq, tWx, (by decide : (0 : Int32).toInt = 0), (by decide : (0 : Int64).toInt = 0), (by decide : (3 : Int32).toInt = 3), (by decide : (3 : Int64).toInt = 3), (by decide : (40 : Int32).toInt = 40)] at f_47 f_48 f_64; omega)
      · exact False.elim (by simp only [tI_lt, tI_le, tI_eq, tL_lt, tL_le, tL_eq, tWx, (by decide : (0 : Int32).toInt = 0), (by decide : (0 : Int64).toInt = 0), (by decide : (3 : Int32).toInt = 3), (by decide : (3 : Int64).toInt = 3), (by decide : (40 : Int32).toInt = 40), (by decide : (40 : Int64).toInt = 40)] at f_47 f_48 f_69 f_70; omega)
      · exact ex.trans em.symm
      · exact ex.trans em.symm
      · exact ex.trans em.symm
      · exact ex.trans em.symm
  refine lv_icmp_eq (tgt := 1549) hx hb dL_law_1368 (by decide) (fun _ => ?_) (fun c_1 => absurd e9 c_1)
  exact law_end C0 (Nat.le_of_ble_eq_true rfl) (Nat.le_of_ble_eq_true rfl) hS (lv_sub hl [0, 3] rfl)
