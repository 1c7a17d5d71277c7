theorem q_2_93 : Cond.code yX9_coast prog_1_method_4_code 3 (some FieldType.int) ∈ gw := gw_2 (i := 93) (rfl) rfl
theorem q_2_91 : Cond.instanceMethod yX9_coast ∈ gw := gw_2 (i := 91) (by decide +kernel) rfl
theorem q_2_92 : Cond.selects "BeaconDelay" yX9_coast yX9_coast ∈ gw := gw_2 (i := 92) (by decide +kernel) rfl
theorem mt_X9_coast : MtV yX9_coast cX9_coast 3 (some .int) 1 := ⟨⟨q_2_93, q_1_1, by decide +kernel, by decide +kernel, by decide +kernel⟩, q_2_91, q_2_92⟩
theorem q_2_90 : Cond.methodLink "BeaconDelayLaw" 18 yX9_coast ∈ gw := gw_2 (i := 90) (by decide +kernel) rfl
theorem dL_law_293 : decode cL_law 293 = .ok (.invokevirtual 18, 3) := by decide +kernel
set_option maxHeartbeats 4000000 in
set_option maxRecDepth 100000 in
theorem cx_1_0 {p : Program} {e : Env} {s : State} {m : MethodId} {below : List Frame} {meth : Method} {c : Code} {l : Launch} {b Lk : Nat} {xs : Nat → Int32} {V : GV} {y : Nat → Nat} {H : Heap} {locs : List Loc} {cells slots : Nat} {wz : va_W} {ls : Array Slot} (G : LCx p s m meth c b Lk xs V) (a1 : Int32) {pp : Nat → Int32} {ff : Nat → Nat → Int32} {gg : Nat → Nat → Int64} (hp : ivT tX pp) (hc : cells + 116 ≤ 600000 ∧ slots + 633553 ≤ 7302250)  (hP : va_P V.1 vwCl (wB V y pp ff gg .null .null ++ [] ++ wz) H) (hD : va_D (AAs s) (wB V y pp ff gg .null .null ++ [] ++ wz)) (hS : va_S (AAs s) s.heap H locs) (hlz : ls.size = 4) (kk : (∀ (r : Int32) (H : Heap) (locs : List Loc) (cells slots : Nat) (wx : va_W), KX V y cells slots wx → va_P V.1 vwCl (wx ++ wz) H → va_D (AAs s) (wx ++ wz) → va_S (AAs s) s.heap H locs → W p l e room_1 s m #[Value.ref b] below meth c H locs cells slots (lw_Z below #[Value.ref b] s) (F0 m 296 ls [.int r]))) : W p l e room_1 s m #[Value.ref b] below meth c H locs cells slots (lw_Z below #[Value.ref b] s) (F0 m 293 ls [.int a1, .ref (y 0)]) := by
  refine cSI (X := wB V y pp ff gg .null .null ++ []) (pl := wz) (rest := []) G (k_X9_coast_0 l V y a1 (pp 0) (.null) (pp 1) (pp 2) (pp 3) (ff 0) (pp 4) (pp 5) (pp 6) (pp 7) (pp 8) (pp 9) (pp 10) (pp 11) (pp 12) (pp 13) (pp 14) (ff 1) (ff 2) (ff 3) (ff 4) (ff 5) (ff 6) (ff 7) (pp 15) (pp 16) (pp 17) (pp 18) (pp 19) (pp 20) (pp 21) (pp 22) (pp 23) (pp 24) (pp 25) (pp 26) (pp 27) (pp 28) (pp 29) (pp 30) (pp 31) (pp 32) (ff 8) (ff 9) (ff 10) (ff 11) (ff 12) (ff 13) (ff 14) (ff 15) (pp 35) (hp 0) (hp 5) (hp 6) (hp 7) (hp 10) (hp 11) (hp 12) (hp 13) (hp 14) (hp 17) (hp 19) (hp 20) (hp 23) (hp 24) (hp 25) (hp 28) (hp 29) (hp 30) (hp 31) (hp 32) (hp 35)) mt_X9_coast q_2_90 ⟨Nat.le_of_ble_eq_true rfl, Nat.le_of_ble_eq_true rfl⟩ hP hD hS [0, 1, 2, 3, 4, 5, 6, 7, 8, 9, 10, 11, 12, 13, 14, 15, 16, 17, 18, 19, 20, 26] [0, 0, 0, 0, 0, 0, 0, 0, 0, 0, 0, 0, 0, 0, 0, 0, 0, 0, 0, 0, 0, 5] (by decide) (by decide +kernel) rfl 0 rfl rfl rfl rfl hlz rfl (Nat.le_of_ble_eq_true rfl) dL_law_293 (by omega) (fun r w H locs hw hPD hS => ?_)
  refine Exists.elim hw (fun v0 hw => ?_)
  refine Exists.elim hw (fun v1 hw => ?_)
  refine Exists.elim hw (fun v2 hw => ?_)
  refine Exists.elim hw (fun v3 hw => ?_)
  refine Exists.elim hw (fun v4 hw => ?_)
  refine Exists.elim hw (fun v5 hw => ?_)
  refine Exists.elim hw (fun v6 hw => ?_)
  refine Exists.elim hw (fun v7 hw => ?_)
  refine Exists.elim hw (fun v8 hw => ?_)
  refine Exists.elim hw (fun v9 hw => ?_)
  refine Exists.elim hw (fun v10 hw => ?_)
  refine Exists.elim hw (fun v11 hw => ?_)
  refine Exists.elim hw (fun v12 hw => ?_)
  refine Exists.elim hw (fun v13 hw => ?_)
  refine Exists.elim hw (fun v14 hw => ?_)
  refine Exists.elim hw (fun g15 hw => ?_)
  refine Exists.elim hw (fun g16 hw => ?_)
  refine Exists.elim hw (fun g17 hw => ?_)
  refine Exists.elim hw (fun g18 hw => ?_)
  refine Exists.elim hw (fun g19 hw => ?_)
  refine Exists.elim hw (fun g20 hw => ?_)
  refine Exists.elim hw (fun g21 hw => ?_)
  refine Exists.elim hw (fun v22 hw => ?_)
  refine Exists.elim hw (fun v23 hw => ?_)
  refine Exists.elim hw (fun v24 hw => ?_)
  refine Exists.elim hw (fun v25 hw => ?_)
  refine Exists.elim hw (fun v26 hw => ?_)
  refine Exists.elim hw (fun v27 hw => ?_)
  refine Exists.elim hw (fun v28 hw => ?_)
  refine Exists.elim hw (fun v29 hw => ?_)
  refine Exists.elim hw (fun v30 hw => ?_)
  refine Exists.elim hw (fun v31 hw => ?_)
  refine Exists.elim hw (fun v32 hw => ?_)
  refine Exists.elim hw (fun v33 hw => ?_)
  refine Exists.elim hw (fun v34 hw => ?_)
  refine Exists.elim hw (fun v35 hw => ?_)
  refine Exists.elim hw (fun v36 hw => ?_)
  refine Exists.elim hw (fun v37 hw => ?_)
  refine Exists.elim hw (fun v38 hw => ?_)
  refine Exists.elim hw (fun v39 hw => ?_)
  refine Exists.elim hw (fun g40 hw => ?_)
  refine Exists.elim hw (fun g41 hw => ?_)
  refine Exists.elim hw (fun g42 hw => ?_)
  refine Exists.elim hw (fun g43 hw => ?_)
  refine Exists.elim hw (fun g44 hw => ?_)
  refine Exists.elim hw (fun g45 hw => ?_)
  refine Exists.elim hw (fun g46 hw => ?_)
  refine Exists.elim hw (fun g47 hw => ?_)
  refine Exists.elim hw (fun v48 hw => ?_)
  refine And.elim (fun bv0 hw => ?_) hw
  refine And.elim (fun bv5 hw => ?_) hw
  refine And.elim (fun bv6 hw => ?_) hw
  refine And.elim (fun bv7 hw => ?_) hw
  refine And.elim (fun bv10 hw => ?_) hw
  refine And.elim (fun bv11 hw => ?_) hw
  refine And.elim (fun bv12 hw => ?_) hw
  refine And.elim (fun bv13 hw => ?_) hw
  refine And.elim (fun bv14 hw => ?_) hw
  refine And.elim (fun bv24 hw => ?_) hw
  refine And.elim (fun bv26 hw => ?_) hw
  refine And.elim (fun bv27 hw => ?_) hw
  refine And.elim (fun bv30 hw => ?_) hw
  refine And.elim (fun bv31 hw => ?_) hw
  refine And.elim (fun bv32 hw => ?_) hw
  refine And.elim (fun bv35 hw => ?_) hw
  refine And.elim (fun bv36 hw => ?_) hw
  refine And.elim (fun bv37 hw => ?_) hw
  refine And.elim (fun bv38 hw => ?_) hw
  refine And.elim (fun bv39 hw => ?_) hw
  refine And.elim (fun bv48 hw => ?_) hw
  subst hw
  obtain ⟨hP, hD⟩ := hPD (wB V y (br9 36 (br9 18 (br9 9 (br9 4 (br9 2 (br9 1 (lf9 v0) (lf9 v1)) (br9 3 (lf9 v2) (lf9 v3))) (br9 6 (br9 5 (lf9 v4) (lf9 v5)) (br9 7 (lf9 v6) (br9 8 (lf9 v7) (lf9 v8))))) (br9 13 (br9 11 (br9 10 (lf9 v9) (lf9 v10)) (br9 12 (lf9 v11) (lf9 v12))) (br9 15 (br9 14 (lf9 v13) (lf9 v14)) (br9 16 (lf9 v22) (br9 17 (lf9 v23) (lf9 v24)))))) (br9 27 (br9 22 (br9 20 (br9 19 (lf9 v25) (lf9 v26)) (br9 21 (lf9 v27) (lf9 v28))) (br9 24 (br9 23 (lf9 v29) (lf9 v30)) (br9 25 (lf9 v31) (br9 26 (lf9 v32) (lf9 v33))))) (br9 31 (br9 29 (br9 28 (lf9 v34) (lf9 v35)) (br9 30 (lf9 v36) (lf9 v37))) (br9 33 (br9 32 (lf9 v38) (lf9 v39)) (br9 34 pp (br9 35 pp (lf9 v48))))))) pp) (br9 16 (br9 8 (br9 4 (br9 2 (br9 1 ff (lf9 g15)) (br9 3 (lf9 g16) (lf9 g17))) (br9 6 (br9 5 (lf9 g18) (lf9 g19)) (br9 7 (lf9 g20) (lf9 g21)))) (br9 12 (br9 10 (br9 9 (lf9 g40) (lf9 g41)) (br9 11 (lf9 g42) (lf9 g43))) (br9 14 (br9 13 (lf9 g44) (lf9 g45)) (br9 15 (lf9 g46) (lf9 g47))))) ff) gg .null .null ++ []) rfl rfl
  exact kk r H locs (cells + 0) (slots + 0) _ ⟨(br9 36 (br9 18 (br9 9 (br9 4 (br9 2 (br9 1 (lf9 v0) (lf9 v1)) (br9 3 (lf9 v2) (lf9 v3))) (br9 6 (br9 5 (lf9 v4) (lf9 v5)) (br9 7 (lf9 v6) (br9 8 (lf9 v7) (lf9 v8))))) (br9 13 (br9 11 (br9 10 (lf9 v9) (lf9 v10)) (br9 12 (lf9 v11) (lf9 v12))) (br9 15 (br9 14 (lf9 v13) (lf9 v14)) (br9 16 (lf9 v22) (br9 17 (lf9 v23) (lf9 v24)))))) (br9 27 (br9 22 (br9 20 (br9 19 (lf9 v25) (lf9 v26)) (br9 21 (lf9 v27) (lf9 v28))) (br9 24 (br9 23 (lf9 v29) (lf9 v30)) (br9 25 (lf9 v31) (br9 26 (lf9 v32) (lf9 v33))))) (br9 31 (br9 29 (br9 28 (lf9 v34) (lf9 v35)) (br9 30 (lf9 v36) (lf9 v37))) (br9 33 (br9 32 (lf9 v38) (lf9 v39)) (br9 34 pp (br9 35 pp (lf9 v48))))))) pp), (br9 16 (br9 8 (br9 4 (br9 2 (br9 1 ff (lf9 g15)) (br9 3 (lf9 g16) (lf9 g17))) (br9 6 (br9 5 (lf9 g18) (lf9 g19)) (br9 7 (lf9 g20) (lf9 g21)))) (br9 12 (br9 10 (br9 9 (lf9 g40) (lf9 g41)) (br9 11 (lf9 g42) (lf9 g43))) (br9 14 (br9 13 (lf9 g44) (lf9 g45)) (br9 15 (lf9 g46) (lf9 g47))))) ff), gg, .null, .null, [], (ivG_t 36 (ivG_b 18 (ivG_b 9 (ivG_b 4 (ivG_b 2 (ivG_b 1 (ivG_l 0 bv0) (ivG_l 1 (iv_top v1))) (ivG_b 3 (ivG_l 2 (iv_top v2)) (ivG_l 3 (iv_top v3)))) (ivG_b 6 (ivG_b 5 (ivG_l 4 (iv_top v4)) (ivG_l 5 bv5)) (ivG_b 7 (ivG_l 6 bv6) (ivG_b 8 (ivG_l 7 bv7) (ivG_l 8 (iv_top v8)))))) (ivG_b 13 (ivG_b 11 (ivG_b 10 (ivG_l 9 (iv_top v9)) (ivG_l 10 bv10)) (ivG_b 12 (ivG_l 11 bv11) (ivG_l 12 bv12))) (ivG_b 15 (ivG_b 14 (ivG_l 13 bv13) (ivG_l 14 bv14)) (ivG_b 16 (ivG_l 15 (iv_top v22)) (ivG_b 17 (ivG_l 16 (iv_top v23)) (ivG_l 17 bv24)))))) (ivG_b 27 (ivG_b 22 (ivG_b 20 (ivG_b 19 (ivG_l 18 (iv_top v25)) (ivG_l 19 bv26)) (ivG_b 21 (ivG_l 20 bv27) (ivG_l 21 (iv_top v28)))) (ivG_b 24 (ivG_b 23 (ivG_l 22 (iv_top v29)) (ivG_l 23 bv30)) (ivG_b 25 (ivG_l 24 bv31) (ivG_b 26 (ivG_l 25 bv32) (ivG_l 26 (iv_top v33)))))) (ivG_b 31 (ivG_b 29 (ivG_b 28 (ivG_l 27 (iv_top v34)) (ivG_l 28 bv35)) (ivG_b 30 (ivG_l 29 bv36) (ivG_l 30 bv37))) (ivG_b 33 (ivG_b 32 (ivG_l 31 bv38) (ivG_l 32 bv39)) (ivG_b 34 (ivG_p hp) (ivG_b 35 (ivG_p hp) (ivG_l 35 bv48))))))) hp), Or.inl ⟨rfl, rfl, rfl, hc⟩, rfl⟩ hP hD hS
set_option maxHeartbeats 4000000 in
set_option maxRecDepth 100000 in
theorem cx_1_a {p : Program} {e : Env} {s : State} {m : MethodId} {below : List Frame} {meth : Method} {c : Code} {l : Launch} {b Lk : Nat} {xs : Nat → Int32} {V : GV} {y : Nat → Nat} {H : Heap} {locs : List Loc} {cells slots : Nat} {wz : va_W} {ls : Array Slot} (G : LCx p s m meth c b Lk xs V) (a1 : Int32) {pp : Nat → Int32} {ff : Nat → Nat → Int32} {gg : Nat → Nat → Int64} {n L : Nat} {Yw : Nat → Nat} {wa wb : Nat} {qq : Nat → Int32} {ee : Nat → Nat → Int32} {o11 : Value} {fr : va_W} {fm : Nat} (hp : ivT tX pp) (hW : WFa n L qq ee) (hF : RFo V o11 fr fm) (hT : PTn cells slots n fm (qq 0))  (hP : va_P V.1 vwCl (wB V y pp ff gg (.ref (Yw 0)) o11 ++ (wY V y n L Yw wa wb qq ee ++ fr) ++ wz) H) (hD : va_D (AAs s) (wB V y pp ff gg (.ref (Yw 0)) o11 ++ (wY V y n L Yw wa wb qq ee ++ fr) ++ wz)) (hS : va_S (AAs s) s.heap H locs) (hlz : ls.size = 4) (kk : (∀ (r : Int32) (H : Heap) (locs : List Loc) (cells slots : Nat) (wx : va_W), KX V y cells slots wx → va_P V.1 vwCl (wx ++ wz) H → va_D (AAs s) (wx ++ wz) → va_S (AAs s) s.heap H locs → W p l e room_1 s m #[Value.ref b] below meth c H locs cells slots (lw_Z below #[Value.ref b] s) (F0 m 296 ls [.int r]))) : W p l e room_1 s m #[Value.ref b] below meth c H locs cells slots (lw_Z below #[Value.ref b] s) (F0 m 293 ls [.int a1, .ref (y 0)]) := by
  obtain ⟨hn, hL, hw_q0, hw_q5, hw_q6, hw_q14, hw_q16, hw_tYw1, hw_tYw4, hw_tYw5, hw_tYw6, hw_tYw7, hw_WA, hw_WB, hw_WC⟩ := id hW
  rw [as4] at hP hD
  refine cSI (X := wB V y pp ff gg (.ref (Yw 0)) o11 ++ wY V y n L Yw wa wb qq ee) (pl := fr ++ wz) (rest := []) G (k_X9_coast_1 l V n L Yw y a1 (pp 0) o11 (pp 1) (pp 2) (pp 3) (ff 0) (pp 4) (pp 5) (pp 6) (pp 7) (pp 8) (pp 9) (pp 10) (pp 11) (pp 12) (pp 13) (pp 14) (ff 1) (ff 2) (ff 3) (ff 4) (ff 5) (ff 6) (ff 7) (pp 15) (pp 16) (pp 17) (pp 18) (pp 19) (pp 20) (pp 21) (pp 22) (pp 23) (pp 24) (pp 25) (pp 26) (pp 27) (pp 28) (pp 29) (pp 30) (pp 31) (pp 32) (ff 8) (ff 9) (ff 10) (ff 11) (ff 12) (ff 13) (ff 14) (ff 15) (pp 35) (qq 0) wa (qq 5) (qq 6) wb (qq 14) (qq 15) (qq 16) (ee 0) (ee 1) (ee 3) (ee 5) hn hL (hp 0) (hp 5) (hp 6) (hp 7) (hp 10) (hp 11) (hp 12) (hp 13) (hp 14) (hp 17) (hp 19) (hp 20) (hp 23) (hp 24) (hp 25) (hp 28) (hp 29) (hp 30) (hp 31) (hp 32) (hp 35) hw_q0 hw_q5 hw_q6 hw_q14 hw_q16 hw_tYw1 hw_tYw4 hw_tYw6 hw_WA hw_WB hw_WC) mt_X9_coast q_2_90 ⟨Nat.le_of_ble_eq_true rfl, Nat.le_of_ble_eq_true rfl⟩ hP hD hS [0, 1, 2, 3, 4, 5, 6, 7, 8, 9, 10, 11, 12, 13, 14, 15, 16, 17, 18, 19, 20, 26, 59, 60, 61, 63, 65] [0, 0, 0, 0, 0, 0, 0, 0, 0, 0, 0, 0, 0, 0, 0, 0, 0, 0, 0, 0, 0, 5, 32, 0, 0, 1, 1] (by decide) (by decide +kernel) rfl 0 rfl rfl rfl rfl hlz rfl (Nat.le_of_ble_eq_true rfl) dL_law_293 (PTn_room hT hw_q0) (fun r w H locs hw hPD hS => ?_)
  refine Exists.elim hw (fun v0 hw => ?_)
  refine Exists.elim hw (fun v1 hw => ?_)
  refine Exists.elim hw (fun v2 hw => ?_)
  refine Exists.elim hw (fun v3 hw => ?_)
  refine Exists.elim hw (fun v4 hw => ?_)
  refine Exists.elim hw (fun v5 hw => ?_)
  refine Exists.elim hw (fun v6 hw => ?_)
  refine Exists.elim hw (fun v7 hw => ?_)
  refine Exists.elim hw (fun v8 hw => ?_)
  refine Exists.elim hw (fun v9 hw => ?_)
  refine Exists.elim hw (fun v10 hw => ?_)
  refine Exists.elim hw (fun v11 hw => ?_)
  refine Exists.elim hw (fun v12 hw => ?_)
  refine Exists.elim hw (fun v13 hw => ?_)
  refine Exists.elim hw (fun v14 hw => ?_)
  refine Exists.elim hw (fun g15 hw => ?_)
  refine Exists.elim hw (fun g16 hw => ?_)
  refine Exists.elim hw (fun g17 hw => ?_)
  refine Exists.elim hw (fun g18 hw => ?_)
  refine Exists.elim hw (fun g19 hw => ?_)
  refine Exists.elim hw (fun g20 hw => ?_)
  refine Exists.elim hw (fun g21 hw => ?_)
  refine Exists.elim hw (fun v22 hw => ?_)
  refine Exists.elim hw (fun v23 hw => ?_)
  refine Exists.elim hw (fun v24 hw => ?_)
  refine Exists.elim hw (fun v25 hw => ?_)
  refine Exists.elim hw (fun v26 hw => ?_)
  refine Exists.elim hw (fun v27 hw => ?_)
  refine Exists.elim hw (fun v28 hw => ?_)
  refine Exists.elim hw (fun v29 hw => ?_)
  refine Exists.elim hw (fun v30 hw => ?_)
  refine Exists.elim hw (fun v31 hw => ?_)
  refine Exists.elim hw (fun v32 hw => ?_)
  refine Exists.elim hw (fun v33 hw => ?_)
  refine Exists.elim hw (fun v34 hw => ?_)
  refine Exists.elim hw (fun v35 hw => ?_)
  refine Exists.elim hw (fun v36 hw => ?_)
  refine Exists.elim hw (fun v37 hw => ?_)
  refine Exists.elim hw (fun v38 hw => ?_)
  refine Exists.elim hw (fun v39 hw => ?_)
  refine Exists.elim hw (fun g40 hw => ?_)
  refine Exists.elim hw (fun g41 hw => ?_)
  refine Exists.elim hw (fun g42 hw => ?_)
  refine Exists.elim hw (fun g43 hw => ?_)
  refine Exists.elim hw (fun g44 hw => ?_)
  refine Exists.elim hw (fun g45 hw => ?_)
  refine Exists.elim hw (fun g46 hw => ?_)
  refine Exists.elim hw (fun g47 hw => ?_)
  refine Exists.elim hw (fun v48 hw => ?_)
  refine Exists.elim hw (fun v49 hw => ?_)
  refine Exists.elim hw (fun v50 hw => ?_)
  refine Exists.elim hw (fun g51 hw => ?_)
  refine And.elim (fun bv0 hw => ?_) hw
  refine And.elim (fun bv5 hw => ?_) hw
  refine And.elim (fun bv6 hw => ?_) hw
  refine And.elim (fun bv7 hw => ?_) hw
  refine And.elim (fun bv10 hw => ?_) hw
  refine And.elim (fun bv11 hw => ?_) hw
  refine And.elim (fun bv12 hw => ?_) hw
  refine And.elim (fun bv13 hw => ?_) hw
  refine And.elim (fun bv14 hw => ?_) hw
  refine And.elim (fun bv24 hw => ?_) hw
  refine And.elim (fun bv26 hw => ?_) hw
  refine And.elim (fun bv27 hw => ?_) hw
  refine And.elim (fun bv30 hw => ?_) hw
  refine And.elim (fun bv31 hw => ?_) hw
  refine And.elim (fun bv32 hw => ?_) hw
  refine And.elim (fun bv35 hw => ?_) hw
  refine And.elim (fun bv36 hw => ?_) hw
  refine And.elim (fun bv37 hw => ?_) hw
  refine And.elim (fun bv38 hw => ?_) hw
  refine And.elim (fun bv39 hw => ?_) hw
  refine And.elim (fun bv48 hw => ?_) hw
  refine And.elim (fun bv49 hw => ?_) hw
  refine And.elim (fun bv50 hw => ?_) hw
  refine And.elim (fun bg51 hw => ?_) hw
  refine And.elim (fun g_0 hw => ?_) hw
  refine And.elim (fun g_1 hw => ?_) hw
  refine And.elim (fun g_2 hw => ?_) hw
  subst hw
  obtain ⟨hP, hD⟩ := hPD (wB V y (br9 36 (br9 18 (br9 9 (br9 4 (br9 2 (br9 1 (lf9 v0) (lf9 v1)) (br9 3 (lf9 v2) (lf9 v3))) (br9 6 (br9 5 (lf9 v4) (lf9 v5)) (br9 7 (lf9 v6) (br9 8 (lf9 v7) (lf9 v8))))) (br9 13 (br9 11 (br9 10 (lf9 v9) (lf9 v10)) (br9 12 (lf9 v11) (lf9 v12))) (br9 15 (br9 14 (lf9 v13) (lf9 v14)) (br9 16 (lf9 v22) (br9 17 (lf9 v23) (lf9 v24)))))) (br9 27 (br9 22 (br9 20 (br9 19 (lf9 v25) (lf9 v26)) (br9 21 (lf9 v27) (lf9 v28))) (br9 24 (br9 23 (lf9 v29) (lf9 v30)) (br9 25 (lf9 v31) (br9 26 (lf9 v32) (lf9 v33))))) (br9 31 (br9 29 (br9 28 (lf9 v34) (lf9 v35)) (br9 30 (lf9 v36) (lf9 v37))) (br9 33 (br9 32 (lf9 v38) (lf9 v39)) (br9 34 pp (br9 35 pp (lf9 v48))))))) pp) (br9 16 (br9 8 (br9 4 (br9 2 (br9 1 ff (lf9 g15)) (br9 3 (lf9 g16) (lf9 g17))) (br9 6 (br9 5 (lf9 g18) (lf9 g19)) (br9 7 (lf9 g20) (lf9 g21)))) (br9 12 (br9 10 (br9 9 (lf9 g40) (lf9 g41)) (br9 11 (lf9 g42) (lf9 g43))) (br9 14 (br9 13 (lf9 g44) (lf9 g45)) (br9 15 (lf9 g46) (lf9 g47))))) ff) gg (.ref (Yw 0)) o11 ++ wY V y n L Yw wa wb (up9 (up9 qq 5 v49) 16 v50) (up9 ee 3 g51)) rfl rfl
  rw [← as4] at hP hD
  exact kk r H locs (cells + 0) (slots + 0) _ ⟨(br9 36 (br9 18 (br9 9 (br9 4 (br9 2 (br9 1 (lf9 v0) (lf9 v1)) (br9 3 (lf9 v2) (lf9 v3))) (br9 6 (br9 5 (lf9 v4) (lf9 v5)) (br9 7 (lf9 v6) (br9 8 (lf9 v7) (lf9 v8))))) (br9 13 (br9 11 (br9 10 (lf9 v9) (lf9 v10)) (br9 12 (lf9 v11) (lf9 v12))) (br9 15 (br9 14 (lf9 v13) (lf9 v14)) (br9 16 (lf9 v22) (br9 17 (lf9 v23) (lf9 v24)))))) (br9 27 (br9 22 (br9 20 (br9 19 (lf9 v25) (lf9 v26)) (br9 21 (lf9 v27) (lf9 v28))) (br9 24 (br9 23 (lf9 v29) (lf9 v30)) (br9 25 (lf9 v31) (br9 26 (lf9 v32) (lf9 v33))))) (br9 31 (br9 29 (br9 28 (lf9 v34) (lf9 v35)) (br9 30 (lf9 v36) (lf9 v37))) (br9 33 (br9 32 (lf9 v38) (lf9 v39)) (br9 34 pp (br9 35 pp (lf9 v48))))))) pp), (br9 16 (br9 8 (br9 4 (br9 2 (br9 1 ff (lf9 g15)) (br9 3 (lf9 g16) (lf9 g17))) (br9 6 (br9 5 (lf9 g18) (lf9 g19)) (br9 7 (lf9 g20) (lf9 g21)))) (br9 12 (br9 10 (br9 9 (lf9 g40) (lf9 g41)) (br9 11 (lf9 g42) (lf9 g43))) (br9 14 (br9 13 (lf9 g44) (lf9 g45)) (br9 15 (lf9 g46) (lf9 g47))))) ff), gg, .ref (Yw 0), o11, _, (ivG_t 36 (ivG_b 18 (ivG_b 9 (ivG_b 4 (ivG_b 2 (ivG_b 1 (ivG_l 0 bv0) (ivG_l 1 (iv_top v1))) (ivG_b 3 (ivG_l 2 (iv_top v2)) (ivG_l 3 (iv_top v3)))) (ivG_b 6 (ivG_b 5 (ivG_l 4 (iv_top v4)) (ivG_l 5 bv5)) (ivG_b 7 (ivG_l 6 bv6) (ivG_b 8 (ivG_l 7 bv7) (ivG_l 8 (iv_top v8)))))) (ivG_b 13 (ivG_b 11 (ivG_b 10 (ivG_l 9 (iv_top v9)) (ivG_l 10 bv10)) (ivG_b 12 (ivG_l 11 bv11) (ivG_l 12 bv12))) (ivG_b 15 (ivG_b 14 (ivG_l 13 bv13) (ivG_l 14 bv14)) (ivG_b 16 (ivG_l 15 (iv_top v22)) (ivG_b 17 (ivG_l 16 (iv_top v23)) (ivG_l 17 bv24)))))) (ivG_b 27 (ivG_b 22 (ivG_b 20 (ivG_b 19 (ivG_l 18 (iv_top v25)) (ivG_l 19 bv26)) (ivG_b 21 (ivG_l 20 bv27) (ivG_l 21 (iv_top v28)))) (ivG_b 24 (ivG_b 23 (ivG_l 22 (iv_top v29)) (ivG_l 23 bv30)) (ivG_b 25 (ivG_l 24 bv31) (ivG_b 26 (ivG_l 25 bv32) (ivG_l 26 (iv_top v33)))))) (ivG_b 31 (ivG_b 29 (ivG_b 28 (ivG_l 27 (iv_top v34)) (ivG_l 28 bv35)) (ivG_b 30 (ivG_l 29 bv36) (ivG_l 30 bv37))) (ivG_b 33 (ivG_b 32 (ivG_l 31 bv38) (ivG_l 32 bv39)) (ivG_b 34 (ivG_p hp) (ivG_b 35 (ivG_p hp) (ivG_l 35 bv48))))))) hp), Or.inr ⟨n, L, Yw, wa, wb, (up9 (up9 qq 5 v49) 16 v50), (up9 ee 3 g51), fr, fm, ⟨hn, hL, hw_q0, bv49, hw_q6, hw_q14, bv50, hw_tYw1, bg51, hw_tYw5, hw_tYw6, hw_tYw7, g_0, g_1, g_2⟩, hF, hT, rfl, rfl⟩, rfl⟩ hP hD hS
set_option maxHeartbeats 4000000 in
set_option maxRecDepth 100000 in
theorem cx_1 {p : Program} {e : Env} {s : State} {m : MethodId} {below : List Frame} {meth : Method} {c : Code} {l : Launch} {b Lk : Nat} {xs : Nat → Int32} {V : GV} {y : Nat → Nat} {H : Heap} {locs : List Loc} {cells slots : Nat} {wz : va_W} {ls : Array Slot} (G : LCx p s m meth c b Lk xs V) (a1 : Int32) {wx : va_W} (kx : KX V y cells slots wx) (hP : va_P V.1 vwCl (wx ++ wz) H) (hD : va_D (AAs s) (wx ++ wz)) (hS : va_S (AAs s) s.heap H locs) (hlz : ls.size = 4) (kk : (∀ (r : Int32) (H : Heap) (locs : List Loc) (cells slots : Nat) (wx : va_W), KX V y cells slots wx → va_P V.1 vwCl (wx ++ wz) H → va_D (AAs s) (wx ++ wz) → va_S (AAs s) s.heap H locs → W p l e room_1 s m #[Value.ref b] below meth c H locs cells slots (lw_Z below #[Value.ref b] s) (F0 m 296 ls [.int r]))) : W p l e room_1 s m #[Value.ref b] below meth c H locs cells slots (lw_Z below #[Value.ref b] s) (F0 m 293 ls [.int a1, .ref (y 0)]) := by
  obtain ⟨pp, ff, gg, o10, o11, rest, hp, hR, rfl⟩ := kx
  rcases hR with ⟨rfl, rfl, rfl, hc⟩ | ⟨n, L, Yw, wa, wb, qq, ee, fr, fm, hW, hF, hT, rfl, rfl⟩
  · exact cx_1_0 G _ hp hc hP hD hS hlz kk
  · exact cx_1_a G _ hp hW hF hT hP hD hS hlz kk
