set_option maxHeartbeats 4000000 in
set_option maxRecDepth 100000 in
theorem cx_35_gb {p : Program} {e : Env} {s : State} {m : MethodId} {below : List Frame} {meth : Method} {c : Code} {l : Launch} {b Lk : Nat} {xs : Nat → Int32} {V : GV} {y : Nat → Nat} {H : Heap} {locs : List Loc} {cells slots : Nat} {wz : va_W} {ls : Array Slot} (G : LCx p s m meth c b Lk xs V) (a1 : Int32) (a2 : Int32) {pp : Nat → Int32} {ff : Nat → Nat → Int32} {gg : Nat → Nat → Int64} {n L : Nat} {Yw : Nat → Nat} {wa wb : Nat} {qq : Nat → Int32} {ee : Nat → Nat → Int32} {fm : Nat} {Yg : Nat → Nat} {rr : Nat → Int32} {uu : Nat → Nat → Int32} (hfm : 1 ≤ fm ∧ fm ≤ 7291) (hv_r6 : iv 0 (2 * (fm : Int)) (rr 6)) (hv_tYg1 : (∀ j, iv (-1) (2 * (fm : Int)) ((uu 0) j))) (hv_tYg3 : (∀ j, iv 0 (2 * (fm : Int) - 1) ((uu 2) j))) (hv_tYg4 : (∀ j, iv 0 (4 * (fm : Int)) ((uu 3) j))) (hv_tYg5 : (∀ j, iv 0 ((fm : Int) - 1) ((uu 4) j))) (hp : ivT tX pp) (ht_y1 : (∀ j, iv (-128) 127 ((ff 0) j))) (ht_y20 : (∀ j, iv 0 10 ((ff 15) j))) (ht_y27 : (∀ j, iv 0 9999 ((ff 20) j))) (ht_y28 : (∀ j, iv 0 9 ((ff 21) j))) (ht_y32 : (∀ j, iv 0 9999 ((ff 23) j))) {D9 : Nat → Int32} (hL9 : LW D9 (ff 1) (ff 7) (pp 11) (pp 12) (pp 13) (pp 14)) (hK9 : KN D9 (ff 15)) (hW : WFa n L qq ee) (hT : PTn cells slots n fm (qq 0)) (hq : qq 0 < pp 5) (hg : 0 ≤ (a1 : Int32).toInt ∧ (a1 : Int32).toInt < ((pp 5) : Int32).toInt ∧ 0 ≤ (a2 : Int32).toInt ∧ (a2 : Int32).toInt ≤ 4) (hP : va_P V.1 vwCl (wB V y pp ff gg (.ref (Yw 0)) (.ref (Yg 0)) ++ (wY V y n L Yw wa wb qq ee ++ wO V fm Yg rr uu) ++ wz) H) (hD : va_D (AAs s) (wB V y pp ff gg (.ref (Yw 0)) (.ref (Yg 0)) ++ (wY V y n L Yw wa wb qq ee ++ wO V fm Yg rr uu) ++ wz)) (hS : va_S (AAs s) s.heap H locs) (hlz : ls.size = 4) (kk : (∀ (r : Int32) (H : Heap) (locs : List Loc) (cells slots : Nat) (pp' : Nat → Int32) (ff' : Nat → Nat → Int32) (gg' : Nat → Nat → Int64) (wx : va_W), KX V y cells slots pp' ff' gg' wx → (∀ i ∈ (0 :: 1 :: 2 :: 3 :: 4 :: 5 :: 6 :: 7 :: 10 :: 11 :: 12 :: 13 :: 14 :: 15 :: 16 :: 35 :: 36 :: 37 :: 38 :: 39 :: 40 :: 41 :: 42 :: 43 :: 44 :: 45 :: 46 :: 47 :: 48 :: 49 :: 50 :: 51 :: 54 :: 55 :: 56 :: 57 :: 58 :: 59 :: 60 :: 61 :: 62 :: 63 :: 64 :: 65 :: 66 :: 69 :: 70 :: 71 :: 72 :: 73 :: ([] : List Nat)), pp' i = pp i) ∧ (∀ i ∈ [0, 1, 2, 3, 4, 5, 6, 7, 20, 21, 22, 24, 25, 26, 27, 28, 29, 30, 31, 32, 33, 34, 35, 36, 37], ff' i = ff i) ∧ (∀ i ∈ [0, 1, 2, 3], gg' i = gg i) ∧ KN D9 (ff' 15) → va_P V.1 vwCl (wx ++ wz) H → va_D (AAs s) (wx ++ wz) → va_S (AAs s) s.heap H locs → W p l e room_1 s m #[Value.ref b] below meth c H locs cells slots (lw_Z below #[Value.ref b] s) (F0 m 1223 ls [.int r]))) : W p l e room_1 s m #[Value.ref b] below meth c H locs cells slots (lw_Z below #[Value.ref b] s) (F0 m 1220 ls [.int a2, .int a1, .ref (y 0)]) := by
  obtain ⟨hn, hL, hw_q0, hw_q5, hw_q6, hw_q14, hw_q15, hw_q16, hw_tYw1, hw_tYw4, hw_tYw5, hw_tYw6, hw_tYw7, hw_WA, hw_WB, hw_WC⟩ := id hW
  have hTB := PTn_B 16 82949 hT hw_q0 (hp 5) hq (by decide) (by decide)
  refine cXI (X := wB V y pp ff gg (.ref (Yw 0)) (.ref (Yg 0)) ++ (wY V y n L Yw wa wb qq ee ++ wO V fm Yg rr uu)) (pl := wz) (wr := [(y 1, aB V 900 (ff 0)), (y 4, aI V 4 (ff 2)), (y 5, aI V 4 (ff 3)), (y 6, aI V 8 (ff 4)), (y 7, aI V 8 (ff 5)), (y 8, aI V 8 (ff 6)), (y 10, .inr (6, o6_riiriiiii (y 11) (pp 15) (pp 16) (y 1) (pp 17) (pp 18) (pp 19) (pp 20) (pp 21))), (y 11, .inr (1, o1_iiiiiirrrrrrriiiii (pp 22) (pp 23) (pp 24) (pp 25) (pp 26) (pp 27) (y 12) (y 13) (y 14) (y 15) (y 16) (y 17) (y 18) (pp 28) (pp 29) (pp 30) (pp 31) (pp 32))), (y 12, aI V 4 (ff 8)), (y 13, aI V 4 (ff 9)), (y 14, aI V 4 (ff 10)), (y 15, aI V 8 (ff 11)), (y 16, aI V 8 (ff 12)), (y 17, aI V 8 (ff 13)), (y 18, aI V 900 (ff 14)), (y 23, aI V 10 (ff 18)), (y 24, aI V 10 (ff 19)), (y 25, .inr (0, [.int (pp 33), .int (pp 34)])), (y 26, .inr (5, o5_rrri (y 27) (y 28) (y 29) (pp 35))), (y 27, aI V 10 (ff 20)), (y 28, aI V 10 (ff 21)), (y 29, aI V 10 (ff 22)), (y 30, aT V 4 (va_up (va_up (va_up (va_up (fun _ => none) 0 (some (y 33))) 1 (some (y 35))) 2 (some (y 37))) 3 (some (y 39)))), (y 31, aM V 2 (va_up (va_up (fun _ => none) 0 (some (y 41))) 1 (some (y 50)))), (y 32, aI V 10 (ff 23)), (y 33, .inr (7, o7_rii (y 34) (pp 36) (pp 37))), (y 34, aJ V 40 (gg 0)), (y 35, .inr (7, o7_rii (y 36) (pp 38) (pp 39))), (y 36, aJ V 40 (gg 1)), (y 37, .inr (7, o7_rii (y 38) (pp 40) (pp 41))), (y 38, aJ V 40 (gg 2)), (y 39, .inr (7, o7_rii (y 40) (pp 42) (pp 43))), (y 40, aJ V 40 (gg 3)), (y 41, .inr (3, o3_riiii (y 42) (pp 44) (pp 45) (pp 46) (pp 47))), (y 42, .inr (1, o1_iiiiiirrrrrrriiiii (pp 48) (pp 49) (pp 50) (pp 51) (pp 52) (pp 53) (y 43) (y 44) (y 45) (y 46) (y 47) (y 48) (y 49) (pp 54) (pp 55) (pp 56) (pp 57) (pp 58))), (y 43, aI V 4 (ff 24)), (y 44, aI V 4 (ff 25)), (y 45, aI V 4 (ff 26)), (y 46, aI V 8 (ff 27)), (y 47, aI V 8 (ff 28)), (y 48, aI V 8 (ff 29)), (y 49, aI V 900 (ff 30)), (y 50, .inr (3, o3_riiii (y 51) (pp 59) (pp 60) (pp 61) (pp 62))), (y 51, .inr (1, o1_iiiiiirrrrrrriiiii (pp 63) (pp 64) (pp 65) (pp 66) (pp 67) (pp 68) (y 52) (y 53) (y 54) (y 55) (y 56) (y 57) (y 58) (pp 69) (pp 70) (pp 71) (pp 72) (pp 73))), (y 52, aI V 4 (ff 31)), (y 53, aI V 4 (ff 32)), (y 54, aI V 4 (ff 33)), (y 55, aI V 8 (ff 34)), (y 56, aI V 8 (ff 35)), (y 57, aI V 8 (ff 36)), (y 58, aI V 900 (ff 37))]) (rest := []) G (k_X9_best_6 l V n L fm Yw Yg y D9 a1 a2 (pp 0) (pp 1) (pp 2) (pp 3) (pp 4) (pp 5) (pp 6) (pp 7) (pp 8) (pp 9) (pp 10) (pp 11) (pp 12) (pp 13) (pp 14) (ff 1) (ff 7) (ff 15) (ff 16) (ff 17) (qq 0) wa (qq 5) (qq 6) wb (qq 14) (qq 15) (qq 16) (ee 0) (ee 1) (ee 2) (ee 3) (ee 4) (ee 5) (ee 6) (ee 7) (ee 8) (rr 6) (uu 0) (uu 1) (uu 2) (uu 3) (uu 4) hn hL hfm hq (hp 0) (hp 1) (hp 2) (hp 5) (hp 6) (hp 7) (hp 8) (hp 9) (hp 10) (hp 11) (hp 12) (hp 13) (hp 14) ht_y20 hw_q0 hw_q5 hw_q6 hw_q14 hw_q15 hw_q16 hw_tYw1 hw_tYw4 hw_tYw5 hw_tYw6 hw_tYw7 hv_r6 hv_tYg1 hv_tYg3 hv_tYg4 hv_tYg5 hw_WA hw_WB hw_WC hg.1 hg.2.1 hg.2.2.1 hg.2.2.2 hL9 hK9) mt_X9_best q_5_146 ⟨Nat.le_of_ble_eq_true rfl, Nat.le_of_ble_eq_true rfl⟩ hP hD hS [0, 2, 3, 9, 19, 20, 21, 22, 59, 60, 61, 62, 63, 64, 65, 66, 67, 68, 69, 70, 71, 72, 73, 74] [1, 4, 5, 6, 7, 8, 10, 11, 12, 13, 14, 15, 16, 17, 18, 23, 24, 25, 26, 27, 28, 29, 30, 31, 32, 33, 34, 35, 36, 37, 38, 39, 40, 41, 42, 43, 44, 45, 46, 47, 48, 49, 50, 51, 52, 53, 54, 55, 56, 57, 58] (by decide +kernel) rfl rfl (by decide +kernel) (by decide +kernel) 0 rfl rfl rfl rfl hlz rfl (Nat.le_of_ble_eq_true rfl) dL_law_1220 hTB.1 (fun r w H locs hw hP hD hS => ?_)
  refine Exists.elim hw (fun n1 hw => ?_)
  refine Exists.elim hw (fun L1 hw => ?_)
  refine Exists.elim hw (fun Yw1 hw => ?_)
  refine Exists.elim hw (fun wa1 hw => ?_)
  refine Exists.elim hw (fun wb1 hw => ?_)
  refine Exists.elim hw (fun ft1 hw => ?_)
  refine Exists.elim hw (fun Yf1 hw => ?_)
  refine Exists.elim hw (fun g0 hw => ?_)
  refine Exists.elim hw (fun g1 hw => ?_)
  refine Exists.elim hw (fun g2 hw => ?_)
  refine Exists.elim hw (fun ww0 hw => ?_)
  refine Exists.elim hw (fun ww5 hw => ?_)
  refine Exists.elim hw (fun ww6 hw => ?_)
  refine Exists.elim hw (fun ww14 hw => ?_)
  refine Exists.elim hw (fun ww15 hw => ?_)
  refine Exists.elim hw (fun ww16 hw => ?_)
  refine Exists.elim hw (fun wew1 hw => ?_)
  refine Exists.elim hw (fun wew2 hw => ?_)
  refine Exists.elim hw (fun wew3 hw => ?_)
  refine Exists.elim hw (fun wew4 hw => ?_)
  refine Exists.elim hw (fun wew5 hw => ?_)
  refine Exists.elim hw (fun wew6 hw => ?_)
  refine Exists.elim hw (fun wew7 hw => ?_)
  refine Exists.elim hw (fun wew8 hw => ?_)
  refine Exists.elim hw (fun wew9 hw => ?_)
  refine Exists.elim hw (fun wf6 hw => ?_)
  refine Exists.elim hw (fun wef1 hw => ?_)
  refine Exists.elim hw (fun wef2 hw => ?_)
  refine Exists.elim hw (fun wef3 hw => ?_)
  refine Exists.elim hw (fun wef4 hw => ?_)
  refine Exists.elim hw (fun wef5 hw => ?_)
  refine And.elim (fun hn1 hw => ?_) hw
  refine And.elim (fun hL1 hw => ?_) hw
  refine And.elim (fun hft1 hw => ?_) hw
  refine And.elim (fun bg0 hw => ?_) hw
  refine And.elim (fun bww0 hw => ?_) hw
  refine And.elim (fun bww5 hw => ?_) hw
  refine And.elim (fun bww6 hw => ?_) hw
  refine And.elim (fun bww14 hw => ?_) hw
  refine And.elim (fun bww15 hw => ?_) hw
  refine And.elim (fun bww16 hw => ?_) hw
  refine And.elim (fun bwew1 hw => ?_) hw
  refine And.elim (fun bwew4 hw => ?_) hw
  refine And.elim (fun bwew5 hw => ?_) hw
  refine And.elim (fun bwew6 hw => ?_) hw
  refine And.elim (fun bwew7 hw => ?_) hw
  refine And.elim (fun bwf6 hw => ?_) hw
  refine And.elim (fun bwef1 hw => ?_) hw
  refine And.elim (fun bwef3 hw => ?_) hw
  refine And.elim (fun bwef4 hw => ?_) hw
  refine And.elim (fun bwef5 hw => ?_) hw
  refine And.elim (fun br hw => ?_) hw
  refine And.elim (fun g_0 hw => ?_) hw
  refine And.elim (fun g_1 hw => ?_) hw
  refine And.elim (fun g_2 hw => ?_) hw
  refine And.elim (fun g_3 hw => ?_) hw
  refine And.elim (fun g_4 hw => ?_) hw
  refine And.elim (fun kn9 hw => ?_) hw
  subst hw
  have hP := ptP (ws' := wB V y pp (up9 (up9 (up9 ff 15 g0) 16 g1) 17 g2) gg (.ref (Yw1 0)) (.ref (Yf1 0)) ++ (wY V y n1 L1 Yw1 wa1 wb1 (br9 17 (br9 8 (br9 4 (br9 2 (br9 1 (lf9 ww0) (fun _ => 0)) (fun _ => 0)) (br9 6 (br9 5 (fun _ => 0) (lf9 ww5)) (br9 7 (lf9 ww6) (fun _ => 0)))) (br9 12 (fun _ => 0) (br9 14 (fun _ => 0) (br9 15 (lf9 ww14) (br9 16 (lf9 ww15) (lf9 ww16)))))) (fun _ => 0)) (br9 9 (br9 4 (br9 2 (br9 1 (lf9 wew1) (lf9 wew2)) (br9 3 (lf9 wew3) (lf9 wew4))) (br9 6 (br9 5 (lf9 wew5) (lf9 wew6)) (br9 7 (lf9 wew7) (br9 8 (lf9 wew8) (lf9 wew9))))) (fun _ _ => 0)) ++ wO V (n1 + ft1) Yf1 (up9 (fun _ => 0) 6 wf6) (br9 5 (br9 2 (br9 1 (lf9 wef1) (lf9 wef2)) (br9 3 (lf9 wef3) (br9 4 (lf9 wef4) (lf9 wef5)))) (fun _ _ => 0)))) hP [51, 0, 52, 53, 1, 2, 3, 4, 5, 54, 6, 7, 8, 9, 10, 11, 12, 13, 14, 55, 56, 57, 58, 15, 16, 17, 18, 19, 20, 21, 22, 23, 24, 25, 26, 27, 28, 29, 30, 31, 32, 33, 34, 35, 36, 37, 38, 39, 40, 41, 42, 43, 44, 45, 46, 47, 48, 49, 50, 59, 60, 61, 62, 63, 64, 65, 66, 67, 68, 69, 70, 71, 72, 73, 74] rfl
  have hD := hD.part (cx := wB V y pp (up9 (up9 (up9 ff 15 g0) 16 g1) 17 g2) gg (.ref (Yw1 0)) (.ref (Yf1 0)) ++ (wY V y n1 L1 Yw1 wa1 wb1 (br9 17 (br9 8 (br9 4 (br9 2 (br9 1 (lf9 ww0) (fun _ => 0)) (fun _ => 0)) (br9 6 (br9 5 (fun _ => 0) (lf9 ww5)) (br9 7 (lf9 ww6) (fun _ => 0)))) (br9 12 (fun _ => 0) (br9 14 (fun _ => 0) (br9 15 (lf9 ww14) (br9 16 (lf9 ww15) (lf9 ww16)))))) (fun _ => 0)) (br9 9 (br9 4 (br9 2 (br9 1 (lf9 wew1) (lf9 wew2)) (br9 3 (lf9 wew3) (lf9 wew4))) (br9 6 (br9 5 (lf9 wew5) (lf9 wew6)) (br9 7 (lf9 wew7) (br9 8 (lf9 wew8) (lf9 wew9))))) (fun _ _ => 0)) ++ wO V (n1 + ft1) Yf1 (up9 (fun _ => 0) 6 wf6) (br9 5 (br9 2 (br9 1 (lf9 wef1) (lf9 wef2)) (br9 3 (lf9 wef3) (br9 4 (lf9 wef4) (lf9 wef5)))) (fun _ _ => 0)))) [51, 0, 52, 53, 1, 2, 3, 4, 5, 54, 6, 7, 8, 9, 10, 11, 12, 13, 14, 55, 56, 57, 58, 15, 16, 17, 18, 19, 20, 21, 22, 23, 24, 25, 26, 27, 28, 29, 30, 31, 32, 33, 34, 35, 36, 37, 38, 39, 40, 41, 42, 43, 44, 45, 46, 47, 48, 49, 50, 59, 60, 61, 62, 63, 64, 65, 66, 67, 68, 69, 70, 71, 72, 73, 74] (by decide +kernel) rfl
  exact kk r H locs (cells + 16) (slots + 82949) pp (up9 (up9 (up9 ff 15 g0) 16 g1) 17 g2) gg _ ⟨.ref (Yw1 0), .ref (Yf1 0), _, hp, ht_y1, bg0, ht_y27, ht_y28, ht_y32, Or.inr ⟨n1, L1, Yw1, wa1, wb1, (br9 17 (br9 8 (br9 4 (br9 2 (br9 1 (lf9 ww0) (fun _ => 0)) (fun _ => 0)) (br9 6 (br9 5 (fun _ => 0) (lf9 ww5)) (br9 7 (lf9 ww6) (fun _ => 0)))) (br9 12 (fun _ => 0) (br9 14 (fun _ => 0) (br9 15 (lf9 ww14) (br9 16 (lf9 ww15) (lf9 ww16)))))) (fun _ => 0)), (br9 9 (br9 4 (br9 2 (br9 1 (lf9 wew1) (lf9 wew2)) (br9 3 (lf9 wew3) (lf9 wew4))) (br9 6 (br9 5 (lf9 wew5) (lf9 wew6)) (br9 7 (lf9 wew7) (br9 8 (lf9 wew8) (lf9 wew9))))) (fun _ _ => 0)), _, n1 + ft1, ⟨hn1, hL1, bww0, bww5, bww6, bww14, bww15, bww16, bwew1, bwew4, bwew5, bwew6, bwew7, g_0, g_1, g_2⟩, (Or.inr ⟨Yf1, (up9 (fun _ => 0) 6 wf6), (br9 5 (br9 2 (br9 1 (lf9 wef1) (lf9 wef2)) (br9 3 (lf9 wef3) (br9 4 (lf9 wef4) (lf9 wef5)))) (fun _ _ => 0)), ⟨by omega, by omega⟩, (iv_w bwf6 (by omega)), (fun j => iv_w (bwef1 j) (by omega)), (fun j => iv_w (bwef3 j) (by omega)), (fun j => iv_w (bwef4 j) (by omega)), (fun j => iv_w (bwef5 j) (by omega)), rfl, rfl⟩), (show PTn _ _ _ _ ww0 from by rw [g_3]; exact hTB.2 n1 (n1 + ft1)), rfl, rfl⟩, rfl⟩ ⟨(fun _ _ => rfl), (List.forall_mem_cons.mpr ⟨rfl, (List.forall_mem_cons.mpr ⟨rfl, (List.forall_mem_cons.mpr ⟨rfl, (List.forall_mem_cons.mpr ⟨rfl, (List.forall_mem_cons.mpr ⟨rfl, (List.forall_mem_cons.mpr ⟨rfl, (List.forall_mem_cons.mpr ⟨rfl, (List.forall_mem_cons.mpr ⟨rfl, (List.forall_mem_cons.mpr ⟨rfl, (List.forall_mem_cons.mpr ⟨rfl, (List.forall_mem_cons.mpr ⟨rfl, (List.forall_mem_cons.mpr ⟨rfl, (List.forall_mem_cons.mpr ⟨rfl, (List.forall_mem_cons.mpr ⟨rfl, (List.forall_mem_cons.mpr ⟨rfl, (List.forall_mem_cons.mpr ⟨rfl, (List.forall_mem_cons.mpr ⟨rfl, (List.forall_mem_cons.mpr ⟨rfl, (List.forall_mem_cons.mpr ⟨rfl, (List.forall_mem_cons.mpr ⟨rfl, (List.forall_mem_cons.mpr ⟨rfl, (List.forall_mem_cons.mpr ⟨rfl, (List.forall_mem_cons.mpr ⟨rfl, (List.forall_mem_cons.mpr ⟨rfl, (List.forall_mem_cons.mpr ⟨rfl, (fun _ h => absurd h List.not_mem_nil)⟩)⟩)⟩)⟩)⟩)⟩)⟩)⟩)⟩)⟩)⟩)⟩)⟩)⟩)⟩)⟩)⟩)⟩)⟩)⟩)⟩)⟩)⟩)⟩)⟩), (fun _ _ => rfl), kn9⟩ hP hD hS
set_option maxHeartbeats 4000000 in
set_option maxRecDepth 100000 in
theorem cx_35_fa {p : Program} {e : Env} {s : State} {m : MethodId} {below : List Frame} {meth : Method} {c : Code} {l : Launch} {b Lk : Nat} {xs : Nat → Int32} {V : GV} {y : Nat → Nat} {H : Heap} {locs : List Loc} {cells slots : Nat} {wz : va_W} {ls : Array Slot} (G : LCx p s m meth c b Lk xs V) (a1 : Int32) (a2 : Int32) {pp : Nat → Int32} {ff : Nat → Nat → Int32} {gg : Nat → Nat → Int64} {n L : Nat} {Yw : Nat → Nat} {wa wb : Nat} {qq : Nat → Int32} {ee : Nat → Nat → Int32} {ft : Nat} {Yg : Nat → Nat} {rr : Nat → Int32} {uu : Nat → Nat → Int32} (hfm : 1 ≤ (n + ft) ∧ (n + ft) ≤ 7291) (hv_r6 : iv 0 (2 * ((n + ft : Nat) : Int)) (rr 6)) (hv_tYg1 : (∀ j, iv (-1) (2 * ((n + ft : Nat) : Int)) ((uu 0) j))) (hv_tYg3 : (∀ j, iv 0 (2 * ((n + ft : Nat) : Int) - 1) ((uu 2) j))) (hv_tYg4 : (∀ j, iv 0 (4 * ((n + ft : Nat) : Int)) ((uu 3) j))) (hv_tYg5 : (∀ j, iv 0 (((n + ft : Nat) : Int) - 1) ((uu 4) j))) (hp : ivT tX pp) (ht_y1 : (∀ j, iv (-128) 127 ((ff 0) j))) (ht_y20 : (∀ j, iv 0 10 ((ff 15) j))) (ht_y27 : (∀ j, iv 0 9999 ((ff 20) j))) (ht_y28 : (∀ j, iv 0 9 ((ff 21) j))) (ht_y32 : (∀ j, iv 0 9999 ((ff 23) j))) {D9 : Nat → Int32} (hL9 : LW D9 (ff 1) (ff 7) (pp 11) (pp 12) (pp 13) (pp 14)) (hK9 : KN D9 (ff 15)) (hW : WFa n L qq ee) (hT : PTn cells slots n (n + ft) (qq 0)) (hq : pp 5 ≤ qq 0)  (hP : va_P V.1 vwCl (wB V y pp ff gg (.ref (Yw 0)) (.ref (Yg 0)) ++ (wY V y n L Yw wa wb qq ee ++ wO V (n + ft) Yg rr uu) ++ wz) H) (hD : va_D (AAs s) (wB V y pp ff gg (.ref (Yw 0)) (.ref (Yg 0)) ++ (wY V y n L Yw wa wb qq ee ++ wO V (n + ft) Yg rr uu) ++ wz)) (hS : va_S (AAs s) s.heap H locs) (hlz : ls.size = 4) (kk : (∀ (r : Int32) (H : Heap) (locs : List Loc) (cells slots : Nat) (pp' : Nat → Int32) (ff' : Nat → Nat → Int32) (gg' : Nat → Nat → Int64) (wx : va_W), KX V y cells slots pp' ff' gg' wx → (∀ i ∈ (0 :: 1 :: 2 :: 3 :: 4 :: 5 :: 6 :: 7 :: 10 :: 11 :: 12 :: 13 :: 14 :: 15 :: 16 :: 35 :: 36 :: 37 :: 38 :: 39 :: 40 :: 41 :: 42 :: 43 :: 44 :: 45 :: 46 :: 47 :: 48 :: 49 :: 50 :: 51 :: 54 :: 55 :: 56 :: 57 :: 58 :: 59 :: 60 :: 61 :: 62 :: 63 :: 64 :: 65 :: 66 :: 69 :: 70 :: 71 :: 72 :: 73 :: ([] : List Nat)), pp' i = pp i) ∧ (∀ i ∈ [0, 1, 2, 3, 4, 5, 6, 7, 20, 21, 22, 24, 25, 26, 27, 28, 29, 30, 31, 32, 33, 34, 35, 36, 37], ff' i = ff i) ∧ (∀ i ∈ [0, 1, 2, 3], gg' i = gg i) ∧ KN D9 (ff' 15) → va_P V.1 vwCl (wx ++ wz) H → va_D (AAs s) (wx ++ wz) → va_S (AAs s) s.heap H locs → W p l e room_1 s m #[Value.ref b] below meth c H locs cells slots (lw_Z below #[Value.ref b] s) (F0 m 1223 ls [.int r]))) : W p l e room_1 s m #[Value.ref b] below meth c H locs cells slots (lw_Z below #[Value.ref b] s) (F0 m 1220 ls [.int a2, .int a1, .ref (y 0)]) := by
  obtain ⟨hn, hL, hw_q0, hw_q5, hw_q6, hw_q14, hw_q15, hw_q16, hw_tYw1, hw_tYw4, hw_tYw5, hw_tYw6, hw_tYw7, hw_WA, hw_WB, hw_WC⟩ := id hW
  have hft : 0 ≤ ft ∧ ft ≤ 7290 := by omega
  refine cXI (X := wB V y pp ff gg (.ref (Yw 0)) (.ref (Yg 0)) ++ (wY V y n L Yw wa wb qq ee ++ wO V (n + ft) Yg rr uu)) (pl := wz) (wr := [(y 1, aB V 900 (ff 0)), (y 4, aI V 4 (ff 2)), (y 5, aI V 4 (ff 3)), (y 6, aI V 8 (ff 4)), (y 7, aI V 8 (ff 5)), (y 8, aI V 8 (ff 6)), (y 10, .inr (6, o6_riiriiiii (y 11) (pp 15) (pp 16) (y 1) (pp 17) (pp 18) (pp 19) (pp 20) (pp 21))), (y 11, .inr (1, o1_iiiiiirrrrrrriiiii (pp 22) (pp 23) (pp 24) (pp 25) (pp 26) (pp 27) (y 12) (y 13) (y 14) (y 15) (y 16) (y 17) (y 18) (pp 28) (pp 29) (pp 30) (pp 31) (pp 32))), (y 12, aI V 4 (ff 8)), (y 13, aI V 4 (ff 9)), (y 14, aI V 4 (ff 10)), (y 15, aI V 8 (ff 11)), (y 16, aI V 8 (ff 12)), (y 17, aI V 8 (ff 13)), (y 18, aI V 900 (ff 14)), (y 23, aI V 10 (ff 18)), (y 24, aI V 10 (ff 19)), (y 25, .inr (0, [.int (pp 33), .int (pp 34)])), (y 26, .inr (5, o5_rrri (y 27) (y 28) (y 29) (pp 35))), (y 27, aI V 10 (ff 20)), (y 28, aI V 10 (ff 21)), (y 29, aI V 10 (ff 22)), (y 30, aT V 4 (va_up (va_up (va_up (va_up (fun _ => none) 0 (some (y 33))) 1 (some (y 35))) 2 (some (y 37))) 3 (some (y 39)))), (y 31, aM V 2 (va_up (va_up (fun _ => none) 0 (some (y 41))) 1 (some (y 50)))), (y 32, aI V 10 (ff 23)), (y 33, .inr (7, o7_rii (y 34) (pp 36) (pp 37))), (y 34, aJ V 40 (gg 0)), (y 35, .inr (7, o7_rii (y 36) (pp 38) (pp 39))), (y 36, aJ V 40 (gg 1)), (y 37, .inr (7, o7_rii (y 38) (pp 40) (pp 41))), (y 38, aJ V 40 (gg 2)), (y 39, .inr (7, o7_rii (y 40) (pp 42) (pp 43))), (y 40, aJ V 40 (gg 3)), (y 41, .inr (3, o3_riiii (y 42) (pp 44) (pp 45) (pp 46) (pp 47))), (y 42, .inr (1, o1_iiiiiirrrrrrriiiii (pp 48) (pp 49) (pp 50) (pp 51) (pp 52) (pp 53) (y 43) (y 44) (y 45) (y 46) (y 47) (y 48) (y 49) (pp 54) (pp 55) (pp 56) (pp 57) (pp 58))), (y 43, aI V 4 (ff 24)), (y 44, aI V 4 (ff 25)), (y 45, aI V 4 (ff 26)), (y 46, aI V 8 (ff 27)), (y 47, aI V 8 (ff 28)), (y 48, aI V 8 (ff 29)), (y 49, aI V 900 (ff 30)), (y 50, .inr (3, o3_riiii (y 51) (pp 59) (pp 60) (pp 61) (pp 62))), (y 51, .inr (1, o1_iiiiiirrrrrrriiiii (pp 63) (pp 64) (pp 65) (pp 66) (pp 67) (pp 68) (y 52) (y 53) (y 54) (y 55) (y 56) (y 57) (y 58) (pp 69) (pp 70) (pp 71) (pp 72) (pp 73))), (y 52, aI V 4 (ff 31)), (y 53, aI V 4 (ff 32)), (y 54, aI V 4 (ff 33)), (y 55, aI V 8 (ff 34)), (y 56, aI V 8 (ff 35)), (y 57, aI V 8 (ff 36)), (y 58, aI V 900 (ff 37)), (wa, aI V n (ee 2)), (Yw 7, aI V n (ee 6)), (wb, aI V n (ee 8))]) (rest := []) G (k_X9_best_0 l V n L ft Yw Yg y D9 a1 a2 (pp 0) (pp 1) (pp 2) (pp 3) (pp 4) (pp 5) (pp 6) (pp 7) (pp 8) (pp 9) (pp 10) (pp 11) (pp 12) (pp 13) (pp 14) (ff 1) (ff 7) (ff 15) (ff 16) (ff 17) (qq 0) wa (qq 5) (qq 6) wb (qq 14) (qq 15) (qq 16) (ee 0) (ee 1) (ee 3) (ee 4) (ee 5) (ee 7) (rr 6) (uu 0) (uu 1) (uu 2) (uu 3) (uu 4) hn hL hft hq (hp 0) (hp 1) (hp 2) (hp 5) (hp 6) (hp 7) (hp 8) (hp 9) (hp 10) (hp 11) (hp 12) (hp 13) (hp 14) ht_y20 hw_q0 hw_q5 hw_q6 hw_q14 hw_q15 hw_q16 hw_tYw1 hw_tYw4 hw_tYw5 hw_tYw6 (iv_w hv_r6 (by omega)) (fun j => iv_w (hv_tYg1 j) (by omega)) (fun j => iv_w (hv_tYg3 j) (by omega)) (fun j => iv_w (hv_tYg4 j) (by omega)) (fun j => iv_w (hv_tYg5 j) (by omega)) hw_WA hw_WB hw_WC hL9 hK9) mt_X9_best q_5_146 ⟨Nat.le_of_ble_eq_true rfl, Nat.le_of_ble_eq_true rfl⟩ hP hD hS [0, 2, 3, 9, 19, 20, 21, 22, 59, 60, 61, 63, 64, 65, 67, 69, 70, 71, 72, 73, 74] [1, 4, 5, 6, 7, 8, 10, 11, 12, 13, 14, 15, 16, 17, 18, 23, 24, 25, 26, 27, 28, 29, 30, 31, 32, 33, 34, 35, 36, 37, 38, 39, 40, 41, 42, 43, 44, 45, 46, 47, 48, 49, 50, 51, 52, 53, 54, 55, 56, 57, 58, 62, 66, 68] (by decide +kernel) rfl rfl (by decide +kernel) (by decide +kernel) 0 rfl rfl rfl rfl hlz rfl (Nat.le_of_ble_eq_true rfl) dL_law_1220 (PTn_room hT hw_q0) (fun r w H locs hw hP hD hS => ?_)
  refine Exists.elim hw (fun g0 hw => ?_)
  refine Exists.elim hw (fun g1 hw => ?_)
  refine Exists.elim hw (fun g2 hw => ?_)
  refine Exists.elim hw (fun v3 hw => ?_)
  refine Exists.elim hw (fun v4 hw => ?_)
  refine Exists.elim hw (fun v5 hw => ?_)
  refine Exists.elim hw (fun v6 hw => ?_)
  refine Exists.elim hw (fun v7 hw => ?_)
  refine Exists.elim hw (fun g8 hw => ?_)
  refine Exists.elim hw (fun g9 hw => ?_)
  refine Exists.elim hw (fun g10 hw => ?_)
  refine Exists.elim hw (fun g11 hw => ?_)
  refine Exists.elim hw (fun g12 hw => ?_)
  refine Exists.elim hw (fun g13 hw => ?_)
  refine Exists.elim hw (fun v14 hw => ?_)
  refine Exists.elim hw (fun g15 hw => ?_)
  refine Exists.elim hw (fun g16 hw => ?_)
  refine Exists.elim hw (fun g17 hw => ?_)
  refine Exists.elim hw (fun g18 hw => ?_)
  refine Exists.elim hw (fun g19 hw => ?_)
  refine And.elim (fun bg0 hw => ?_) hw
  refine And.elim (fun bv3 hw => ?_) hw
  refine And.elim (fun bv4 hw => ?_) hw
  refine And.elim (fun bv5 hw => ?_) hw
  refine And.elim (fun bv6 hw => ?_) hw
  refine And.elim (fun bv7 hw => ?_) hw
  refine And.elim (fun bg8 hw => ?_) hw
  refine And.elim (fun bg10 hw => ?_) hw
  refine And.elim (fun bg11 hw => ?_) hw
  refine And.elim (fun bg12 hw => ?_) hw
  refine And.elim (fun bv14 hw => ?_) hw
  refine And.elim (fun bg15 hw => ?_) hw
  refine And.elim (fun bg17 hw => ?_) hw
  refine And.elim (fun bg18 hw => ?_) hw
  refine And.elim (fun bg19 hw => ?_) hw
  refine And.elim (fun br hw => ?_) hw
  refine And.elim (fun g_0 hw => ?_) hw
  refine And.elim (fun g_1 hw => ?_) hw
  refine And.elim (fun g_2 hw => ?_) hw
  refine And.elim (fun kn9 hw => ?_) hw
  subst hw
  have hP := ptP (ws' := wB V y pp (up9 (up9 (up9 ff 15 g0) 16 g1) 17 g2) gg (.ref (Yw 0)) (.ref (Yg 0)) ++ (wY V y n L Yw wa wb (br9 17 (br9 8 (br9 4 qq (br9 6 (br9 5 qq (lf9 v3)) (br9 7 (lf9 v4) qq))) (br9 12 qq (br9 14 qq (br9 15 (lf9 v5) (br9 16 (lf9 v6) (lf9 v7)))))) qq) (br9 8 (br9 4 (br9 2 (br9 1 (lf9 g8) (lf9 g9)) (br9 3 ee (lf9 g10))) (br9 6 (br9 5 (lf9 g11) (lf9 g12)) (br9 7 ee (lf9 g13)))) ee) ++ wO V (n + ft) Yg (up9 rr 6 v14) (br9 5 (br9 2 (br9 1 (lf9 g15) (lf9 g16)) (br9 3 (lf9 g17) (br9 4 (lf9 g18) (lf9 g19)))) uu))) hP [54, 0, 55, 56, 1, 2, 3, 4, 5, 57, 6, 7, 8, 9, 10, 11, 12, 13, 14, 58, 59, 60, 61, 15, 16, 17, 18, 19, 20, 21, 22, 23, 24, 25, 26, 27, 28, 29, 30, 31, 32, 33, 34, 35, 36, 37, 38, 39, 40, 41, 42, 43, 44, 45, 46, 47, 48, 49, 50, 62, 63, 64, 51, 65, 66, 67, 52, 68, 53, 69, 70, 71, 72, 73, 74] rfl
  have hD := hD.part (cx := wB V y pp (up9 (up9 (up9 ff 15 g0) 16 g1) 17 g2) gg (.ref (Yw 0)) (.ref (Yg 0)) ++ (wY V y n L Yw wa wb (br9 17 (br9 8 (br9 4 qq (br9 6 (br9 5 qq (lf9 v3)) (br9 7 (lf9 v4) qq))) (br9 12 qq (br9 14 qq (br9 15 (lf9 v5) (br9 16 (lf9 v6) (lf9 v7)))))) qq) (br9 8 (br9 4 (br9 2 (br9 1 (lf9 g8) (lf9 g9)) (br9 3 ee (lf9 g10))) (br9 6 (br9 5 (lf9 g11) (lf9 g12)) (br9 7 ee (lf9 g13)))) ee) ++ wO V (n + ft) Yg (up9 rr 6 v14) (br9 5 (br9 2 (br9 1 (lf9 g15) (lf9 g16)) (br9 3 (lf9 g17) (br9 4 (lf9 g18) (lf9 g19)))) uu))) [54, 0, 55, 56, 1, 2, 3, 4, 5, 57, 6, 7, 8, 9, 10, 11, 12, 13, 14, 58, 59, 60, 61, 15, 16, 17, 18, 19, 20, 21, 22, 23, 24, 25, 26, 27, 28, 29, 30, 31, 32, 33, 34, 35, 36, 37, 38, 39, 40, 41, 42, 43, 44, 45, 46, 47, 48, 49, 50, 62, 63, 64, 51, 65, 66, 67, 52, 68, 53, 69, 70, 71, 72, 73, 74] (by decide +kernel) rfl
  exact kk r H locs (cells + 0) (slots + 0) pp (up9 (up9 (up9 ff 15 g0) 16 g1) 17 g2) gg _ ⟨.ref (Yw 0), .ref (Yg 0), _, hp, ht_y1, bg0, ht_y27, ht_y28, ht_y32, Or.inr ⟨n, L, Yw, wa, wb, (br9 17 (br9 8 (br9 4 qq (br9 6 (br9 5 qq (lf9 v3)) (br9 7 (lf9 v4) qq))) (br9 12 qq (br9 14 qq (br9 15 (lf9 v5) (br9 16 (lf9 v6) (lf9 v7)))))) qq), (br9 8 (br9 4 (br9 2 (br9 1 (lf9 g8) (lf9 g9)) (br9 3 ee (lf9 g10))) (br9 6 (br9 5 (lf9 g11) (lf9 g12)) (br9 7 ee (lf9 g13)))) ee), _, n + ft, ⟨hn, hL, hw_q0, bv3, bv4, bv5, bv6, bv7, bg8, bg10, bg11, bg12, hw_tYw7, g_0, g_1, g_2⟩, Or.inr ⟨Yg, (up9 rr 6 v14), (br9 5 (br9 2 (br9 1 (lf9 g15) (lf9 g16)) (br9 3 (lf9 g17) (br9 4 (lf9 g18) (lf9 g19)))) uu), hfm, (iv_w bv14 (by omega)), (fun j => iv_w (bg15 j) (by omega)), (fun j => iv_w (bg17 j) (by omega)), (fun j => iv_w (bg18 j) (by omega)), (fun j => iv_w (bg19 j) (by omega)), rfl, rfl⟩, hT, rfl, rfl⟩, rfl⟩ ⟨(fun _ _ => rfl), (List.forall_mem_cons.mpr ⟨rfl, (List.forall_mem_cons.mpr ⟨rfl, (List.forall_mem_cons.mpr ⟨rfl, (List.forall_mem_cons.mpr ⟨rfl, (List.forall_mem_cons.mpr ⟨rfl, (List.forall_mem_cons.mpr ⟨rfl, (List.forall_mem_cons.mpr ⟨rfl, (List.forall_mem_cons.mpr ⟨rfl, (List.forall_mem_cons.mpr ⟨rfl, (List.forall_mem_cons.mpr ⟨rfl, (List.forall_mem_cons.mpr ⟨rfl, (List.forall_mem_cons.mpr ⟨rfl, (List.forall_mem_cons.mpr ⟨rfl, (List.forall_mem_cons.mpr ⟨rfl, (List.forall_mem_cons.mpr ⟨rfl, (List.forall_mem_cons.mpr ⟨rfl, (List.forall_mem_cons.mpr ⟨rfl, (List.forall_mem_cons.mpr ⟨rfl, (List.forall_mem_cons.mpr ⟨rfl, (List.forall_mem_cons.mpr ⟨rfl, (List.forall_mem_cons.mpr ⟨rfl, (List.forall_mem_cons.mpr ⟨rfl, (List.forall_mem_cons.mpr ⟨rfl, (List.forall_mem_cons.mpr ⟨rfl, (List.forall_mem_cons.mpr ⟨rfl, (fun _ h => absurd h List.not_mem_nil)⟩)⟩)⟩)⟩)⟩)⟩)⟩)⟩)⟩)⟩)⟩)⟩)⟩)⟩)⟩)⟩)⟩)⟩)⟩)⟩)⟩)⟩)⟩)⟩)⟩), (fun _ _ => rfl), kn9⟩ hP hD hS
set_option maxHeartbeats 4000000 in
set_option maxRecDepth 100000 in
theorem cx_35 {p : Program} {e : Env} {s : State} {m : MethodId} {below : List Frame} {meth : Method} {c : Code} {l : Launch} {b Lk : Nat} {xs : Nat → Int32} {V : GV} {y : Nat → Nat} {H : Heap} {locs : List Loc} {cells slots : Nat} {wz : va_W} {ls : Array Slot} (G : LCx p s m meth c b Lk xs V) (a1 : Int32) (a2 : Int32) {pp : Nat → Int32} {ff : Nat → Nat → Int32} {gg : Nat → Nat → Int64} {D9 : Nat → Int32} (hL9 : LW D9 (ff 1) (ff 7) (pp 11) (pp 12) (pp 13) (pp 14)) (hK9 : KN D9 (ff 15)) {wx : va_W} (kx : KX V y cells slots pp ff gg wx) (hP : va_P V.1 vwCl (wx ++ wz) H) (hD : va_D (AAs s) (wx ++ wz)) (hS : va_S (AAs s) s.heap H locs) (hlz : ls.size = 4) (kk : (∀ (r : Int32) (H : Heap) (locs : List Loc) (cells slots : Nat) (pp' : Nat → Int32) (ff' : Nat → Nat → Int32) (gg' : Nat → Nat → Int64) (wx : va_W), KX V y cells slots pp' ff' gg' wx → (∀ i ∈ (0 :: 1 :: 2 :: 3 :: 4 :: 5 :: 6 :: 7 :: 10 :: 11 :: 12 :: 13 :: 14 :: 15 :: 16 :: 35 :: 36 :: 37 :: 38 :: 39 :: 40 :: 41 :: 42 :: 43 :: 44 :: 45 :: 46 :: 47 :: 48 :: 49 :: 50 :: 51 :: 54 :: 55 :: 56 :: 57 :: 58 :: 59 :: 60 :: 61 :: 62 :: 63 :: 64 :: 65 :: 66 :: 69 :: 70 :: 71 :: 72 :: 73 :: ([] : List Nat)), pp' i = pp i) ∧ (∀ i ∈ [0, 1, 2, 3, 4, 5, 6, 7, 20, 21, 22, 24, 25, 26, 27, 28, 29, 30, 31, 32, 33, 34, 35, 36, 37], ff' i = ff i) ∧ (∀ i ∈ [0, 1, 2, 3], gg' i = gg i) ∧ KN D9 (ff' 15) → va_P V.1 vwCl (wx ++ wz) H → va_D (AAs s) (wx ++ wz) → va_S (AAs s) s.heap H locs → W p l e room_1 s m #[Value.ref b] below meth c H locs cells slots (lw_Z below #[Value.ref b] s) (F0 m 1223 ls [.int r]))) : W p l e room_1 s m #[Value.ref b] below meth c H locs cells slots (lw_Z below #[Value.ref b] s) (F0 m 1220 ls [.int a2, .int a1, .ref (y 0)]) := by
  obtain ⟨o10, o11, rest, hp, ht_y1, ht_y20, ht_y27, ht_y28, ht_y32, hR, rfl⟩ := kx
  by_cases hg : 0 ≤ (a1 : Int32).toInt ∧ (a1 : Int32).toInt < ((pp 5) : Int32).toInt ∧ 0 ≤ (a2 : Int32).toInt ∧ (a2 : Int32).toInt ≤ 4
  · rcases hR with ⟨rfl, rfl, rfl, hc⟩ | ⟨n, L, Yw, wa, wb, qq, ee, fr, fm, hW, hF, hT, rfl, rfl⟩
    · exact cx_35_0 G _ _ hp ht_y1 ht_y20 ht_y27 ht_y28 ht_y32 hL9 hK9 hc hg hP hD hS hlz kk
    · rcases hF with ⟨rfl, rfl, rfl⟩ | ⟨Yg, rr, uu, hfm, hv_r6, hv_tYg1, hv_tYg3, hv_tYg4, hv_tYg5, rfl, rfl⟩
      · rcases Classical.em (pp 5 ≤ qq 0) with hq | hq
        · exact cx_35_na G _ _ hp ht_y1 ht_y20 ht_y27 ht_y28 ht_y32 hL9 hK9 hW hT hq hg hP hD hS hlz kk
        · replace hq := Int32.not_le.mp hq
          exact cx_35_nb G _ _ hp ht_y1 ht_y20 ht_y27 ht_y28 ht_y32 hL9 hK9 hW hT hq hg hP hD hS hlz kk
      · rcases Classical.em (pp 5 ≤ qq 0) with hq | hq
        · rcases Nat.lt_or_ge fm n with hlt | hlt
          · exact cx_35_ga G _ _ hfm hv_r6 hv_tYg1 hv_tYg3 hv_tYg4 hv_tYg5 hp ht_y1 ht_y20 ht_y27 ht_y28 ht_y32 hL9 hK9 hW hT hq hg hP hD hS hlt hlz kk
          · obtain ⟨ft, rfl⟩ : ∃ ft, fm = n + ft := ⟨fm - n, by omega⟩
            exact cx_35_fa G _ _ hfm hv_r6 hv_tYg1 hv_tYg3 hv_tYg4 hv_tYg5 hp ht_y1 ht_y20 ht_y27 ht_y28 ht_y32 hL9 hK9 hW hT hq hP hD hS hlz kk
        · replace hq := Int32.not_le.mp hq
          exact cx_35_gb G _ _ hfm hv_r6 hv_tYg1 hv_tYg3 hv_tYg4 hv_tYg5 hp ht_y1 ht_y20 ht_y27 ht_y28 ht_y32 hL9 hK9 hW hT hq hg hP hD hS hlz kk
  · exact cx_35_e G _ _ hp ht_y1 ht_y20 ht_y27 ht_y28 ht_y32 hL9 hK9 hR hg hP hD hS hlz kk
theorem q_5_157 : Cond.code yX9_chance prog_1_method_64_code 6 (some FieldType.int) ∈ gw := gw_5 (i := 157) (rfl) rfl
theorem q_5_155 : Cond.instanceMethod yX9_chance ∈ gw := gw_5 (i := 155) (by decide +kernel) rfl
theorem q_5_156 : Cond.selects "BeaconDelay" yX9_chance yX9_chance ∈ gw := gw_5 (i := 156) (by decide +kernel) rfl
theorem mt_X9_chance : MtV yX9_chance cX9_chance 6 (some .int) 4 := ⟨⟨q_5_157, q_1_1, by decide +kernel, by decide +kernel, by decide +kernel⟩, q_5_155, q_5_156⟩
theorem q_5_154 : Cond.methodLink "BeaconDelayLaw" 164 yX9_chance ∈ gw := gw_5 (i := 154) (by decide +kernel) rfl
theorem dL_law_1263 : decode cL_law 1263 = .ok (.invokevirtual 164, 3) := by decide +kernel
set_option maxHeartbeats 4000000 in
set_option maxRecDepth 100000 in
theorem cx_36_e {p : Program} {e : Env} {s : State} {m : MethodId} {below : List Frame} {meth : Method} {c : Code} {l : Launch} {b Lk : Nat} {xs : Nat → Int32} {V : GV} {y : Nat → Nat} {H : Heap} {locs : List Loc} {cells slots : Nat} {wz : va_W} {ls : Array Slot} (G : LCx p s m meth c b Lk xs V) (a1 : Int32) (a2 : Int32) (a3 : Int32) (a4 : Int32) {pp : Nat → Int32} {ff : Nat → Nat → Int32} {gg : Nat → Nat → Int64} {o10 o11 : Value} {rest : va_W} (hp : ivT tX pp) (ht_y1 : (∀ j, iv (-128) 127 ((ff 0) j))) (ht_y20 : (∀ j, iv 0 10 ((ff 15) j))) (ht_y27 : (∀ j, iv 0 9999 ((ff 20) j))) (ht_y28 : (∀ j, iv 0 9 ((ff 21) j))) (ht_y32 : (∀ j, iv 0 9999 ((ff 23) j))) {D9 : Nat → Int32} (hL9 : LW D9 (ff 1) (ff 7) (pp 11) (pp 12) (pp 13) (pp 14)) (hK9 : KN D9 (ff 15)) (hR : RRo V y cells slots o10 o11 rest) (hg : ¬ (0 ≤ (a1 : Int32).toInt ∧ (a1 : Int32).toInt < ((pp 5) : Int32).toInt ∧ 0 ≤ (a2 : Int32).toInt ∧ (a2 : Int32).toInt ≤ 4 ∧ 0 ≤ (a3 : Int32).toInt ∧ (a3 : Int32).toInt ≤ 7 ∧ 0 ≤ (a4 : Int32).toInt ∧ (a4 : Int32).toInt ≤ 1)) (hP : va_P V.1 vwCl (wB V y pp ff gg o10 o11 ++ rest ++ wz) H) (hD : va_D (AAs s) (wB V y pp ff gg o10 o11 ++ rest ++ wz)) (hS : va_S (AAs s) s.heap H locs) (hlz : ls.size = 4) (kk : (∀ (r : Int32) (H : Heap) (locs : List Loc) (cells slots : Nat) (pp' : Nat → Int32) (ff' : Nat → Nat → Int32) (gg' : Nat → Nat → Int64) (wx : va_W), KX V y cells slots pp' ff' gg' wx → (∀ i ∈ (0 :: 1 :: 2 :: 3 :: 4 :: 5 :: 6 :: 7 :: 10 :: 11 :: 12 :: 13 :: 14 :: 15 :: 16 :: 35 :: 36 :: 37 :: 38 :: 39 :: 40 :: 41 :: 42 :: 43 :: 44 :: 45 :: 46 :: 47 :: 48 :: 49 :: 50 :: 51 :: 54 :: 55 :: 56 :: 57 :: 58 :: 59 :: 60 :: 61 :: 62 :: 63 :: 64 :: 65 :: 66 :: 69 :: 70 :: 71 :: 72 :: 73 :: ([] : List Nat)), pp' i = pp i) ∧ (∀ i ∈ [0, 1, 2, 3, 4, 5, 6, 7, 20, 21, 22, 24, 25, 26, 27, 28, 29, 30, 31, 32, 33, 34, 35, 36, 37], ff' i = ff i) ∧ (∀ i ∈ [0, 1, 2, 3], gg' i = gg i) ∧ KN D9 (ff' 15) → va_P V.1 vwCl (wx ++ wz) H → va_D (AAs s) (wx ++ wz) → va_S (AAs s) s.heap H locs → W p l e room_1 s m #[Value.ref b] below meth c H locs cells slots (lw_Z below #[Value.ref b] s) (F0 m 1266 ls [.int r]))) : W p l e room_1 s m #[Value.ref b] below meth c H locs cells slots (lw_Z below #[Value.ref b] s) (F0 m 1263 ls [.int a4, .int a3, .int a2, .int a1, .ref (y 0)]) := by
  rw [as3] at hP hD
  refine cSI (X := wB V y pp ff gg o10 o11) (pl := rest ++ wz) (rest := []) G (k_X9_chance_1 l V y a1 a2 a3 a4 (pp 0) o10 o11 (pp 1) (pp 2) (pp 3) (pp 4) (pp 5) (pp 6) (pp 7) (pp 8) (pp 9) (pp 10) (pp 11) (pp 12) (pp 13) (pp 14) (hp 0) (hp 1) (hp 2) (hp 5) (hp 6) (hp 7) (hp 8) (hp 9) (hp 10) (hp 11) (hp 12) (hp 13) (hp 14) hg) mt_X9_chance q_5_154 ⟨Nat.le_of_ble_eq_true rfl, Nat.le_of_ble_eq_true rfl⟩ hP hD hS [0, 2] [0, 1] (by decide) (by decide +kernel) rfl 0 rfl rfl rfl rfl hlz rfl (Nat.le_of_ble_eq_true rfl) dL_law_1263 hR.room (fun r w H locs hw hPD hS => ?_)
  refine And.elim (fun br hw => ?_) hw
  subst hw
  obtain ⟨hP, hD⟩ := hPD (wB V y pp ff gg o10 o11) rfl rfl
  rw [← as3] at hP hD
  exact kk r H locs (cells + 0) (slots + 0) pp ff gg _ ⟨o10, o11, rest, hp, ht_y1, ht_y20, ht_y27, ht_y28, ht_y32, hR, rfl⟩ ⟨(fun _ _ => rfl), (fun _ _ => rfl), (fun _ _ => rfl), hK9⟩ hP hD hS
set_option maxHeartbeats 4000000 in
set_option maxRecDepth 100000 in
theorem cx_36_0 {p : Program} {e : Env} {s : State} {m : MethodId} {below : List Frame} {meth : Method} {c : Code} {l : Launch} {b Lk : Nat} {xs : Nat → Int32} {V : GV} {y : Nat → Nat} {H : Heap} {locs : List Loc} {cells slots : Nat} {wz : va_W} {ls : Array Slot} (G : LCx p s m meth c b Lk xs V) (a1 : Int32) (a2 : Int32) (a3 : Int32) (a4 : Int32) {pp : Nat → Int32} {ff : Nat → Nat → Int32} {gg : Nat → Nat → Int64} (hp : ivT tX pp) (ht_y1 : (∀ j, iv (-128) 127 ((ff 0) j))) (ht_y20 : (∀ j, iv 0 10 ((ff 15) j))) (ht_y27 : (∀ j, iv 0 9999 ((ff 20) j))) (ht_y28 : (∀ j, iv 0 9 ((ff 21) j))) (ht_y32 : (∀ j, iv 0 9999 ((ff 23) j))) {D9 : Nat → Int32} (hL9 : LW D9 (ff 1) (ff 7) (pp 11) (pp 12) (pp 13) (pp 14)) (hK9 : KN D9 (ff 15)) (hc : cells + 116 ≤ 600000 ∧ slots + 633553 ≤ 7302250) (hg : 0 ≤ (a1 : Int32).toInt ∧ (a1 : Int32).toInt < ((pp 5) : Int32).toInt ∧ 0 ≤ (a2 : Int32).toInt ∧ (a2 : Int32).toInt ≤ 4 ∧ 0 ≤ (a3 : Int32).toInt ∧ (a3 : Int32).toInt ≤ 7 ∧ 0 ≤ (a4 : Int32).toInt ∧ (a4 : Int32).toInt ≤ 1) (hP : va_P V.1 vwCl (wB V y pp ff gg .null .null ++ [] ++ wz) H) (hD : va_D (AAs s) (wB V y pp ff gg .null .null ++ [] ++ wz)) (hS : va_S (AAs s) s.heap H locs) (hlz : ls.size = 4) (kk : (∀ (r : Int32) (H : Heap) (locs : List Loc) (cells slots : Nat) (pp' : Nat → Int32) (ff' : Nat → Nat → Int32) (gg' : Nat → Nat → Int64) (wx : va_W), KX V y cells slots pp' ff' gg' wx → (∀ i ∈ (0 :: 1 :: 2 :: 3 :: 4 :: 5 :: 6 :: 7 :: 10 :: 11 :: 12 :: 13 :: 14 :: 15 :: 16 :: 35 :: 36 :: 37 :: 38 :: 39 :: 40 :: 41 :: 42 :: 43 :: 44 :: 45 :: 46 :: 47 :: 48 :: 49 :: 50 :: 51 :: 54 :: 55 :: 56 :: 57 :: 58 :: 59 :: 60 :: 61 :: 62 :: 63 :: 64 :: 65 :: 66 :: 69 :: 70 :: 71 :: 72 :: 73 :: ([] : List Nat)), pp' i = pp i) ∧ (∀ i ∈ [0, 1, 2, 3, 4, 5, 6, 7, 20, 21, 22, 24, 25, 26, 27, 28, 29, 30, 31, 32, 33, 34, 35, 36, 37], ff' i = ff i) ∧ (∀ i ∈ [0, 1, 2, 3], gg' i = gg i) ∧ KN D9 (ff' 15) → va_P V.1 vwCl (wx ++ wz) H → va_D (AAs s) (wx ++ wz) → va_S (AAs s) s.heap H locs → W p l e room_1 s m #[Value.ref b] below meth c H locs cells slots (lw_Z below #[Value.ref b] s) (F0 m 1266 ls [.int r]))) : W p l e room_1 s m #[Value.ref b] below meth c H locs cells slots (lw_Z below #[Value.ref b] s) (F0 m 1263 ls [.int a4, .int a3, .int a2, .int a1, .ref (y 0)]) := by
  refine cXI (X := wB V y pp ff gg .null .null ++ []) (pl := wz) (wr := [(y 1, aB V 900 (ff 0)), (y 4, aI V 4 (ff 2)), (y 5, aI V 4 (ff 3)), (y 6, aI V 8 (ff 4)), (y 7, aI V 8 (ff 5)), (y 8, aI V 8 (ff 6)), (y 10, .inr (6, o6_riiriiiii (y 11) (pp 15) (pp 16) (y 1) (pp 17) (pp 18) (pp 19) (pp 20) (pp 21))), (y 11, .inr (1, o1_iiiiiirrrrrrriiiii (pp 22) (pp 23) (pp 24) (pp 25) (pp 26) (pp 27) (y 12) (y 13) (y 14) (y 15) (y 16) (y 17) (y 18) (pp 28) (pp 29) (pp 30) (pp 31) (pp 32))), (y 12, aI V 4 (ff 8)), (y 13, aI V 4 (ff 9)), (y 14, aI V 4 (ff 10)), (y 15, aI V 8 (ff 11)), (y 16, aI V 8 (ff 12)), (y 17, aI V 8 (ff 13)), (y 18, aI V 900 (ff 14)), (y 23, aI V 10 (ff 18)), (y 24, aI V 10 (ff 19)), (y 25, .inr (0, [.int (pp 33), .int (pp 34)])), (y 26, .inr (5, o5_rrri (y 27) (y 28) (y 29) (pp 35))), (y 27, aI V 10 (ff 20)), (y 28, aI V 10 (ff 21)), (y 29, aI V 10 (ff 22)), (y 30, aT V 4 (va_up (va_up (va_up (va_up (fun _ => none) 0 (some (y 33))) 1 (some (y 35))) 2 (some (y 37))) 3 (some (y 39)))), (y 31, aM V 2 (va_up (va_up (fun _ => none) 0 (some (y 41))) 1 (some (y 50)))), (y 32, aI V 10 (ff 23)), (y 33, .inr (7, o7_rii (y 34) (pp 36) (pp 37))), (y 34, aJ V 40 (gg 0)), (y 35, .inr (7, o7_rii (y 36) (pp 38) (pp 39))), (y 36, aJ V 40 (gg 1)), (y 37, .inr (7, o7_rii (y 38) (pp 40) (pp 41))), (y 38, aJ V 40 (gg 2)), (y 39, .inr (7, o7_rii (y 40) (pp 42) (pp 43))), (y 40, aJ V 40 (gg 3)), (y 41, .inr (3, o3_riiii (y 42) (pp 44) (pp 45) (pp 46) (pp 47))), (y 42, .inr (1, o1_iiiiiirrrrrrriiiii (pp 48) (pp 49) (pp 50) (pp 51) (pp 52) (pp 53) (y 43) (y 44) (y 45) (y 46) (y 47) (y 48) (y 49) (pp 54) (pp 55) (pp 56) (pp 57) (pp 58))), (y 43, aI V 4 (ff 24)), (y 44, aI V 4 (ff 25)), (y 45, aI V 4 (ff 26)), (y 46, aI V 8 (ff 27)), (y 47, aI V 8 (ff 28)), (y 48, aI V 8 (ff 29)), (y 49, aI V 900 (ff 30)), (y 50, .inr (3, o3_riiii (y 51) (pp 59) (pp 60) (pp 61) (pp 62))), (y 51, .inr (1, o1_iiiiiirrrrrrriiiii (pp 63) (pp 64) (pp 65) (pp 66) (pp 67) (pp 68) (y 52) (y 53) (y 54) (y 55) (y 56) (y 57) (y 58) (pp 69) (pp 70) (pp 71) (pp 72) (pp 73))), (y 52, aI V 4 (ff 31)), (y 53, aI V 4 (ff 32)), (y 54, aI V 4 (ff 33)), (y 55, aI V 8 (ff 34)), (y 56, aI V 8 (ff 35)), (y 57, aI V 8 (ff 36)), (y 58, aI V 900 (ff 37))]) (rest := []) G (k_X9_chance_2 l V y D9 a1 a2 a3 a4 (pp 0) (.null) (pp 1) (pp 2) (pp 3) (pp 4) (pp 5) (pp 6) (pp 7) (pp 8) (pp 9) (pp 10) (pp 11) (pp 12) (pp 13) (pp 14) (ff 1) (ff 7) (ff 15) (ff 16) (ff 17) (hp 0) (hp 1) (hp 2) (hp 5) (hp 6) (hp 7) (hp 8) (hp 9) (hp 10) (hp 11) (hp 12) (hp 13) (hp 14) ht_y20 hg.1 hg.2.1 hg.2.2.1 hg.2.2.2.1 hg.2.2.2.2.1 hg.2.2.2.2.2.1 hg.2.2.2.2.2.2.1 hg.2.2.2.2.2.2.2 hL9 hK9) mt_X9_chance q_5_154 ⟨Nat.le_of_ble_eq_true rfl, Nat.le_of_ble_eq_true rfl⟩ hP hD hS [0, 2, 3, 9, 19, 20, 21, 22] [1, 4, 5, 6, 7, 8, 10, 11, 12, 13, 14, 15, 16, 17, 18, 23, 24, 25, 26, 27, 28, 29, 30, 31, 32, 33, 34, 35, 36, 37, 38, 39, 40, 41, 42, 43, 44, 45, 46, 47, 48, 49, 50, 51, 52, 53, 54, 55, 56, 57, 58] (by decide +kernel) rfl rfl (by decide +kernel) (by decide +kernel) 0 rfl rfl rfl rfl hlz rfl (Nat.le_of_ble_eq_true rfl) dL_law_1263 (by omega) (fun r w H locs hw hP hD hS => ?_)
  refine Exists.elim hw (fun n1 hw => ?_)
  refine Exists.elim hw (fun L1 hw => ?_)
  refine Exists.elim hw (fun Yw1 hw => ?_)
  refine Exists.elim hw (fun wa1 hw => ?_)
  refine Exists.elim hw (fun wb1 hw => ?_)
  refine Exists.elim hw (fun g0 hw => ?_)
  refine Exists.elim hw (fun g1 hw => ?_)
  refine Exists.elim hw (fun g2 hw => ?_)
  refine Exists.elim hw (fun ww0 hw => ?_)
  refine Exists.elim hw (fun ww5 hw => ?_)
  refine Exists.elim hw (fun ww6 hw => ?_)
  refine Exists.elim hw (fun ww14 hw => ?_)
  refine Exists.elim hw (fun ww15 hw => ?_)
  refine Exists.elim hw (fun ww16 hw => ?_)
  refine Exists.elim hw (fun wew1 hw => ?_)
  refine Exists.elim hw (fun wew2 hw => ?_)
  refine Exists.elim hw (fun wew3 hw => ?_)
  refine Exists.elim hw (fun wew4 hw => ?_)
  refine Exists.elim hw (fun wew5 hw => ?_)
  refine Exists.elim hw (fun wew6 hw => ?_)
  refine Exists.elim hw (fun wew7 hw => ?_)
  refine Exists.elim hw (fun wew8 hw => ?_)
  refine Exists.elim hw (fun wew9 hw => ?_)
  refine And.elim (fun hn1 hw => ?_) hw
  refine And.elim (fun hL1 hw => ?_) hw
  refine And.elim (fun bg0 hw => ?_) hw
  refine And.elim (fun bww0 hw => ?_) hw
  refine And.elim (fun bww5 hw => ?_) hw
  refine And.elim (fun bww6 hw => ?_) hw
  refine And.elim (fun bww14 hw => ?_) hw
  refine And.elim (fun bww15 hw => ?_) hw
  refine And.elim (fun bww16 hw => ?_) hw
  refine And.elim (fun bwew1 hw => ?_) hw
  refine And.elim (fun bwew4 hw => ?_) hw
  refine And.elim (fun bwew5 hw => ?_) hw
  refine And.elim (fun bwew6 hw => ?_) hw
  refine And.elim (fun bwew7 hw => ?_) hw
  refine And.elim (fun g_0 hw => ?_) hw
  refine And.elim (fun g_1 hw => ?_) hw
  refine And.elim (fun g_2 hw => ?_) hw
  refine And.elim (fun g_3 hw => ?_) hw
  refine And.elim (fun kn9 hw => ?_) hw
  subst hw
  have hP := ptP (ws' := wB V y pp (up9 (up9 (up9 ff 15 g0) 16 g1) 17 g2) gg (.ref (Yw1 0)) .null ++ (wY V y n1 L1 Yw1 wa1 wb1 (br9 17 (br9 8 (br9 4 (br9 2 (br9 1 (lf9 ww0) (fun _ => 0)) (fun _ => 0)) (br9 6 (br9 5 (fun _ => 0) (lf9 ww5)) (br9 7 (lf9 ww6) (fun _ => 0)))) (br9 12 (fun _ => 0) (br9 14 (fun _ => 0) (br9 15 (lf9 ww14) (br9 16 (lf9 ww15) (lf9 ww16)))))) (fun _ => 0)) (br9 9 (br9 4 (br9 2 (br9 1 (lf9 wew1) (lf9 wew2)) (br9 3 (lf9 wew3) (lf9 wew4))) (br9 6 (br9 5 (lf9 wew5) (lf9 wew6)) (br9 7 (lf9 wew7) (br9 8 (lf9 wew8) (lf9 wew9))))) (fun _ _ => 0)) ++ [])) hP [51, 0, 52, 53, 1, 2, 3, 4, 5, 54, 6, 7, 8, 9, 10, 11, 12, 13, 14, 55, 56, 57, 58, 15, 16, 17, 18, 19, 20, 21, 22, 23, 24, 25, 26, 27, 28, 29, 30, 31, 32, 33, 34, 35, 36, 37, 38, 39, 40, 41, 42, 43, 44, 45, 46, 47, 48, 49, 50, 59, 60, 61, 62, 63, 64, 65, 66, 67, 68] rfl
  have hD := hD.part (cx := wB V y pp (up9 (up9 (up9 ff 15 g0) 16 g1) 17 g2) gg (.ref (Yw1 0)) .null ++ (wY V y n1 L1 Yw1 wa1 wb1 (br9 17 (br9 8 (br9 4 (br9 2 (br9 1 (lf9 ww0) (fun _ => 0)) (fun _ => 0)) (br9 6 (br9 5 (fun _ => 0) (lf9 ww5)) (br9 7 (lf9 ww6) (fun _ => 0)))) (br9 12 (fun _ => 0) (br9 14 (fun _ => 0) (br9 15 (lf9 ww14) (br9 16 (lf9 ww15) (lf9 ww16)))))) (fun _ => 0)) (br9 9 (br9 4 (br9 2 (br9 1 (lf9 wew1) (lf9 wew2)) (br9 3 (lf9 wew3) (lf9 wew4))) (br9 6 (br9 5 (lf9 wew5) (lf9 wew6)) (br9 7 (lf9 wew7) (br9 8 (lf9 wew8) (lf9 wew9))))) (fun _ _ => 0)) ++ [])) [51, 0, 52, 53, 1, 2, 3, 4, 5, 54, 6, 7, 8, 9, 10, 11, 12, 13, 14, 55, 56, 57, 58, 15, 16, 17, 18, 19, 20, 21, 22, 23, 24, 25, 26, 27, 28, 29, 30, 31, 32, 33, 34, 35, 36, 37, 38, 39, 40, 41, 42, 43, 44, 45, 46, 47, 48, 49, 50, 59, 60, 61, 62, 63, 64, 65, 66, 67, 68] (by decide +kernel) rfl
  exact kk r H locs (cells + 10) (slots + 46481) pp (up9 (up9 (up9 ff 15 g0) 16 g1) 17 g2) gg _ ⟨.ref (Yw1 0), .null, _, hp, ht_y1, bg0, ht_y27, ht_y28, ht_y32, Or.inr ⟨n1, L1, Yw1, wa1, wb1, (br9 17 (br9 8 (br9 4 (br9 2 (br9 1 (lf9 ww0) (fun _ => 0)) (fun _ => 0)) (br9 6 (br9 5 (fun _ => 0) (lf9 ww5)) (br9 7 (lf9 ww6) (fun _ => 0)))) (br9 12 (fun _ => 0) (br9 14 (fun _ => 0) (br9 15 (lf9 ww14) (br9 16 (lf9 ww15) (lf9 ww16)))))) (fun _ => 0)), (br9 9 (br9 4 (br9 2 (br9 1 (lf9 wew1) (lf9 wew2)) (br9 3 (lf9 wew3) (lf9 wew4))) (br9 6 (br9 5 (lf9 wew5) (lf9 wew6)) (br9 7 (lf9 wew7) (br9 8 (lf9 wew8) (lf9 wew9))))) (fun _ _ => 0)), [], 0, ⟨hn1, hL1, bww0, bww5, bww6, bww14, bww15, bww16, bwew1, bwew4, bwew5, bwew6, bwew7, g_0, g_1, g_2⟩, (Or.inl ⟨rfl, rfl, rfl⟩), (show PTn _ _ _ _ ww0 from by rw [g_3]; exact PTn_0 10 46481 hc (hp 5) (by decide) (by decide) n1 0), rfl, rfl⟩, rfl⟩ ⟨(fun _ _ => rfl), (List.forall_mem_cons.mpr ⟨rfl, (List.forall_mem_cons.mpr ⟨rfl, (List.forall_mem_cons.mpr ⟨rfl, (List.forall_mem_cons.mpr ⟨rfl, (List.forall_mem_cons.mpr ⟨rfl, (List.forall_mem_cons.mpr ⟨rfl, (List.forall_mem_cons.mpr ⟨rfl, (List.forall_mem_cons.mpr ⟨rfl, (List.forall_mem_cons.mpr ⟨rfl, (List.forall_mem_cons.mpr ⟨rfl, (List.forall_mem_cons.mpr ⟨rfl, (List.forall_mem_cons.mpr ⟨rfl, (List.forall_mem_cons.mpr ⟨rfl, (List.forall_mem_cons.mpr ⟨rfl, (List.forall_mem_cons.mpr ⟨rfl, (List.forall_mem_cons.mpr ⟨rfl, (List.forall_mem_cons.mpr ⟨rfl, (List.forall_mem_cons.mpr ⟨rfl, (List.forall_mem_cons.mpr ⟨rfl, (List.forall_mem_cons.mpr ⟨rfl, (List.forall_mem_cons.mpr ⟨rfl, (List.forall_mem_cons.mpr ⟨rfl, (List.forall_mem_cons.mpr ⟨rfl, (List.forall_mem_cons.mpr ⟨rfl, (List.forall_mem_cons.mpr ⟨rfl, (fun _ h => absurd h List.not_mem_nil)⟩)⟩)⟩)⟩)⟩)⟩)⟩)⟩)⟩)⟩)⟩)⟩)⟩)⟩)⟩)⟩)⟩)⟩)⟩)⟩)⟩)⟩)⟩)⟩)⟩), (fun _ _ => rfl), kn9⟩ hP hD hS
set_option maxHeartbeats 4000000 in
set_option maxRecDepth 100000 in
theorem cx_36_a {p : Program} {e : Env} {s : State} {m : MethodId} {below : List Frame} {meth : Method} {c : Code} {l : Launch} {b Lk : Nat} {xs : Nat → Int32} {V : GV} {y : Nat → Nat} {H : Heap} {locs : List Loc} {cells slots : Nat} {wz : va_W} {ls : Array Slot} (G : LCx p s m meth c b Lk xs V) (a1 : Int32) (a2 : Int32) (a3 : Int32) (a4 : Int32) {pp : Nat → Int32} {ff : Nat → Nat → Int32} {gg : Nat → Nat → Int64} {n L : Nat} {Yw : Nat → Nat} {wa wb : Nat} {qq : Nat → Int32} {ee : Nat → Nat → Int32} {o11 : Value} {fr : va_W} {fm : Nat} (hp : ivT tX pp) (ht_y1 : (∀ j, iv (-128) 127 ((ff 0) j))) (ht_y20 : (∀ j, iv 0 10 ((ff 15) j))) (ht_y27 : (∀ j, iv 0 9999 ((ff 20) j))) (ht_y28 : (∀ j, iv 0 9 ((ff 21) j))) (ht_y32 : (∀ j, iv 0 9999 ((ff 23) j))) {D9 : Nat → Int32} (hL9 : LW D9 (ff 1) (ff 7) (pp 11) (pp 12) (pp 13) (pp 14)) (hK9 : KN D9 (ff 15)) (hW : WFa n L qq ee) (hF : RFo V o11 fr fm) (hT : PTn cells slots n fm (qq 0)) (hq : pp 5 ≤ qq 0) (hP : va_P V.1 vwCl (wB V y pp ff gg (.ref (Yw 0)) o11 ++ (wY V y n L Yw wa wb qq ee ++ fr) ++ wz) H) (hD : va_D (AAs s) (wB V y pp ff gg (.ref (Yw 0)) o11 ++ (wY V y n L Yw wa wb qq ee ++ fr) ++ wz)) (hS : va_S (AAs s) s.heap H locs) (hlz : ls.size = 4) (kk : (∀ (r : Int32) (H : Heap) (locs : List Loc) (cells slots : Nat) (pp' : Nat → Int32) (ff' : Nat → Nat → Int32) (gg' : Nat → Nat → Int64) (wx : va_W), KX V y cells slots pp' ff' gg' wx → (∀ i ∈ (0 :: 1 :: 2 :: 3 :: 4 :: 5 :: 6 :: 7 :: 10 :: 11 :: 12 :: 13 :: 14 :: 15 :: 16 :: 35 :: 36 :: 37 :: 38 :: 39 :: 40 :: 41 :: 42 :: 43 :: 44 :: 45 :: 46 :: 47 :: 48 :: 49 :: 50 :: 51 :: 54 :: 55 :: 56 :: 57 :: 58 :: 59 :: 60 :: 61 :: 62 :: 63 :: 64 :: 65 :: 66 :: 69 :: 70 :: 71 :: 72 :: 73 :: ([] : List Nat)), pp' i = pp i) ∧ (∀ i ∈ [0, 1, 2, 3, 4, 5, 6, 7, 20, 21, 22, 24, 25, 26, 27, 28, 29, 30, 31, 32, 33, 34, 35, 36, 37], ff' i = ff i) ∧ (∀ i ∈ [0, 1, 2, 3], gg' i = gg i) ∧ KN D9 (ff' 15) → va_P V.1 vwCl (wx ++ wz) H → va_D (AAs s) (wx ++ wz) → va_S (AAs s) s.heap H locs → W p l e room_1 s m #[Value.ref b] below meth c H locs cells slots (lw_Z below #[Value.ref b] s) (F0 m 1266 ls [.int r]))) : W p l e room_1 s m #[Value.ref b] below meth c H locs cells slots (lw_Z below #[Value.ref b] s) (F0 m 1263 ls [.int a4, .int a3, .int a2, .int a1, .ref (y 0)]) := by
  obtain ⟨hn, hL, hw_q0, hw_q5, hw_q6, hw_q14, hw_q15, hw_q16, hw_tYw1, hw_tYw4, hw_tYw5, hw_tYw6, hw_tYw7, hw_WA, hw_WB, hw_WC⟩ := id hW
  rw [as4] at hP hD
  refine cXI (X := wB V y pp ff gg (.ref (Yw 0)) o11 ++ wY V y n L Yw wa wb qq ee) (pl := fr ++ wz) (wr := [(y 1, aB V 900 (ff 0)), (y 4, aI V 4 (ff 2)), (y 5, aI V 4 (ff 3)), (y 6, aI V 8 (ff 4)), (y 7, aI V 8 (ff 5)), (y 8, aI V 8 (ff 6)), (y 10, .inr (6, o6_riiriiiii (y 11) (pp 15) (pp 16) (y 1) (pp 17) (pp 18) (pp 19) (pp 20) (pp 21))), (y 11, .inr (1, o1_iiiiiirrrrrrriiiii (pp 22) (pp 23) (pp 24) (pp 25) (pp 26) (pp 27) (y 12) (y 13) (y 14) (y 15) (y 16) (y 17) (y 18) (pp 28) (pp 29) (pp 30) (pp 31) (pp 32))), (y 12, aI V 4 (ff 8)), (y 13, aI V 4 (ff 9)), (y 14, aI V 4 (ff 10)), (y 15, aI V 8 (ff 11)), (y 16, aI V 8 (ff 12)), (y 17, aI V 8 (ff 13)), (y 18, aI V 900 (ff 14)), (y 23, aI V 10 (ff 18)), (y 24, aI V 10 (ff 19)), (y 25, .inr (0, [.int (pp 33), .int (pp 34)])), (y 26, .inr (5, o5_rrri (y 27) (y 28) (y 29) (pp 35))), (y 27, aI V 10 (ff 20)), (y 28, aI V 10 (ff 21)), (y 29, aI V 10 (ff 22)), (y 30, aT V 4 (va_up (va_up (va_up (va_up (fun _ => none) 0 (some (y 33))) 1 (some (y 35))) 2 (some (y 37))) 3 (some (y 39)))), (y 31, aM V 2 (va_up (va_up (fun _ => none) 0 (some (y 41))) 1 (some (y 50)))), (y 32, aI V 10 (ff 23)), (y 33, .inr (7, o7_rii (y 34) (pp 36) (pp 37))), (y 34, aJ V 40 (gg 0)), (y 35, .inr (7, o7_rii (y 36) (pp 38) (pp 39))), (y 36, aJ V 40 (gg 1)), (y 37, .inr (7, o7_rii (y 38) (pp 40) (pp 41))), (y 38, aJ V 40 (gg 2)), (y 39, .inr (7, o7_rii (y 40) (pp 42) (pp 43))), (y 40, aJ V 40 (gg 3)), (y 41, .inr (3, o3_riiii (y 42) (pp 44) (pp 45) (pp 46) (pp 47))), (y 42, .inr (1, o1_iiiiiirrrrrrriiiii (pp 48) (pp 49) (pp 50) (pp 51) (pp 52) (pp 53) (y 43) (y 44) (y 45) (y 46) (y 47) (y 48) (y 49) (pp 54) (pp 55) (pp 56) (pp 57) (pp 58))), (y 43, aI V 4 (ff 24)), (y 44, aI V 4 (ff 25)), (y 45, aI V 4 (ff 26)), (y 46, aI V 8 (ff 27)), (y 47, aI V 8 (ff 28)), (y 48, aI V 8 (ff 29)), (y 49, aI V 900 (ff 30)), (y 50, .inr (3, o3_riiii (y 51) (pp 59) (pp 60) (pp 61) (pp 62))), (y 51, .inr (1, o1_iiiiiirrrrrrriiiii (pp 63) (pp 64) (pp 65) (pp 66) (pp 67) (pp 68) (y 52) (y 53) (y 54) (y 55) (y 56) (y 57) (y 58) (pp 69) (pp 70) (pp 71) (pp 72) (pp 73))), (y 52, aI V 4 (ff 31)), (y 53, aI V 4 (ff 32)), (y 54, aI V 4 (ff 33)), (y 55, aI V 8 (ff 34)), (y 56, aI V 8 (ff 35)), (y 57, aI V 8 (ff 36)), (y 58, aI V 900 (ff 37)), (Yw 7, aI V n (ee 6))]) (rest := []) G (k_X9_chance_0 l V n L Yw y D9 a1 a2 a3 a4 (pp 0) o11 (pp 1) (pp 2) (pp 3) (pp 4) (pp 5) (pp 6) (pp 7) (pp 8) (pp 9) (pp 10) (pp 11) (pp 12) (pp 13) (pp 14) (ff 1) (ff 7) (ff 15) (ff 16) (ff 17) (qq 0) wa (qq 5) (qq 6) wb (qq 14) (qq 15) (qq 16) (ee 0) (ee 1) (ee 2) (ee 3) (ee 4) (ee 5) (ee 7) (ee 8) hn hL hq (hp 0) (hp 1) (hp 2) (hp 5) (hp 6) (hp 7) (hp 8) (hp 9) (hp 10) (hp 11) (hp 12) (hp 13) (hp 14) ht_y20 hw_q0 hw_q5 hw_q6 hw_q14 hw_q15 hw_q16 hw_tYw1 hw_tYw4 hw_tYw5 hw_tYw6 hw_WA hw_WB hw_WC hL9 hK9) mt_X9_chance q_5_154 ⟨Nat.le_of_ble_eq_true rfl, Nat.le_of_ble_eq_true rfl⟩ hP hD hS [0, 2, 3, 9, 19, 20, 21, 22, 59, 60, 61, 62, 63, 64, 65, 67, 68] [1, 4, 5, 6, 7, 8, 10, 11, 12, 13, 14, 15, 16, 17, 18, 23, 24, 25, 26, 27, 28, 29, 30, 31, 32, 33, 34, 35, 36, 37, 38, 39, 40, 41, 42, 43, 44, 45, 46, 47, 48, 49, 50, 51, 52, 53, 54, 55, 56, 57, 58, 66] (by decide +kernel) rfl rfl (by decide +kernel) (by decide +kernel) 0 rfl rfl rfl rfl hlz rfl (Nat.le_of_ble_eq_true rfl) dL_law_1263 (PTn_room hT hw_q0) (fun r w H locs hw hP hD hS => ?_)
  refine Exists.elim hw (fun g0 hw => ?_)
  refine Exists.elim hw (fun g1 hw => ?_)
  refine Exists.elim hw (fun g2 hw => ?_)
  refine Exists.elim hw (fun wa2 hw => ?_)
  refine Exists.elim hw (fun v4 hw => ?_)
  refine Exists.elim hw (fun v5 hw => ?_)
  refine Exists.elim hw (fun wb2 hw => ?_)
  refine Exists.elim hw (fun v7 hw => ?_)
  refine Exists.elim hw (fun v8 hw => ?_)
  refine Exists.elim hw (fun v9 hw => ?_)
  refine Exists.elim hw (fun g10 hw => ?_)
  refine Exists.elim hw (fun g11 hw => ?_)
  refine Exists.elim hw (fun g12 hw => ?_)
  refine Exists.elim hw (fun g13 hw => ?_)
  refine Exists.elim hw (fun g14 hw => ?_)
  refine Exists.elim hw (fun g15 hw => ?_)
  refine Exists.elim hw (fun g16 hw => ?_)
  refine Exists.elim hw (fun g17 hw => ?_)
  refine And.elim (fun bg0 hw => ?_) hw
  refine And.elim (fun bv4 hw => ?_) hw
  refine And.elim (fun bv5 hw => ?_) hw
  refine And.elim (fun bv7 hw => ?_) hw
  refine And.elim (fun bv8 hw => ?_) hw
  refine And.elim (fun bv9 hw => ?_) hw
  refine And.elim (fun bg10 hw => ?_) hw
  refine And.elim (fun bg13 hw => ?_) hw
  refine And.elim (fun bg14 hw => ?_) hw
  refine And.elim (fun bg15 hw => ?_) hw
  refine And.elim (fun g_0 hw => ?_) hw
  refine And.elim (fun g_1 hw => ?_) hw
  refine And.elim (fun g_2 hw => ?_) hw
  refine And.elim (fun kn9 hw => ?_) hw
  subst hw
  have hP := ptP (ws' := wB V y pp (up9 (up9 (up9 ff 15 g0) 16 g1) 17 g2) gg (.ref (Yw 0)) o11 ++ wY V y n L Yw wa2 wb2 (br9 17 (br9 8 (br9 4 qq (br9 6 (br9 5 qq (lf9 v4)) (br9 7 (lf9 v5) qq))) (br9 12 qq (br9 14 qq (br9 15 (lf9 v7) (br9 16 (lf9 v8) (lf9 v9)))))) qq) (br9 9 (br9 4 (br9 2 (br9 1 (lf9 g10) (lf9 g11)) (br9 3 (lf9 g12) (lf9 g13))) (br9 6 (br9 5 (lf9 g14) (lf9 g15)) (br9 7 ee (br9 8 (lf9 g16) (lf9 g17))))) ee)) hP [52, 0, 53, 54, 1, 2, 3, 4, 5, 55, 6, 7, 8, 9, 10, 11, 12, 13, 14, 56, 57, 58, 59, 15, 16, 17, 18, 19, 20, 21, 22, 23, 24, 25, 26, 27, 28, 29, 30, 31, 32, 33, 34, 35, 36, 37, 38, 39, 40, 41, 42, 43, 44, 45, 46, 47, 48, 49, 50, 60, 61, 62, 63, 64, 65, 66, 51, 67, 68] rfl
  have hD := hD.part (cx := wB V y pp (up9 (up9 (up9 ff 15 g0) 16 g1) 17 g2) gg (.ref (Yw 0)) o11 ++ wY V y n L Yw wa2 wb2 (br9 17 (br9 8 (br9 4 qq (br9 6 (br9 5 qq (lf9 v4)) (br9 7 (lf9 v5) qq))) (br9 12 qq (br9 14 qq (br9 15 (lf9 v7) (br9 16 (lf9 v8) (lf9 v9)))))) qq) (br9 9 (br9 4 (br9 2 (br9 1 (lf9 g10) (lf9 g11)) (br9 3 (lf9 g12) (lf9 g13))) (br9 6 (br9 5 (lf9 g14) (lf9 g15)) (br9 7 ee (br9 8 (lf9 g16) (lf9 g17))))) ee)) [52, 0, 53, 54, 1, 2, 3, 4, 5, 55, 6, 7, 8, 9, 10, 11, 12, 13, 14, 56, 57, 58, 59, 15, 16, 17, 18, 19, 20, 21, 22, 23, 24, 25, 26, 27, 28, 29, 30, 31, 32, 33, 34, 35, 36, 37, 38, 39, 40, 41, 42, 43, 44, 45, 46, 47, 48, 49, 50, 60, 61, 62, 63, 64, 65, 66, 51, 67, 68] (by decide +kernel) rfl
  rw [← as4] at hP hD
  exact kk r H locs (cells + 0) (slots + 0) pp (up9 (up9 (up9 ff 15 g0) 16 g1) 17 g2) gg _ ⟨.ref (Yw 0), o11, _, hp, ht_y1, bg0, ht_y27, ht_y28, ht_y32, Or.inr ⟨n, L, Yw, wa2, wb2, (br9 17 (br9 8 (br9 4 qq (br9 6 (br9 5 qq (lf9 v4)) (br9 7 (lf9 v5) qq))) (br9 12 qq (br9 14 qq (br9 15 (lf9 v7) (br9 16 (lf9 v8) (lf9 v9)))))) qq), (br9 9 (br9 4 (br9 2 (br9 1 (lf9 g10) (lf9 g11)) (br9 3 (lf9 g12) (lf9 g13))) (br9 6 (br9 5 (lf9 g14) (lf9 g15)) (br9 7 ee (br9 8 (lf9 g16) (lf9 g17))))) ee), fr, fm, ⟨hn, hL, hw_q0, bv4, bv5, bv7, bv8, bv9, bg10, bg13, bg14, bg15, hw_tYw7, g_0, g_1, g_2⟩, hF, hT, rfl, rfl⟩, rfl⟩ ⟨(fun _ _ => rfl), (List.forall_mem_cons.mpr ⟨rfl, (List.forall_mem_cons.mpr ⟨rfl, (List.forall_mem_cons.mpr ⟨rfl, (List.forall_mem_cons.mpr ⟨rfl, (List.forall_mem_cons.mpr ⟨rfl, (List.forall_mem_cons.mpr ⟨rfl, (List.forall_mem_cons.mpr ⟨rfl, (List.forall_mem_cons.mpr ⟨rfl, (List.forall_mem_cons.mpr ⟨rfl, (List.forall_mem_cons.mpr ⟨rfl, (List.forall_mem_cons.mpr ⟨rfl, (List.forall_mem_cons.mpr ⟨rfl, (List.forall_mem_cons.mpr ⟨rfl, (List.forall_mem_cons.mpr ⟨rfl, (List.forall_mem_cons.mpr ⟨rfl, (List.forall_mem_cons.mpr ⟨rfl, (List.forall_mem_cons.mpr ⟨rfl, (List.forall_mem_cons.mpr ⟨rfl, (List.forall_mem_cons.mpr ⟨rfl, (List.forall_mem_cons.mpr ⟨rfl, (List.forall_mem_cons.mpr ⟨rfl, (List.forall_mem_cons.mpr ⟨rfl, (List.forall_mem_cons.mpr ⟨rfl, (List.forall_mem_cons.mpr ⟨rfl, (List.forall_mem_cons.mpr ⟨rfl, (fun _ h => absurd h List.not_mem_nil)⟩)⟩)⟩)⟩)⟩)⟩)⟩)⟩)⟩)⟩)⟩)⟩)⟩)⟩)⟩)⟩)⟩)⟩)⟩)⟩)⟩)⟩)⟩)⟩)⟩), (fun _ _ => rfl), kn9⟩ hP hD hS
set_option maxHeartbeats 4000000 in
set_option maxRecDepth 100000 in
theorem cx_36_b {p : Program} {e : Env} {s : State} {m : MethodId} {below : List Frame} {meth : Method} {c : Code} {l : Launch} {b Lk : Nat} {xs : Nat → Int32} {V : GV} {y : Nat → Nat} {H : Heap} {locs : List Loc} {cells slots : Nat} {wz : va_W} {ls : Array Slot} (G : LCx p s m meth c b Lk xs V) (a1 : Int32) (a2 : Int32) (a3 : Int32) (a4 : Int32) {pp : Nat → Int32} {ff : Nat → Nat → Int32} {gg : Nat → Nat → Int64} {n L : Nat} {Yw : Nat → Nat} {wa wb : Nat} {qq : Nat → Int32} {ee : Nat → Nat → Int32} {o11 : Value} {fr : va_W} {fm : Nat} (hp : ivT tX pp) (ht_y1 : (∀ j, iv (-128) 127 ((ff 0) j))) (ht_y20 : (∀ j, iv 0 10 ((ff 15) j))) (ht_y27 : (∀ j, iv 0 9999 ((ff 20) j))) (ht_y28 : (∀ j, iv 0 9 ((ff 21) j))) (ht_y32 : (∀ j, iv 0 9999 ((ff 23) j))) {D9 : Nat → Int32} (hL9 : LW D9 (ff 1) (ff 7) (pp 11) (pp 12) (pp 13) (pp 14)) (hK9 : KN D9 (ff 15)) (hW : WFa n L qq ee) (hF : RFo V o11 fr fm) (hT : PTn cells slots n fm (qq 0)) (hq : qq 0 < pp 5) (hg : 0 ≤ (a1 : Int32).toInt ∧ (a1 : Int32).toInt < ((pp 5) : Int32).toInt ∧ 0 ≤ (a2 : Int32).toInt ∧ (a2 : Int32).toInt ≤ 4 ∧ 0 ≤ (a3 : Int32).toInt ∧ (a3 : Int32).toInt ≤ 7 ∧ 0 ≤ (a4 : Int32).toInt ∧ (a4 : Int32).toInt ≤ 1) (hP : va_P V.1 vwCl (wB V y pp ff gg (.ref (Yw 0)) o11 ++ (wY V y n L Yw wa wb qq ee ++ fr) ++ wz) H) (hD : va_D (AAs s) (wB V y pp ff gg (.ref (Yw 0)) o11 ++ (wY V y n L Yw wa wb qq ee ++ fr) ++ wz)) (hS : va_S (AAs s) s.heap H locs) (hlz : ls.size = 4) (kk : (∀ (r : Int32) (H : Heap) (locs : List Loc) (cells slots : Nat) (pp' : Nat → Int32) (ff' : Nat → Nat → Int32) (gg' : Nat → Nat → Int64) (wx : va_W), KX V y cells slots pp' ff' gg' wx → (∀ i ∈ (0 :: 1 :: 2 :: 3 :: 4 :: 5 :: 6 :: 7 :: 10 :: 11 :: 12 :: 13 :: 14 :: 15 :: 16 :: 35 :: 36 :: 37 :: 38 :: 39 :: 40 :: 41 :: 42 :: 43 :: 44 :: 45 :: 46 :: 47 :: 48 :: 49 :: 50 :: 51 :: 54 :: 55 :: 56 :: 57 :: 58 :: 59 :: 60 :: 61 :: 62 :: 63 :: 64 :: 65 :: 66 :: 69 :: 70 :: 71 :: 72 :: 73 :: ([] : List Nat)), pp' i = pp i) ∧ (∀ i ∈ [0, 1, 2, 3, 4, 5, 6, 7, 20, 21, 22, 24, 25, 26, 27, 28, 29, 30, 31, 32, 33, 34, 35, 36, 37], ff' i = ff i) ∧ (∀ i ∈ [0, 1, 2, 3], gg' i = gg i) ∧ KN D9 (ff' 15) → va_P V.1 vwCl (wx ++ wz) H → va_D (AAs s) (wx ++ wz) → va_S (AAs s) s.heap H locs → W p l e room_1 s m #[Value.ref b] below meth c H locs cells slots (lw_Z below #[Value.ref b] s) (F0 m 1266 ls [.int r]))) : W p l e room_1 s m #[Value.ref b] below meth c H locs cells slots (lw_Z below #[Value.ref b] s) (F0 m 1263 ls [.int a4, .int a3, .int a2, .int a1, .ref (y 0)]) := by
  obtain ⟨hn, hL, hw_q0, hw_q5, hw_q6, hw_q14, hw_q15, hw_q16, hw_tYw1, hw_tYw4, hw_tYw5, hw_tYw6, hw_tYw7, hw_WA, hw_WB, hw_WC⟩ := id hW
  have hTB := PTn_B 10 46481 hT hw_q0 (hp 5) hq (by decide) (by decide)
  rw [as4] at hP hD
  refine cXI (X := wB V y pp ff gg (.ref (Yw 0)) o11 ++ wY V y n L Yw wa wb qq ee) (pl := fr ++ wz) (wr := [(y 1, aB V 900 (ff 0)), (y 4, aI V 4 (ff 2)), (y 5, aI V 4 (ff 3)), (y 6, aI V 8 (ff 4)), (y 7, aI V 8 (ff 5)), (y 8, aI V 8 (ff 6)), (y 10, .inr (6, o6_riiriiiii (y 11) (pp 15) (pp 16) (y 1) (pp 17) (pp 18) (pp 19) (pp 20) (pp 21))), (y 11, .inr (1, o1_iiiiiirrrrrrriiiii (pp 22) (pp 23) (pp 24) (pp 25) (pp 26) (pp 27) (y 12) (y 13) (y 14) (y 15) (y 16) (y 17) (y 18) (pp 28) (pp 29) (pp 30) (pp 31) (pp 32))), (y 12, aI V 4 (ff 8)), (y 13, aI V 4 (ff 9)), (y 14, aI V 4 (ff 10)), (y 15, aI V 8 (ff 11)), (y 16, aI V 8 (ff 12)), (y 17, aI V 8 (ff 13)), (y 18, aI V 900 (ff 14)), (y 23, aI V 10 (ff 18)), (y 24, aI V 10 (ff 19)), (y 25, .inr (0, [.int (pp 33), .int (pp 34)])), (y 26, .inr (5, o5_rrri (y 27) (y 28) (y 29) (pp 35))), (y 27, aI V 10 (ff 20)), (y 28, aI V 10 (ff 21)), (y 29, aI V 10 (ff 22)), (y 30, aT V 4 (va_up (va_up (va_up (va_up (fun _ => none) 0 (some (y 33))) 1 (some (y 35))) 2 (some (y 37))) 3 (some (y 39)))), (y 31, aM V 2 (va_up (va_up (fun _ => none) 0 (some (y 41))) 1 (some (y 50)))), (y 32, aI V 10 (ff 23)), (y 33, .inr (7, o7_rii (y 34) (pp 36) (pp 37))), (y 34, aJ V 40 (gg 0)), (y 35, .inr (7, o7_rii (y 36) (pp 38) (pp 39))), (y 36, aJ V 40 (gg 1)), (y 37, .inr (7, o7_rii (y 38) (pp 40) (pp 41))), (y 38, aJ V 40 (gg 2)), (y 39, .inr (7, o7_rii (y 40) (pp 42) (pp 43))), (y 40, aJ V 40 (gg 3)), (y 41, .inr (3, o3_riiii (y 42) (pp 44) (pp 45) (pp 46) (pp 47))), (y 42, .inr (1, o1_iiiiiirrrrrrriiiii (pp 48) (pp 49) (pp 50) (pp 51) (pp 52) (pp 53) (y 43) (y 44) (y 45) (y 46) (y 47) (y 48) (y 49) (pp 54) (pp 55) (pp 56) (pp 57) (pp 58))), (y 43, aI V 4 (ff 24)), (y 44, aI V 4 (ff 25)), (y 45, aI V 4 (ff 26)), (y 46, aI V 8 (ff 27)), (y 47, aI V 8 (ff 28)), (y 48, aI V 8 (ff 29)), (y 49, aI V 900 (ff 30)), (y 50, .inr (3, o3_riiii (y 51) (pp 59) (pp 60) (pp 61) (pp 62))), (y 51, .inr (1, o1_iiiiiirrrrrrriiiii (pp 63) (pp 64) (pp 65) (pp 66) (pp 67) (pp 68) (y 52) (y 53) (y 54) (y 55) (y 56) (y 57) (y 58) (pp 69) (pp 70) (pp 71) (pp 72) (pp 73))), (y 52, aI V 4 (ff 31)), (y 53, aI V 4 (ff 32)), (y 54, aI V 4 (ff 33)), (y 55, aI V 8 (ff 34)), (y 56, aI V 8 (ff 35)), (y 57, aI V 8 (ff 36)), (y 58, aI V 900 (ff 37))]) (rest := []) G (k_X9_chance_3 l V n L Yw y D9 a1 a2 a3 a4 (pp 0) o11 (pp 1) (pp 2) (pp 3) (pp 4) (pp 5) (pp 6) (pp 7) (pp 8) (pp 9) (pp 10) (pp 11) (pp 12) (pp 13) (pp 14) (ff 1) (ff 7) (ff 15) (ff 16) (ff 17) (qq 0) wa (qq 5) (qq 6) wb (qq 14) (qq 15) (qq 16) (ee 0) (ee 1) (ee 2) (ee 3) (ee 4) (ee 5) (ee 6) (ee 7) (ee 8) hn hL hq (hp 0) (hp 1) (hp 2) (hp 5) (hp 6) (hp 7) (hp 8) (hp 9) (hp 10) (hp 11) (hp 12) (hp 13) (hp 14) ht_y20 hw_q0 hw_q5 hw_q6 hw_q14 hw_q15 hw_q16 hw_tYw1 hw_tYw4 hw_tYw5 hw_tYw6 hw_tYw7 hw_WA hw_WB hw_WC hg.1 hg.2.1 hg.2.2.1 hg.2.2.2.1 hg.2.2.2.2.1 hg.2.2.2.2.2.1 hg.2.2.2.2.2.2.1 hg.2.2.2.2.2.2.2 hL9 hK9) mt_X9_chance q_5_154 ⟨Nat.le_of_ble_eq_true rfl, Nat.le_of_ble_eq_true rfl⟩ hP hD hS [0, 2, 3, 9, 19, 20, 21, 22, 59, 60, 61, 62, 63, 64, 65, 66, 67, 68] [1, 4, 5, 6, 7, 8, 10, 11, 12, 13, 14, 15, 16, 17, 18, 23, 24, 25, 26, 27, 28, 29, 30, 31, 32, 33, 34, 35, 36, 37, 38, 39, 40, 41, 42, 43, 44, 45, 46, 47, 48, 49, 50, 51, 52, 53, 54, 55, 56, 57, 58] (by decide +kernel) rfl rfl (by decide +kernel) (by decide +kernel) 0 rfl rfl rfl rfl hlz rfl (Nat.le_of_ble_eq_true rfl) dL_law_1263 hTB.1 (fun r w H locs hw hP hD hS => ?_)
  refine Exists.elim hw (fun n1 hw => ?_)
  refine Exists.elim hw (fun L1 hw => ?_)
  refine Exists.elim hw (fun Yw1 hw => ?_)
  refine Exists.elim hw (fun wa1 hw => ?_)
  refine Exists.elim hw (fun wb1 hw => ?_)
  refine Exists.elim hw (fun g0 hw => ?_)
  refine Exists.elim hw (fun g1 hw => ?_)
  refine Exists.elim hw (fun g2 hw => ?_)
  refine Exists.elim hw (fun ww0 hw => ?_)
  refine Exists.elim hw (fun ww5 hw => ?_)
  refine Exists.elim hw (fun ww6 hw => ?_)
  refine Exists.elim hw (fun ww14 hw => ?_)
  refine Exists.elim hw (fun ww15 hw => ?_)
  refine Exists.elim hw (fun ww16 hw => ?_)
  refine Exists.elim hw (fun wew1 hw => ?_)
  refine Exists.elim hw (fun wew2 hw => ?_)
  refine Exists.elim hw (fun wew3 hw => ?_)
  refine Exists.elim hw (fun wew4 hw => ?_)
  refine Exists.elim hw (fun wew5 hw => ?_)
  refine Exists.elim hw (fun wew6 hw => ?_)
  refine Exists.elim hw (fun wew7 hw => ?_)
  refine Exists.elim hw (fun wew8 hw => ?_)
  refine Exists.elim hw (fun wew9 hw => ?_)
  refine And.elim (fun hn1 hw => ?_) hw
  refine And.elim (fun hL1 hw => ?_) hw
  refine And.elim (fun bg0 hw => ?_) hw
  refine And.elim (fun bww0 hw => ?_) hw
  refine And.elim (fun bww5 hw => ?_) hw
  refine And.elim (fun bww6 hw => ?_) hw
  refine And.elim (fun bww14 hw => ?_) hw
  refine And.elim (fun bww15 hw => ?_) hw
  refine And.elim (fun bww16 hw => ?_) hw
  refine And.elim (fun bwew1 hw => ?_) hw
  refine And.elim (fun bwew4 hw => ?_) hw
  refine And.elim (fun bwew5 hw => ?_) hw
  refine And.elim (fun bwew6 hw => ?_) hw
  refine And.elim (fun bwew7 hw => ?_) hw
  refine And.elim (fun g_0 hw => ?_) hw
  refine And.elim (fun g_1 hw => ?_) hw
  refine And.elim (fun g_2 hw => ?_) hw
  refine And.elim (fun g_3 hw => ?_) hw
  refine And.elim (fun kn9 hw => ?_) hw
  subst hw
  have hP := ptP (ws' := wB V y pp (up9 (up9 (up9 ff 15 g0) 16 g1) 17 g2) gg (.ref (Yw1 0)) o11 ++ wY V y n1 L1 Yw1 wa1 wb1 (br9 17 (br9 8 (br9 4 (br9 2 (br9 1 (lf9 ww0) (fun _ => 0)) (fun _ => 0)) (br9 6 (br9 5 (fun _ => 0) (lf9 ww5)) (br9 7 (lf9 ww6) (fun _ => 0)))) (br9 12 (fun _ => 0) (br9 14 (fun _ => 0) (br9 15 (lf9 ww14) (br9 16 (lf9 ww15) (lf9 ww16)))))) (fun _ => 0)) (br9 9 (br9 4 (br9 2 (br9 1 (lf9 wew1) (lf9 wew2)) (br9 3 (lf9 wew3) (lf9 wew4))) (br9 6 (br9 5 (lf9 wew5) (lf9 wew6)) (br9 7 (lf9 wew7) (br9 8 (lf9 wew8) (lf9 wew9))))) (fun _ _ => 0))) hP [51, 0, 52, 53, 1, 2, 3, 4, 5, 54, 6, 7, 8, 9, 10, 11, 12, 13, 14, 55, 56, 57, 58, 15, 16, 17, 18, 19, 20, 21, 22, 23, 24, 25, 26, 27, 28, 29, 30, 31, 32, 33, 34, 35, 36, 37, 38, 39, 40, 41, 42, 43, 44, 45, 46, 47, 48, 49, 50, 59, 60, 61, 62, 63, 64, 65, 66, 67, 68] rfl
  have hD := hD.part (cx := wB V y pp (up9 (up9 (up9 ff 15 g0) 16 g1) 17 g2) gg (.ref (Yw1 0)) o11 ++ wY V y n1 L1 Yw1 wa1 wb1 (br9 17 (br9 8 (br9 4 (br9 2 (br9 1 (lf9 ww0) (fun _ => 0)) (fun _ => 0)) (br9 6 (br9 5 (fun _ => 0) (lf9 ww5)) (br9 7 (lf9 ww6) (fun _ => 0)))) (br9 12 (fun _ => 0) (br9 14 (fun _ => 0) (br9 15 (lf9 ww14) (br9 16 (lf9 ww15) (lf9 ww16)))))) (fun _ => 0)) (br9 9 (br9 4 (br9 2 (br9 1 (lf9 wew1) (lf9 wew2)) (br9 3 (lf9 wew3) (lf9 wew4))) (br9 6 (br9 5 (lf9 wew5) (lf9 wew6)) (br9 7 (lf9 wew7) (br9 8 (lf9 wew8) (lf9 wew9))))) (fun _ _ => 0))) [51, 0, 52, 53, 1, 2, 3, 4, 5, 54, 6, 7, 8, 9, 10, 11, 12, 13, 14, 55, 56, 57, 58, 15, 16, 17, 18, 19, 20, 21, 22, 23, 24, 25, 26, 27, 28, 29, 30, 31, 32, 33, 34, 35, 36, 37, 38, 39, 40, 41, 42, 43, 44, 45, 46, 47, 48, 49, 50, 59, 60, 61, 62, 63, 64, 65, 66, 67, 68] (by decide +kernel) rfl
  rw [← as4] at hP hD
  exact kk r H locs (cells + 10) (slots + 46481) pp (up9 (up9 (up9 ff 15 g0) 16 g1) 17 g2) gg _ ⟨.ref (Yw1 0), o11, _, hp, ht_y1, bg0, ht_y27, ht_y28, ht_y32, Or.inr ⟨n1, L1, Yw1, wa1, wb1, (br9 17 (br9 8 (br9 4 (br9 2 (br9 1 (lf9 ww0) (fun _ => 0)) (fun _ => 0)) (br9 6 (br9 5 (fun _ => 0) (lf9 ww5)) (br9 7 (lf9 ww6) (fun _ => 0)))) (br9 12 (fun _ => 0) (br9 14 (fun _ => 0) (br9 15 (lf9 ww14) (br9 16 (lf9 ww15) (lf9 ww16)))))) (fun _ => 0)), (br9 9 (br9 4 (br9 2 (br9 1 (lf9 wew1) (lf9 wew2)) (br9 3 (lf9 wew3) (lf9 wew4))) (br9 6 (br9 5 (lf9 wew5) (lf9 wew6)) (br9 7 (lf9 wew7) (br9 8 (lf9 wew8) (lf9 wew9))))) (fun _ _ => 0)), fr, fm, ⟨hn1, hL1, bww0, bww5, bww6, bww14, bww15, bww16, bwew1, bwew4, bwew5, bwew6, bwew7, g_0, g_1, g_2⟩, hF, (show PTn _ _ _ _ ww0 from by rw [g_3]; exact hTB.2 n1 fm), rfl, rfl⟩, rfl⟩ ⟨(fun _ _ => rfl), (List.forall_mem_cons.mpr ⟨rfl, (List.forall_mem_cons.mpr ⟨rfl, (List.forall_mem_cons.mpr ⟨rfl, (List.forall_mem_cons.mpr ⟨rfl, (List.forall_mem_cons.mpr ⟨rfl, (List.forall_mem_cons.mpr ⟨rfl, (List.forall_mem_cons.mpr ⟨rfl, (List.forall_mem_cons.mpr ⟨rfl, (List.forall_mem_cons.mpr ⟨rfl, (List.forall_mem_cons.mpr ⟨rfl, (List.forall_mem_cons.mpr ⟨rfl, (List.forall_mem_cons.mpr ⟨rfl, (List.forall_mem_cons.mpr ⟨rfl, (List.forall_mem_cons.mpr ⟨rfl, (List.forall_mem_cons.mpr ⟨rfl, (List.forall_mem_cons.mpr ⟨rfl, (List.forall_mem_cons.mpr ⟨rfl, (List.forall_mem_cons.mpr ⟨rfl, (List.forall_mem_cons.mpr ⟨rfl, (List.forall_mem_cons.mpr ⟨rfl, (List.forall_mem_cons.mpr ⟨rfl, (List.forall_mem_cons.mpr ⟨rfl, (List.forall_mem_cons.mpr ⟨rfl, (List.forall_mem_cons.mpr ⟨rfl, (List.forall_mem_cons.mpr ⟨rfl, (fun _ h => absurd h List.not_mem_nil)⟩)⟩)⟩)⟩)⟩)⟩)⟩)⟩)⟩)⟩)⟩)⟩)⟩)⟩)⟩)⟩)⟩)⟩)⟩)⟩)⟩)⟩)⟩)⟩)⟩), (fun _ _ => rfl), kn9⟩ hP hD hS
set_option maxHeartbeats 4000000 in
set_option maxRecDepth 100000 in
theorem cx_36 {p : Program} {e : Env} {s : State} {m : MethodId} {below : List Frame} {meth : Method} {c : Code} {l : Launch} {b Lk : Nat} {xs : Nat → Int32} {V : GV} {y : Nat → Nat} {H : Heap} {locs : List Loc} {cells slots : Nat} {wz : va_W} {ls : Array Slot} (G : LCx p s m meth c b Lk xs V) (a1 : Int32) (a2 : Int32) (a3 : Int32) (a4 : Int32) {pp : Nat → Int32} {ff : Nat → Nat → Int32} {gg : Nat → Nat → Int64} {D9 : Nat → Int32} (hL9 : LW D9 (ff 1) (ff 7) (pp 11) (pp 12) (pp 13) (pp 14)) (hK9 : KN D9 (ff 15)) {wx : va_W} (kx : KX V y cells slots pp ff gg wx) (hP : va_P V.1 vwCl (wx ++ wz) H) (hD : va_D (AAs s) (wx ++ wz)) (hS : va_S (AAs s) s.heap H locs) (hlz : ls.size = 4) (kk : (∀ (r : Int32) (H : Heap) (locs : List Loc) (cells slots : Nat) (pp' : Nat → Int32) (ff' : Nat → Nat → Int32) (gg' : Nat → Nat → Int64) (wx : va_W), KX V y cells slots pp' ff' gg' wx → (∀ i ∈ (0 :: 1 :: 2 :: 3 :: 4 :: 5 :: 6 :: 7 :: 10 :: 11 :: 12 :: 13 :: 14 :: 15 :: 16 :: 35 :: 36 :: 37 :: 38 :: 39 :: 40 :: 41 :: 42 :: 43 :: 44 :: 45 :: 46 :: 47 :: 48 :: 49 :: 50 :: 51 :: 54 :: 55 :: 56 :: 57 :: 58 :: 59 :: 60 :: 61 :: 62 :: 63 :: 64 :: 65 :: 66 :: 69 :: 70 :: 71 :: 72 :: 73 :: ([] : List Nat)), pp' i = pp i) ∧ (∀ i ∈ [0, 1, 2, 3, 4, 5, 6, 7, 20, 21, 22, 24, 25, 26, 27, 28, 29, 30, 31, 32, 33, 34, 35, 36, 37], ff' i = ff i) ∧ (∀ i ∈ [0, 1, 2, 3], gg' i = gg i) ∧ KN D9 (ff' 15) → va_P V.1 vwCl (wx ++ wz) H → va_D (AAs s) (wx ++ wz) → va_S (AAs s) s.heap H locs → W p l e room_1 s m #[Value.ref b] below meth c H locs cells slots (lw_Z below #[Value.ref b] s) (F0 m 1266 ls [.int r]))) : W p l e room_1 s m #[Value.ref b] below meth c H locs cells slots (lw_Z below #[Value.ref b] s) (F0 m 1263 ls [.int a4, .int a3, .int a2, .int a1, .ref (y 0)]) := by
  obtain ⟨o10, o11, rest, hp, ht_y1, ht_y20, ht_y27, ht_y28, ht_y32, hR, rfl⟩ := kx
  by_cases hg : 0 ≤ (a1 : Int32).toInt ∧ (a1 : Int32).toInt < ((pp 5) : Int32).toInt ∧ 0 ≤ (a2 : Int32).toInt ∧ (a2 : Int32).toInt ≤ 4 ∧ 0 ≤ (a3 : Int32).toInt ∧ (a3 : Int32).toInt ≤ 7 ∧ 0 ≤ (a4 : Int32).toInt ∧ (a4 : Int32).toInt ≤ 1
  · rcases hR with ⟨rfl, rfl, rfl, hc⟩ | ⟨n, L, Yw, wa, wb, qq, ee, fr, fm, hW, hF, hT, rfl, rfl⟩
    · exact cx_36_0 G _ _ _ _ hp ht_y1 ht_y20 ht_y27 ht_y28 ht_y32 hL9 hK9 hc hg hP hD hS hlz kk
    · rcases Classical.em (pp 5 ≤ qq 0) with hq | hq
      · exact cx_36_a G _ _ _ _ hp ht_y1 ht_y20 ht_y27 ht_y28 ht_y32 hL9 hK9 hW hF hT hq hP hD hS hlz kk
      · replace hq := Int32.not_le.mp hq
        exact cx_36_b G _ _ _ _ hp ht_y1 ht_y20 ht_y27 ht_y28 ht_y32 hL9 hK9 hW hF hT hq hg hP hD hS hlz kk
  · exact cx_36_e G _ _ _ _ hp ht_y1 ht_y20 ht_y27 ht_y28 ht_y32 hL9 hK9 hR hg hP hD hS hlz kk
theorem q_5_172 : Cond.code yX9_mean prog_1_method_65_code 6 (some FieldType.int) ∈ gw := gw_5 (i := 172) (rfl) rfl
theorem q_5_170 : Cond.instanceMethod yX9_mean ∈ gw := gw_5 (i := 170) (by decide +kernel) rfl
theorem q_5_171 : Cond.selects "BeaconDelay" yX9_mean yX9_mean ∈ gw := gw_5 (i := 171) (by decide +kernel) rfl
theorem mt_X9_mean : MtV yX9_mean cX9_mean 6 (some .int) 2 := ⟨⟨q_5_172, q_1_1, by decide +kernel, by decide +kernel, by decide +kernel⟩, q_5_170, q_5_171⟩
theorem q_5_169 : Cond.methodLink "BeaconDelayLaw" 169 yX9_mean ∈ gw := gw_5 (i := 169) (by decide +kernel) rfl
theorem dL_law_1306 : decode cL_law 1306 = .ok (.invokevirtual 169, 3) := by decide +kernel
set_option maxHeartbeats 4000000 in
set_option maxRecDepth 100000 in
theorem cx_37_e {p : Program} {e : Env} {s : State} {m : MethodId} {below : List Frame} {meth : Method} {c : Code} {l : Launch} {b Lk : Nat} {xs : Nat → Int32} {V : GV} {y : Nat → Nat} {H : Heap} {locs : List Loc} {cells slots : Nat} {wz : va_W} {ls : Array Slot} (G : LCx p s m meth c b Lk xs V) (a1 : Int32) (a2 : Int32) {pp : Nat → Int32} {ff : Nat → Nat → Int32} {gg : Nat → Nat → Int64} {o10 o11 : Value} {rest : va_W} (hp : ivT tX pp) (ht_y1 : (∀ j, iv (-128) 127 ((ff 0) j))) (ht_y20 : (∀ j, iv 0 10 ((ff 15) j))) (ht_y27 : (∀ j, iv 0 9999 ((ff 20) j))) (ht_y28 : (∀ j, iv 0 9 ((ff 21) j))) (ht_y32 : (∀ j, iv 0 9999 ((ff 23) j))) {D9 : Nat → Int32} (hL9 : LW D9 (ff 1) (ff 7) (pp 11) (pp 12) (pp 13) (pp 14)) (hK9 : KN D9 (ff 15)) (hR : RRo V y cells slots o10 o11 rest) (hg : ¬ (0 ≤ (a1 : Int32).toInt ∧ (a1 : Int32).toInt ≤ 7 ∧ 0 ≤ (a2 : Int32).toInt ∧ (a2 : Int32).toInt ≤ 1)) (hP : va_P V.1 vwCl (wB V y pp ff gg o10 o11 ++ rest ++ wz) H) (hD : va_D (AAs s) (wB V y pp ff gg o10 o11 ++ rest ++ wz)) (hS : va_S (AAs s) s.heap H locs) (hlz : ls.size = 4) (kk : (∀ (r : Int32) (H : Heap) (locs : List Loc) (cells slots : Nat) (pp' : Nat → Int32) (ff' : Nat → Nat → Int32) (gg' : Nat → Nat → Int64) (wx : va_W), KX V y cells slots pp' ff' gg' wx → (∀ i ∈ (0 :: 1 :: 2 :: 3 :: 4 :: 5 :: 6 :: 7 :: 10 :: 11 :: 12 :: 13 :: 14 :: 15 :: 16 :: 35 :: 36 :: 37 :: 38 :: 39 :: 40 :: 41 :: 42 :: 43 :: 44 :: 45 :: 46 :: 47 :: 48 :: 49 :: 50 :: 51 :: 54 :: 55 :: 56 :: 57 :: 58 :: 59 :: 60 :: 61 :: 62 :: 63 :: 64 :: 65 :: 66 :: 69 :: 70 :: 71 :: 72 :: 73 :: ([] : List Nat)), pp' i = pp i) ∧ (∀ i ∈ [0, 1, 2, 3, 4, 5, 6, 7, 20, 21, 22, 24, 25, 26, 27, 28, 29, 30, 31, 32, 33, 34, 35, 36, 37], ff' i = ff i) ∧ (∀ i ∈ [0, 1, 2, 3], gg' i = gg i) ∧ KN D9 (ff' 15) → va_P V.1 vwCl (wx ++ wz) H → va_D (AAs s) (wx ++ wz) → va_S (AAs s) s.heap H locs → W p l e room_1 s m #[Value.ref b] below meth c H locs cells slots (lw_Z below #[Value.ref b] s) (F0 m 1309 ls [.int r]))) : W p l e room_1 s m #[Value.ref b] below meth c H locs cells slots (lw_Z below #[Value.ref b] s) (F0 m 1306 ls [.int a2, .int a1, .ref (y 0)]) := by
  rw [as3] at hP hD
  refine cSI (X := wB V y pp ff gg o10 o11) (pl := rest ++ wz) (rest := []) G (k_X9_mean_1 l V y a1 a2 hg) mt_X9_mean q_5_169 ⟨Nat.le_of_ble_eq_true rfl, Nat.le_of_ble_eq_true rfl⟩ hP hD hS [] [] (by decide) (by decide +kernel) rfl 0 rfl rfl rfl rfl hlz rfl (Nat.le_of_ble_eq_true rfl) dL_law_1306 hR.room (fun r w H locs hw hPD hS => ?_)
  refine And.elim (fun br hw => ?_) hw
  subst hw
  obtain ⟨hP, hD⟩ := hPD (wB V y pp ff gg o10 o11) rfl rfl
  rw [← as3] at hP hD
  exact kk r H locs (cells + 0) (slots + 0) pp ff gg _ ⟨o10, o11, rest, hp, ht_y1, ht_y20, ht_y27, ht_y28, ht_y32, hR, rfl⟩ ⟨(fun _ _ => rfl), (fun _ _ => rfl), (fun _ _ => rfl), hK9⟩ hP hD hS
set_option maxHeartbeats 4000000 in
set_option maxRecDepth 100000 in
theorem cx_37_0 {p : Program} {e : Env} {s : State} {m : MethodId} {below : List Frame} {meth : Method} {c : Code} {l : Launch} {b Lk : Nat} {xs : Nat → Int32} {V : GV} {y : Nat → Nat} {H : Heap} {locs : List Loc} {cells slots : Nat} {wz : va_W} {ls : Array Slot} (G : LCx p s m meth c b Lk xs V) (a1 : Int32) (a2 : Int32) {pp : Nat → Int32} {ff : Nat → Nat → Int32} {gg : Nat → Nat → Int64} (hp : ivT tX pp) (ht_y1 : (∀ j, iv (-128) 127 ((ff 0) j))) (ht_y20 : (∀ j, iv 0 10 ((ff 15) j))) (ht_y27 : (∀ j, iv 0 9999 ((ff 20) j))) (ht_y28 : (∀ j, iv 0 9 ((ff 21) j))) (ht_y32 : (∀ j, iv 0 9999 ((ff 23) j))) {D9 : Nat → Int32} (hL9 : LW D9 (ff 1) (ff 7) (pp 11) (pp 12) (pp 13) (pp 14)) (hK9 : KN D9 (ff 15)) (hc : cells + 116 ≤ 600000 ∧ slots + 633553 ≤ 7302250) (hg : 0 ≤ (a1 : Int32).toInt ∧ (a1 : Int32).toInt ≤ 7 ∧ 0 ≤ (a2 : Int32).toInt ∧ (a2 : Int32).toInt ≤ 1) (hP : va_P V.1 vwCl (wB V y pp ff gg .null .null ++ [] ++ wz) H) (hD : va_D (AAs s) (wB V y pp ff gg .null .null ++ [] ++ wz)) (hS : va_S (AAs s) s.heap H locs) (hlz : ls.size = 4) (kk : (∀ (r : Int32) (H : Heap) (locs : List Loc) (cells slots : Nat) (pp' : Nat → Int32) (ff' : Nat → Nat → Int32) (gg' : Nat → Nat → Int64) (wx : va_W), KX V y cells slots pp' ff' gg' wx → (∀ i ∈ (0 :: 1 :: 2 :: 3 :: 4 :: 5 :: 6 :: 7 :: 10 :: 11 :: 12 :: 13 :: 14 :: 15 :: 16 :: 35 :: 36 :: 37 :: 38 :: 39 :: 40 :: 41 :: 42 :: 43 :: 44 :: 45 :: 46 :: 47 :: 48 :: 49 :: 50 :: 51 :: 54 :: 55 :: 56 :: 57 :: 58 :: 59 :: 60 :: 61 :: 62 :: 63 :: 64 :: 65 :: 66 :: 69 :: 70 :: 71 :: 72 :: 73 :: ([] : List Nat)), pp' i = pp i) ∧ (∀ i ∈ [0, 1, 2, 3, 4, 5, 6, 7, 20, 21, 22, 24, 25, 26, 27, 28, 29, 30, 31, 32, 33, 34, 35, 36, 37], ff' i = ff i) ∧ (∀ i ∈ [0, 1, 2, 3], gg' i = gg i) ∧ KN D9 (ff' 15) → va_P V.1 vwCl (wx ++ wz) H → va_D (AAs s) (wx ++ wz) → va_S (AAs s) s.heap H locs → W p l e room_1 s m #[Value.ref b] below meth c H locs cells slots (lw_Z below #[Value.ref b] s) (F0 m 1309 ls [.int r]))) : W p l e room_1 s m #[Value.ref b] below meth c H locs cells slots (lw_Z below #[Value.ref b] s) (F0 m 1306 ls [.int a2, .int a1, .ref (y 0)]) := by
  refine cXI (X := wB V y pp ff gg .null .null ++ []) (pl := wz) (wr := [(y 1, aB V 900 (ff 0)), (y 4, aI V 4 (ff 2)), (y 5, aI V 4 (ff 3)), (y 6, aI V 8 (ff 4)), (y 7, aI V 8 (ff 5)), (y 8, aI V 8 (ff 6)), (y 10, .inr (6, o6_riiriiiii (y 11) (pp 15) (pp 16) (y 1) (pp 17) (pp 18) (pp 19) (pp 20) (pp 21))), (y 11, .inr (1, o1_iiiiiirrrrrrriiiii (pp 22) (pp 23) (pp 24) (pp 25) (pp 26) (pp 27) (y 12) (y 13) (y 14) (y 15) (y 16) (y 17) (y 18) (pp 28) (pp 29) (pp 30) (pp 31) (pp 32))), (y 12, aI V 4 (ff 8)), (y 13, aI V 4 (ff 9)), (y 14, aI V 4 (ff 10)), (y 15, aI V 8 (ff 11)), (y 16, aI V 8 (ff 12)), (y 17, aI V 8 (ff 13)), (y 18, aI V 900 (ff 14)), (y 23, aI V 10 (ff 18)), (y 24, aI V 10 (ff 19)), (y 25, .inr (0, [.int (pp 33), .int (pp 34)])), (y 26, .inr (5, o5_rrri (y 27) (y 28) (y 29) (pp 35))), (y 27, aI V 10 (ff 20)), (y 28, aI V 10 (ff 21)), (y 29, aI V 10 (ff 22)), (y 30, aT V 4 (va_up (va_up (va_up (va_up (fun _ => none) 0 (some (y 33))) 1 (some (y 35))) 2 (some (y 37))) 3 (some (y 39)))), (y 31, aM V 2 (va_up (va_up (fun _ => none) 0 (some (y 41))) 1 (some (y 50)))), (y 32, aI V 10 (ff 23)), (y 33, .inr (7, o7_rii (y 34) (pp 36) (pp 37))), (y 34, aJ V 40 (gg 0)), (y 35, .inr (7, o7_rii (y 36) (pp 38) (pp 39))), (y 36, aJ V 40 (gg 1)), (y 37, .inr (7, o7_rii (y 38) (pp 40) (pp 41))), (y 38, aJ V 40 (gg 2)), (y 39, .inr (7, o7_rii (y 40) (pp 42) (pp 43))), (y 40, aJ V 40 (gg 3)), (y 41, .inr (3, o3_riiii (y 42) (pp 44) (pp 45) (pp 46) (pp 47))), (y 42, .inr (1, o1_iiiiiirrrrrrriiiii (pp 48) (pp 49) (pp 50) (pp 51) (pp 52) (pp 53) (y 43) (y 44) (y 45) (y 46) (y 47) (y 48) (y 49) (pp 54) (pp 55) (pp 56) (pp 57) (pp 58))), (y 43, aI V 4 (ff 24)), (y 44, aI V 4 (ff 25)), (y 45, aI V 4 (ff 26)), (y 46, aI V 8 (ff 27)), (y 47, aI V 8 (ff 28)), (y 48, aI V 8 (ff 29)), (y 49, aI V 900 (ff 30)), (y 50, .inr (3, o3_riiii (y 51) (pp 59) (pp 60) (pp 61) (pp 62))), (y 51, .inr (1, o1_iiiiiirrrrrrriiiii (pp 63) (pp 64) (pp 65) (pp 66) (pp 67) (pp 68) (y 52) (y 53) (y 54) (y 55) (y 56) (y 57) (y 58) (pp 69) (pp 70) (pp 71) (pp 72) (pp 73))), (y 52, aI V 4 (ff 31)), (y 53, aI V 4 (ff 32)), (y 54, aI V 4 (ff 33)), (y 55, aI V 8 (ff 34)), (y 56, aI V 8 (ff 35)), (y 57, aI V 8 (ff 36)), (y 58, aI V 900 (ff 37))]) (rest := []) G (k_X9_mean_2 l V y D9 a1 a2 (pp 0) (.null) (pp 1) (pp 2) (pp 3) (pp 4) (pp 5) (pp 6) (pp 7) (pp 8) (pp 9) (pp 10) (pp 11) (pp 12) (pp 13) (pp 14) (ff 1) (ff 7) (ff 15) (ff 16) (ff 17) (hp 0) (hp 1) (hp 2) (hp 5) (hp 6) (hp 7) (hp 8) (hp 9) (hp 10) (hp 11) (hp 12) (hp 13) (hp 14) ht_y20 hg.1 hg.2.1 hg.2.2.1 hg.2.2.2 hL9 hK9) mt_X9_mean q_5_169 ⟨Nat.le_of_ble_eq_true rfl, Nat.le_of_ble_eq_true rfl⟩ hP hD hS [0, 2, 3, 9, 19, 20, 21, 22] [1, 4, 5, 6, 7, 8, 10, 11, 12, 13, 14, 15, 16, 17, 18, 23, 24, 25, 26, 27, 28, 29, 30, 31, 32, 33, 34, 35, 36, 37, 38, 39, 40, 41, 42, 43, 44, 45, 46, 47, 48, 49, 50, 51, 52, 53, 54, 55, 56, 57, 58] (by decide +kernel) rfl rfl (by decide +kernel) (by decide +kernel) 0 rfl rfl rfl rfl hlz rfl (Nat.le_of_ble_eq_true rfl) dL_law_1306 (by omega) (fun r w H locs hw hP hD hS => ?_)
  refine Exists.elim hw (fun n1 hw => ?_)
  refine Exists.elim hw (fun L1 hw => ?_)
  refine Exists.elim hw (fun Yw1 hw => ?_)
  refine Exists.elim hw (fun wa1 hw => ?_)
  refine Exists.elim hw (fun wb1 hw => ?_)
  refine Exists.elim hw (fun g0 hw => ?_)
  refine Exists.elim hw (fun g1 hw => ?_)
  refine Exists.elim hw (fun g2 hw => ?_)
  refine Exists.elim hw (fun ww0 hw => ?_)
  refine Exists.elim hw (fun ww5 hw => ?_)
  refine Exists.elim hw (fun ww6 hw => ?_)
  refine Exists.elim hw (fun ww14 hw => ?_)
  refine Exists.elim hw (fun ww15 hw => ?_)
  refine Exists.elim hw (fun ww16 hw => ?_)
  refine Exists.elim hw (fun wew1 hw => ?_)
  refine Exists.elim hw (fun wew2 hw => ?_)
  refine Exists.elim hw (fun wew3 hw => ?_)
  refine Exists.elim hw (fun wew4 hw => ?_)
  refine Exists.elim hw (fun wew5 hw => ?_)
  refine Exists.elim hw (fun wew6 hw => ?_)
  refine Exists.elim hw (fun wew7 hw => ?_)
  refine Exists.elim hw (fun wew8 hw => ?_)
  refine Exists.elim hw (fun wew9 hw => ?_)
  refine And.elim (fun hn1 hw => ?_) hw
  refine And.elim (fun hL1 hw => ?_) hw
  refine And.elim (fun bg0 hw => ?_) hw
  refine And.elim (fun bww0 hw => ?_) hw
  refine And.elim (fun bww5 hw => ?_) hw
  refine And.elim (fun bww6 hw => ?_) hw
  refine And.elim (fun bww14 hw => ?_) hw
  refine And.elim (fun bww15 hw => ?_) hw
  refine And.elim (fun bww16 hw => ?_) hw
  refine And.elim (fun bwew1 hw => ?_) hw
  refine And.elim (fun bwew4 hw => ?_) hw
  refine And.elim (fun bwew5 hw => ?_) hw
  refine And.elim (fun bwew6 hw => ?_) hw
  refine And.elim (fun bwew7 hw => ?_) hw
  refine And.elim (fun g_0 hw => ?_) hw
  refine And.elim (fun g_1 hw => ?_) hw
  refine And.elim (fun g_2 hw => ?_) hw
  refine And.elim (fun g_3 hw => ?_) hw
  refine And.elim (fun kn9 hw => ?_) hw
  subst hw
  have hP := ptP (ws' := wB V y pp (up9 (up9 (up9 ff 15 g0) 16 g1) 17 g2) gg (.ref (Yw1 0)) .null ++ (wY V y n1 L1 Yw1 wa1 wb1 (br9 17 (br9 8 (br9 4 (br9 2 (br9 1 (lf9 ww0) (fun _ => 0)) (fun _ => 0)) (br9 6 (br9 5 (fun _ => 0) (lf9 ww5)) (br9 7 (lf9 ww6) (fun _ => 0)))) (br9 12 (fun _ => 0) (br9 14 (fun _ => 0) (br9 15 (lf9 ww14) (br9 16 (lf9 ww15) (lf9 ww16)))))) (fun _ => 0)) (br9 9 (br9 4 (br9 2 (br9 1 (lf9 wew1) (lf9 wew2)) (br9 3 (lf9 wew3) (lf9 wew4))) (br9 6 (br9 5 (lf9 wew5) (lf9 wew6)) (br9 7 (lf9 wew7) (br9 8 (lf9 wew8) (lf9 wew9))))) (fun _ _ => 0)) ++ [])) hP [51, 0, 52, 53, 1, 2, 3, 4, 5, 54, 6, 7, 8, 9, 10, 11, 12, 13, 14, 55, 56, 57, 58, 15, 16, 17, 18, 19, 20, 21, 22, 23, 24, 25, 26, 27, 28, 29, 30, 31, 32, 33, 34, 35, 36, 37, 38, 39, 40, 41, 42, 43, 44, 45, 46, 47, 48, 49, 50, 59, 60, 61, 62, 63, 64, 65, 66, 67, 68] rfl
  have hD := hD.part (cx := wB V y pp (up9 (up9 (up9 ff 15 g0) 16 g1) 17 g2) gg (.ref (Yw1 0)) .null ++ (wY V y n1 L1 Yw1 wa1 wb1 (br9 17 (br9 8 (br9 4 (br9 2 (br9 1 (lf9 ww0) (fun _ => 0)) (fun _ => 0)) (br9 6 (br9 5 (fun _ => 0) (lf9 ww5)) (br9 7 (lf9 ww6) (fun _ => 0)))) (br9 12 (fun _ => 0) (br9 14 (fun _ => 0) (br9 15 (lf9 ww14) (br9 16 (lf9 ww15) (lf9 ww16)))))) (fun _ => 0)) (br9 9 (br9 4 (br9 2 (br9 1 (lf9 wew1) (lf9 wew2)) (br9 3 (lf9 wew3) (lf9 wew4))) (br9 6 (br9 5 (lf9 wew5) (lf9 wew6)) (br9 7 (lf9 wew7) (br9 8 (lf9 wew8) (lf9 wew9))))) (fun _ _ => 0)) ++ [])) [51, 0, 52, 53, 1, 2, 3, 4, 5, 54, 6, 7, 8, 9, 10, 11, 12, 13, 14, 55, 56, 57, 58, 15, 16, 17, 18, 19, 20, 21, 22, 23, 24, 25, 26, 27, 28, 29, 30, 31, 32, 33, 34, 35, 36, 37, 38, 39, 40, 41, 42, 43, 44, 45, 46, 47, 48, 49, 50, 59, 60, 61, 62, 63, 64, 65, 66, 67, 68] (by decide +kernel) rfl
  exact kk r H locs (cells + 10) (slots + 46481) pp (up9 (up9 (up9 ff 15 g0) 16 g1) 17 g2) gg _ ⟨.ref (Yw1 0), .null, _, hp, ht_y1, bg0, ht_y27, ht_y28, ht_y32, Or.inr ⟨n1, L1, Yw1, wa1, wb1, (br9 17 (br9 8 (br9 4 (br9 2 (br9 1 (lf9 ww0) (fun _ => 0)) (fun _ => 0)) (br9 6 (br9 5 (fun _ => 0) (lf9 ww5)) (br9 7 (lf9 ww6) (fun _ => 0)))) (br9 12 (fun _ => 0) (br9 14 (fun _ => 0) (br9 15 (lf9 ww14) (br9 16 (lf9 ww15) (lf9 ww16)))))) (fun _ => 0)), (br9 9 (br9 4 (br9 2 (br9 1 (lf9 wew1) (lf9 wew2)) (br9 3 (lf9 wew3) (lf9 wew4))) (br9 6 (br9 5 (lf9 wew5) (lf9 wew6)) (br9 7 (lf9 wew7) (br9 8 (lf9 wew8) (lf9 wew9))))) (fun _ _ => 0)), [], 0, ⟨hn1, hL1, bww0, bww5, bww6, bww14, bww15, bww16, bwew1, bwew4, bwew5, bwew6, bwew7, g_0, g_1, g_2⟩, (Or.inl ⟨rfl, rfl, rfl⟩), (show PTn _ _ _ _ ww0 from by rw [g_3]; exact PTn_0 10 46481 hc (hp 5) (by decide) (by decide) n1 0), rfl, rfl⟩, rfl⟩ ⟨(fun _ _ => rfl), (List.forall_mem_cons.mpr ⟨rfl, (List.forall_mem_cons.mpr ⟨rfl, (List.forall_mem_cons.mpr ⟨rfl, (List.forall_mem_cons.mpr ⟨rfl, (List.forall_mem_cons.mpr ⟨rfl, (List.forall_mem_cons.mpr ⟨rfl, (List.forall_mem_cons.mpr ⟨rfl, (List.forall_mem_cons.mpr ⟨rfl, (List.forall_mem_cons.mpr ⟨rfl, (List.forall_mem_cons.mpr ⟨rfl, (List.forall_mem_cons.mpr ⟨rfl, (List.forall_mem_cons.mpr ⟨rfl, (List.forall_mem_cons.mpr ⟨rfl, (List.forall_mem_cons.mpr ⟨rfl, (List.forall_mem_cons.mpr ⟨rfl, (List.forall_mem_cons.mpr ⟨rfl, (List.forall_mem_cons.mpr ⟨rfl, (List.forall_mem_cons.mpr ⟨rfl, (List.forall_mem_cons.mpr ⟨rfl, (List.forall_mem_cons.mpr ⟨rfl, (List.forall_mem_cons.mpr ⟨rfl, (List.forall_mem_cons.mpr ⟨rfl, (List.forall_mem_cons.mpr ⟨rfl, (List.forall_mem_cons.mpr ⟨rfl, (List.forall_mem_cons.mpr ⟨rfl, (fun _ h => absurd h List.not_mem_nil)⟩)⟩)⟩)⟩)⟩)⟩)⟩)⟩)⟩)⟩)⟩)⟩)⟩)⟩)⟩)⟩)⟩)⟩)⟩)⟩)⟩)⟩)⟩)⟩)⟩), (fun _ _ => rfl), kn9⟩ hP hD hS
set_option maxHeartbeats 4000000 in
set_option maxRecDepth 100000 in
theorem cx_37_a {p : Program} {e : Env} {s : State} {m : MethodId} {below : List Frame} {meth : Method} {c : Code} {l : Launch} {b Lk : Nat} {xs : Nat → Int32} {V : GV} {y : Nat → Nat} {H : Heap} {locs : List Loc} {cells slots : Nat} {wz : va_W} {ls : Array Slot} (G : LCx p s m meth c b Lk xs V) (a1 : Int32) (a2 : Int32) {pp : Nat → Int32} {ff : Nat → Nat → Int32} {gg : Nat → Nat → Int64} {n L : Nat} {Yw : Nat → Nat} {wa wb : Nat} {qq : Nat → Int32} {ee : Nat → Nat → Int32} {o11 : Value} {fr : va_W} {fm : Nat} (hp : ivT tX pp) (ht_y1 : (∀ j, iv (-128) 127 ((ff 0) j))) (ht_y20 : (∀ j, iv 0 10 ((ff 15) j))) (ht_y27 : (∀ j, iv 0 9999 ((ff 20) j))) (ht_y28 : (∀ j, iv 0 9 ((ff 21) j))) (ht_y32 : (∀ j, iv 0 9999 ((ff 23) j))) {D9 : Nat → Int32} (hL9 : LW D9 (ff 1) (ff 7) (pp 11) (pp 12) (pp 13) (pp 14)) (hK9 : KN D9 (ff 15)) (hW : WFa n L qq ee) (hF : RFo V o11 fr fm) (hT : PTn cells slots n fm (qq 0)) (hq : pp 5 ≤ qq 0) (hP : va_P V.1 vwCl (wB V y pp ff gg (.ref (Yw 0)) o11 ++ (wY V y n L Yw wa wb qq ee ++ fr) ++ wz) H) (hD : va_D (AAs s) (wB V y pp ff gg (.ref (Yw 0)) o11 ++ (wY V y n L Yw wa wb qq ee ++ fr) ++ wz)) (hS : va_S (AAs s) s.heap H locs) (hlz : ls.size = 4) (kk : (∀ (r : Int32) (H : Heap) (locs : List Loc) (cells slots : Nat) (pp' : Nat → Int32) (ff' : Nat → Nat → Int32) (gg' : Nat → Nat → Int64) (wx : va_W), KX V y cells slots pp' ff' gg' wx → (∀ i ∈ (0 :: 1 :: 2 :: 3 :: 4 :: 5 :: 6 :: 7 :: 10 :: 11 :: 12 :: 13 :: 14 :: 15 :: 16 :: 35 :: 36 :: 37 :: 38 :: 39 :: 40 :: 41 :: 42 :: 43 :: 44 :: 45 :: 46 :: 47 :: 48 :: 49 :: 50 :: 51 :: 54 :: 55 :: 56 :: 57 :: 58 :: 59 :: 60 :: 61 :: 62 :: 63 :: 64 :: 65 :: 66 :: 69 :: 70 :: 71 :: 72 :: 73 :: ([] : List Nat)), pp' i = pp i) ∧ (∀ i ∈ [0, 1, 2, 3, 4, 5, 6, 7, 20, 21, 22, 24, 25, 26, 27, 28, 29, 30, 31, 32, 33, 34, 35, 36, 37], ff' i = ff i) ∧ (∀ i ∈ [0, 1, 2, 3], gg' i = gg i) ∧ KN D9 (ff' 15) → va_P V.1 vwCl (wx ++ wz) H → va_D (AAs s) (wx ++ wz) → va_S (AAs s) s.heap H locs → W p l e room_1 s m #[Value.ref b] below meth c H locs cells slots (lw_Z below #[Value.ref b] s) (F0 m 1309 ls [.int r]))) : W p l e room_1 s m #[Value.ref b] below meth c H locs cells slots (lw_Z below #[Value.ref b] s) (F0 m 1306 ls [.int a2, .int a1, .ref (y 0)]) := by
  obtain ⟨hn, hL, hw_q0, hw_q5, hw_q6, hw_q14, hw_q15, hw_q16, hw_tYw1, hw_tYw4, hw_tYw5, hw_tYw6, hw_tYw7, hw_WA, hw_WB, hw_WC⟩ := id hW
  rw [as4] at hP hD
  refine cXI (X := wB V y pp ff gg (.ref (Yw 0)) o11 ++ wY V y n L Yw wa wb qq ee) (pl := fr ++ wz) (wr := [(y 1, aB V 900 (ff 0)), (y 4, aI V 4 (ff 2)), (y 5, aI V 4 (ff 3)), (y 6, aI V 8 (ff 4)), (y 7, aI V 8 (ff 5)), (y 8, aI V 8 (ff 6)), (y 10, .inr (6, o6_riiriiiii (y 11) (pp 15) (pp 16) (y 1) (pp 17) (pp 18) (pp 19) (pp 20) (pp 21))), (y 11, .inr (1, o1_iiiiiirrrrrrriiiii (pp 22) (pp 23) (pp 24) (pp 25) (pp 26) (pp 27) (y 12) (y 13) (y 14) (y 15) (y 16) (y 17) (y 18) (pp 28) (pp 29) (pp 30) (pp 31) (pp 32))), (y 12, aI V 4 (ff 8)), (y 13, aI V 4 (ff 9)), (y 14, aI V 4 (ff 10)), (y 15, aI V 8 (ff 11)), (y 16, aI V 8 (ff 12)), (y 17, aI V 8 (ff 13)), (y 18, aI V 900 (ff 14)), (y 23, aI V 10 (ff 18)), (y 24, aI V 10 (ff 19)), (y 25, .inr (0, [.int (pp 33), .int (pp 34)])), (y 26, .inr (5, o5_rrri (y 27) (y 28) (y 29) (pp 35))), (y 27, aI V 10 (ff 20)), (y 28, aI V 10 (ff 21)), (y 29, aI V 10 (ff 22)), (y 30, aT V 4 (va_up (va_up (va_up (va_up (fun _ => none) 0 (some (y 33))) 1 (some (y 35))) 2 (some (y 37))) 3 (some (y 39)))), (y 31, aM V 2 (va_up (va_up (fun _ => none) 0 (some (y 41))) 1 (some (y 50)))), (y 32, aI V 10 (ff 23)), (y 33, .inr (7, o7_rii (y 34) (pp 36) (pp 37))), (y 34, aJ V 40 (gg 0)), (y 35, .inr (7, o7_rii (y 36) (pp 38) (pp 39))), (y 36, aJ V 40 (gg 1)), (y 37, .inr (7, o7_rii (y 38) (pp 40) (pp 41))), (y 38, aJ V 40 (gg 2)), (y 39, .inr (7, o7_rii (y 40) (pp 42) (pp 43))), (y 40, aJ V 40 (gg 3)), (y 41, .inr (3, o3_riiii (y 42) (pp 44) (pp 45) (pp 46) (pp 47))), (y 42, .inr (1, o1_iiiiiirrrrrrriiiii (pp 48) (pp 49) (pp 50) (pp 51) (pp 52) (pp 53) (y 43) (y 44) (y 45) (y 46) (y 47) (y 48) (y 49) (pp 54) (pp 55) (pp 56) (pp 57) (pp 58))), (y 43, aI V 4 (ff 24)), (y 44, aI V 4 (ff 25)), (y 45, aI V 4 (ff 26)), (y 46, aI V 8 (ff 27)), (y 47, aI V 8 (ff 28)), (y 48, aI V 8 (ff 29)), (y 49, aI V 900 (ff 30)), (y 50, .inr (3, o3_riiii (y 51) (pp 59) (pp 60) (pp 61) (pp 62))), (y 51, .inr (1, o1_iiiiiirrrrrrriiiii (pp 63) (pp 64) (pp 65) (pp 66) (pp 67) (pp 68) (y 52) (y 53) (y 54) (y 55) (y 56) (y 57) (y 58) (pp 69) (pp 70) (pp 71) (pp 72) (pp 73))), (y 52, aI V 4 (ff 31)), (y 53, aI V 4 (ff 32)), (y 54, aI V 4 (ff 33)), (y 55, aI V 8 (ff 34)), (y 56, aI V 8 (ff 35)), (y 57, aI V 8 (ff 36)), (y 58, aI V 900 (ff 37)), (Yw 7, aI V n (ee 6))]) (rest := []) G (k_X9_mean_0 l V n L Yw y D9 a1 a2 (pp 0) o11 (pp 1) (pp 2) (pp 3) (pp 4) (pp 5) (pp 6) (pp 7) (pp 8) (pp 9) (pp 10) (pp 11) (pp 12) (pp 13) (pp 14) (ff 1) (ff 7) (ff 15) (ff 16) (ff 17) (qq 0) wa (qq 5) (qq 6) wb (qq 14) (qq 15) (qq 16) (ee 0) (ee 1) (ee 2) (ee 3) (ee 4) (ee 5) (ee 7) (ee 8) hn hL hq (hp 0) (hp 1) (hp 2) (hp 5) (hp 6) (hp 7) (hp 8) (hp 9) (hp 10) (hp 11) (hp 12) (hp 13) (hp 14) ht_y20 hw_q0 hw_q5 hw_q6 hw_q14 hw_q15 hw_q16 hw_tYw1 hw_tYw4 hw_tYw5 hw_tYw6 hw_WA hw_WB hw_WC hL9 hK9) mt_X9_mean q_5_169 ⟨Nat.le_of_ble_eq_true rfl, Nat.le_of_ble_eq_true rfl⟩ hP hD hS [0, 2, 3, 9, 19, 20, 21, 22, 59, 60, 61, 62, 63, 64, 65, 67, 68] [1, 4, 5, 6, 7, 8, 10, 11, 12, 13, 14, 15, 16, 17, 18, 23, 24, 25, 26, 27, 28, 29, 30, 31, 32, 33, 34, 35, 36, 37, 38, 39, 40, 41, 42, 43, 44, 45, 46, 47, 48, 49, 50, 51, 52, 53, 54, 55, 56, 57, 58, 66] (by decide +kernel) rfl rfl (by decide +kernel) (by decide +kernel) 0 rfl rfl rfl rfl hlz rfl (Nat.le_of_ble_eq_true rfl) dL_law_1306 (PTn_room hT hw_q0) (fun r w H locs hw hP hD hS => ?_)
  refine Exists.elim hw (fun g0 hw => ?_)
  refine Exists.elim hw (fun g1 hw => ?_)
  refine Exists.elim hw (fun g2 hw => ?_)
  refine Exists.elim hw (fun wa2 hw => ?_)
  refine Exists.elim hw (fun v4 hw => ?_)
  refine Exists.elim hw (fun v5 hw => ?_)
  refine Exists.elim hw (fun wb2 hw => ?_)
  refine Exists.elim hw (fun v7 hw => ?_)
  refine Exists.elim hw (fun v8 hw => ?_)
  refine Exists.elim hw (fun v9 hw => ?_)
  refine Exists.elim hw (fun g10 hw => ?_)
  refine Exists.elim hw (fun g11 hw => ?_)
  refine Exists.elim hw (fun g12 hw => ?_)
  refine Exists.elim hw (fun g13 hw => ?_)
  refine Exists.elim hw (fun g14 hw => ?_)
  refine Exists.elim hw (fun g15 hw => ?_)
  refine Exists.elim hw (fun g16 hw => ?_)
  refine Exists.elim hw (fun g17 hw => ?_)
  refine And.elim (fun bg0 hw => ?_) hw
  refine And.elim (fun bv4 hw => ?_) hw
  refine And.elim (fun bv5 hw => ?_) hw
  refine And.elim (fun bv7 hw => ?_) hw
  refine And.elim (fun bv8 hw => ?_) hw
  refine And.elim (fun bv9 hw => ?_) hw
  refine And.elim (fun bg10 hw => ?_) hw
  refine And.elim (fun bg13 hw => ?_) hw
  refine And.elim (fun bg14 hw => ?_) hw
  refine And.elim (fun bg15 hw => ?_) hw
  refine And.elim (fun g_0 hw => ?_) hw
  refine And.elim (fun g_1 hw => ?_) hw
  refine And.elim (fun g_2 hw => ?_) hw
  refine And.elim (fun kn9 hw => ?_) hw
  subst hw
  have hP := ptP (ws' := wB V y pp (up9 (up9 (up9 ff 15 g0) 16 g1) 17 g2) gg (.ref (Yw 0)) o11 ++ wY V y n L Yw wa2 wb2 (br9 17 (br9 8 (br9 4 qq (br9 6 (br9 5 qq (lf9 v4)) (br9 7 (lf9 v5) qq))) (br9 12 qq (br9 14 qq (br9 15 (lf9 v7) (br9 16 (lf9 v8) (lf9 v9)))))) qq) (br9 9 (br9 4 (br9 2 (br9 1 (lf9 g10) (lf9 g11)) (br9 3 (lf9 g12) (lf9 g13))) (br9 6 (br9 5 (lf9 g14) (lf9 g15)) (br9 7 ee (br9 8 (lf9 g16) (lf9 g17))))) ee)) hP [52, 0, 53, 54, 1, 2, 3, 4, 5, 55, 6, 7, 8, 9, 10, 11, 12, 13, 14, 56, 57, 58, 59, 15, 16, 17, 18, 19, 20, 21, 22, 23, 24, 25, 26, 27, 28, 29, 30, 31, 32, 33, 34, 35, 36, 37, 38, 39, 40, 41, 42, 43, 44, 45, 46, 47, 48, 49, 50, 60, 61, 62, 63, 64, 65, 66, 51, 67, 68] rfl
  have hD := hD.part (cx := wB V y pp (up9 (up9 (up9 ff 15 g0) 16 g1) 17 g2) gg (.ref (Yw 0)) o11 ++ wY V y n L Yw wa2 wb2 (br9 17 (br9 8 (br9 4 qq (br9 6 (br9 5 qq (lf9 v4)) (br9 7 (lf9 v5) qq))) (br9 12 qq (br9 14 qq (br9 15 (lf9 v7) (br9 16 (lf9 v8) (lf9 v9)))))) qq) (br9 9 (br9 4 (br9 2 (br9 1 (lf9 g10) (lf9 g11)) (br9 3 (lf9 g12) (lf9 g13))) (br9 6 (br9 5 (lf9 g14) (lf9 g15)) (br9 7 ee (br9 8 (lf9 g16) (lf9 g17))))) ee)) [52, 0, 53, 54, 1, 2, 3, 4, 5, 55, 6, 7, 8, 9, 10, 11, 12, 13, 14, 56, 57, 58, 59, 15, 16, 17, 18, 19, 20, 21, 22, 23, 24, 25, 26, 27, 28, 29, 30, 31, 32, 33, 34, 35, 36, 37, 38, 39, 40, 41, 42, 43, 44, 45, 46, 47, 48, 49, 50, 60, 61, 62, 63, 64, 65, 66, 51, 67, 68] (by decide +kernel) rfl
  rw [← as4] at hP hD
  exact kk r H locs (cells + 0) (slots + 0) pp (up9 (up9 (up9 ff 15 g0) 16 g1) 17 g2) gg _ ⟨.ref (Yw 0), o11, _, hp, ht_y1, bg0, ht_y27, ht_y28, ht_y32, Or.inr ⟨n, L, Yw, wa2, wb2, (br9 17 (br9 8 (br9 4 qq (br9 6 (br9 5 qq (lf9 v4)) (br9 7 (lf9 v5) qq))) (br9 12 qq (br9 14 qq (br9 15 (lf9 v7) (br9 16 (lf9 v8) (lf9 v9)))))) qq), (br9 9 (br9 4 (br9 2 (br9 1 (lf9 g10) (lf9 g11)) (br9 3 (lf9 g12) (lf9 g13))) (br9 6 (br9 5 (lf9 g14) (lf9 g15)) (br9 7 ee (br9 8 (lf9 g16) (lf9 g17))))) ee), fr, fm, ⟨hn, hL, hw_q0, bv4, bv5, bv7, bv8, bv9, bg10, bg13, bg14, bg15, hw_tYw7, g_0, g_1, g_2⟩, hF, hT, rfl, rfl⟩, rfl⟩ ⟨(fun _ _ => rfl), (List.forall_mem_cons.mpr ⟨rfl, (List.forall_mem_cons.mpr ⟨rfl, (List.forall_mem_cons.mpr ⟨rfl, (List.forall_mem_cons.mpr ⟨rfl, (List.forall_mem_cons.mpr ⟨rfl, (List.forall_mem_cons.mpr ⟨rfl, (List.forall_mem_cons.mpr ⟨rfl, (List.forall_mem_cons.mpr ⟨rfl, (List.forall_mem_cons.mpr ⟨rfl, (List.forall_mem_cons.mpr ⟨rfl, (List.forall_mem_cons.mpr ⟨rfl, (List.forall_mem_cons.mpr ⟨rfl, (List.forall_mem_cons.mpr ⟨rfl, (List.forall_mem_cons.mpr ⟨rfl, (List.forall_mem_cons.mpr ⟨rfl, (List.forall_mem_cons.mpr ⟨rfl, (List.forall_mem_cons.mpr ⟨rfl, (List.forall_mem_cons.mpr ⟨rfl, (List.forall_mem_cons.mpr ⟨rfl, (List.forall_mem_cons.mpr ⟨rfl, (List.forall_mem_cons.mpr ⟨rfl, (List.forall_mem_cons.mpr ⟨rfl, (List.forall_mem_cons.mpr ⟨rfl, (List.forall_mem_cons.mpr ⟨rfl, (List.forall_mem_cons.mpr ⟨rfl, (fun _ h => absurd h List.not_mem_nil)⟩)⟩)⟩)⟩)⟩)⟩)⟩)⟩)⟩)⟩)⟩)⟩)⟩)⟩)⟩)⟩)⟩)⟩)⟩)⟩)⟩)⟩)⟩)⟩)⟩), (fun _ _ => rfl), kn9⟩ hP hD hS
set_option maxHeartbeats 4000000 in
set_option maxRecDepth 100000 in
theorem cx_37_b {p : Program} {e : Env} {s : State} {m : MethodId} {below : List Frame} {meth : Method} {c : Code} {l : Launch} {b Lk : Nat} {xs : Nat → Int32} {V : GV} {y : Nat → Nat} {H : Heap} {locs : List Loc} {cells slots : Nat} {wz : va_W} {ls : Array Slot} (G : LCx p s m meth c b Lk xs V) (a1 : Int32) (a2 : Int32) {pp : Nat → Int32} {ff : Nat → Nat → Int32} {gg : Nat → Nat → Int64} {n L : Nat} {Yw : Nat → Nat} {wa wb : Nat} {qq : Nat → Int32} {ee : Nat → Nat → Int32} {o11 : Value} {fr : va_W} {fm : Nat} (hp : ivT tX pp) (ht_y1 : (∀ j, iv (-128) 127 ((ff 0) j))) (ht_y20 : (∀ j, iv 0 10 ((ff 15) j))) (ht_y27 : (∀ j, iv 0 9999 ((ff 20) j))) (ht_y28 : (∀ j, iv 0 9 ((ff 21) j))) (ht_y32 : (∀ j, iv 0 9999 ((ff 23) j))) {D9 : Nat → Int32} (hL9 : LW D9 (ff 1) (ff 7) (pp 11) (pp 12) (pp 13) (pp 14)) (hK9 : KN D9 (ff 15)) (hW : WFa n L qq ee) (hF : RFo V o11 fr fm) (hT : PTn cells slots n fm (qq 0)) (hq : qq 0 < pp 5) (hg : 0 ≤ (a1 : Int32).toInt ∧ (a1 : Int32).toInt ≤ 7 ∧ 0 ≤ (a2 : Int32).toInt ∧ (a2 : Int32).toInt ≤ 1) (hP : va_P V.1 vwCl (wB V y pp ff gg (.ref (Yw 0)) o11 ++ (wY V y n L Yw wa wb qq ee ++ fr) ++ wz) H) (hD : va_D (AAs s) (wB V y pp ff gg (.ref (Yw 0)) o11 ++ (wY V y n L Yw wa wb qq ee ++ fr) ++ wz)) (hS : va_S (AAs s) s.heap H locs) (hlz : ls.size = 4) (kk : (∀ (r : Int32) (H : Heap) (locs : List Loc) (cells slots : Nat) (pp' : Nat → Int32) (ff' : Nat → Nat → Int32) (gg' : Nat → Nat → Int64) (wx : va_W), KX V y cells slots pp' ff' gg' wx → (∀ i ∈ (0 :: 1 :: 2 :: 3 :: 4 :: 5 :: 6 :: 7 :: 10 :: 11 :: 12 :: 13 :: 14 :: 15 :: 16 :: 35 :: 36 :: 37 :: 38 :: 39 :: 40 :: 41 :: 42 :: 43 :: 44 :: 45 :: 46 :: 47 :: 48 :: 49 :: 50 :: 51 :: 54 :: 55 :: 56 :: 57 :: 58 :: 59 :: 60 :: 61 :: 62 :: 63 :: 64 :: 65 :: 66 :: 69 :: 70 :: 71 :: 72 :: 73 :: ([] : List Nat)), pp' i = pp i) ∧ (∀ i ∈ [0, 1, 2, 3, 4, 5, 6, 7, 20, 21, 22, 24, 25, 26, 27, 28, 29, 30, 31, 32, 33, 34, 35, 36, 37], ff' i = ff i) ∧ (∀ i ∈ [0, 1, 2, 3], gg' i = gg i) ∧ KN D9 (ff' 15) → va_P V.1 vwCl (wx ++ wz) H → va_D (AAs s) (wx ++ wz) → va_S (AAs s) s.heap H locs → W p l e room_1 s m #[Value.ref b] below meth c H locs cells slots (lw_Z below #[Value.ref b] s) (F0 m 1309 ls [.int r]))) : W p l e room_1 s m #[Value.ref b] below meth c H locs cells slots (lw_Z below #[Value.ref b] s) (F0 m 1306 ls [.int a2, .int a1, .ref (y 0)]) := by
  obtain ⟨hn, hL, hw_q0, hw_q5, hw_q6, hw_q14, hw_q15, hw_q16, hw_tYw1, hw_tYw4, hw_tYw5, hw_tYw6, hw_tYw7, hw_WA, hw_WB, hw_WC⟩ := id hW
  have hTB := PTn_B 10 46481 hT hw_q0 (hp 5) hq (by decide) (by decide)
  rw [as4] at hP hD
  refine cXI (X := wB V y pp ff gg (.ref (Yw 0)) o11 ++ wY V y n L Yw wa wb qq ee) (pl := fr ++ wz) (wr := [(y 1, aB V 900 (ff 0)), (y 4, aI V 4 (ff 2)), (y 5, aI V 4 (ff 3)), (y 6, aI V 8 (ff 4)), (y 7, aI V 8 (ff 5)), (y 8, aI V 8 (ff 6)), (y 10, .inr (6, o6_riiriiiii (y 11) (pp 15) (pp 16) (y 1) (pp 17) (pp 18) (pp 19) (pp 20) (pp 21))), (y 11, .inr (1, o1_iiiiiirrrrrrriiiii (pp 22) (pp 23) (pp 24) (pp 25) (pp 26) (pp 27) (y 12) (y 13) (y 14) (y 15) (y 16) (y 17) (y 18) (pp 28) (pp 29) (pp 30) (pp 31) (pp 32))), (y 12, aI V 4 (ff 8)), (y 13, aI V 4 (ff 9)), (y 14, aI V 4 (ff 10)), (y 15, aI V 8 (ff 11)), (y 16, aI V 8 (ff 12)), (y 17, aI V 8 (ff 13)), (y 18, aI V 900 (ff 14)), (y 23, aI V 10 (ff 18)), (y 24, aI V 10 (ff 19)), (y 25, .inr (0, [.int (pp 33), .int (pp 34)])), (y 26, .inr (5, o5_rrri (y 27) (y 28) (y 29) (pp 35))), (y 27, aI V 10 (ff 20)), (y 28, aI V 10 (ff 21)), (y 29, aI V 10 (ff 22)), (y 30, aT V 4 (va_up (va_up (va_up (va_up (fun _ => none) 0 (some (y 33))) 1 (some (y 35))) 2 (some (y 37))) 3 (some (y 39)))), (y 31, aM V 2 (va_up (va_up (fun _ => none) 0 (some (y 41))) 1 (some (y 50)))), (y 32, aI V 10 (ff 23)), (y 33, .inr (7, o7_rii (y 34) (pp 36) (pp 37))), (y 34, aJ V 40 (gg 0)), (y 35, .inr (7, o7_rii (y 36) (pp 38) (pp 39))), (y 36, aJ V 40 (gg 1)), (y 37, .inr (7, o7_rii (y 38) (pp 40) (pp 41))), (y 38, aJ V 40 (gg 2)), (y 39, .inr (7, o7_rii (y 40) (pp 42) (pp 43))), (y 40, aJ V 40 (gg 3)), (y 41, .inr (3, o3_riiii (y 42) (pp 44) (pp 45) (pp 46) (pp 47))), (y 42, .inr (1, o1_iiiiiirrrrrrriiiii (pp 48) (pp 49) (pp 50) (pp 51) (pp 52) (pp 53) (y 43) (y 44) (y 45) (y 46) (y 47) (y 48) (y 49) (pp 54) (pp 55) (pp 56) (pp 57) (pp 58))), (y 43, aI V 4 (ff 24)), (y 44, aI V 4 (ff 25)), (y 45, aI V 4 (ff 26)), (y 46, aI V 8 (ff 27)), (y 47, aI V 8 (ff 28)), (y 48, aI V 8 (ff 29)), (y 49, aI V 900 (ff 30)), (y 50, .inr (3, o3_riiii (y 51) (pp 59) (pp 60) (pp 61) (pp 62))), (y 51, .inr (1, o1_iiiiiirrrrrrriiiii (pp 63) (pp 64) (pp 65) (pp 66) (pp 67) (pp 68) (y 52) (y 53) (y 54) (y 55) (y 56) (y 57) (y 58) (pp 69) (pp 70) (pp 71) (pp 72) (pp 73))), (y 52, aI V 4 (ff 31)), (y 53, aI V 4 (ff 32)), (y 54, aI V 4 (ff 33)), (y 55, aI V 8 (ff 34)), (y 56, aI V 8 (ff 35)), (y 57, aI V 8 (ff 36)), (y 58, aI V 900 (ff 37))]) (rest := []) G (k_X9_mean_3 l V n L Yw y D9 a1 a2 (pp 0) o11 (pp 1) (pp 2) (pp 3) (pp 4) (pp 5) (pp 6) (pp 7) (pp 8) (pp 9) (pp 10) (pp 11) (pp 12) (pp 13) (pp 14) (ff 1) (ff 7) (ff 15) (ff 16) (ff 17) (qq 0) wa (qq 5) (qq 6) wb (qq 14) (qq 15) (qq 16) (ee 0) (ee 1) (ee 2) (ee 3) (ee 4) (ee 5) (ee 6) (ee 7) (ee 8) hn hL hq (hp 0) (hp 1) (hp 2) (hp 5) (hp 6) (hp 7) (hp 8) (hp 9) (hp 10) (hp 11) (hp 12) (hp 13) (hp 14) ht_y20 hw_q0 hw_q5 hw_q6 hw_q14 hw_q15 hw_q16 hw_tYw1 hw_tYw4 hw_tYw5 hw_tYw6 hw_tYw7 hw_WA hw_WB hw_WC hg.1 hg.2.1 hg.2.2.1 hg.2.2.2 hL9 hK9) mt_X9_mean q_5_169 ⟨Nat.le_of_ble_eq_true rfl, Nat.le_of_ble_eq_true rfl⟩ hP hD hS [0, 2, 3, 9, 19, 20, 21, 22, 59, 60, 61, 62, 63, 64, 65, 66, 67, 68] [1, 4, 5, 6, 7, 8, 10, 11, 12, 13, 14, 15, 16, 17, 18, 23, 24, 25, 26, 27, 28, 29, 30, 31, 32, 33, 34, 35, 36, 37, 38, 39, 40, 41, 42, 43, 44, 45, 46, 47, 48, 49, 50, 51, 52, 53, 54, 55, 56, 57, 58] (by decide +kernel) rfl rfl (by decide +kernel) (by decide +kernel) 0 rfl rfl rfl rfl hlz rfl (Nat.le_of_ble_eq_true rfl) dL_law_1306 hTB.1 (fun r w H locs hw hP hD hS => ?_)
  refine Exists.elim hw (fun n1 hw => ?_)
  refine Exists.elim hw (fun L1 hw => ?_)
  refine Exists.elim hw (fun Yw1 hw => ?_)
  refine Exists.elim hw (fun wa1 hw => ?_)
  refine Exists.elim hw (fun wb1 hw => ?_)
  refine Exists.elim hw (fun g0 hw => ?_)
  refine Exists.elim hw (fun g1 hw => ?_)
  refine Exists.elim hw (fun g2 hw => ?_)
  refine Exists.elim hw (fun ww0 hw => ?_)
  refine Exists.elim hw (fun ww5 hw => ?_)
  refine Exists.elim hw (fun ww6 hw => ?_)
  refine Exists.elim hw (fun ww14 hw => ?_)
  refine Exists.elim hw (fun ww15 hw => ?_)
  refine Exists.elim hw (fun ww16 hw => ?_)
  refine Exists.elim hw (fun wew1 hw => ?_)
  refine Exists.elim hw (fun wew2 hw => ?_)
  refine Exists.elim hw (fun wew3 hw => ?_)
  refine Exists.elim hw (fun wew4 hw => ?_)
  refine Exists.elim hw (fun wew5 hw => ?_)
  refine Exists.elim hw (fun wew6 hw => ?_)
  refine Exists.elim hw (fun wew7 hw => ?_)
  refine Exists.elim hw (fun wew8 hw => ?_)
  refine Exists.elim hw (fun wew9 hw => ?_)
  refine And.elim (fun hn1 hw => ?_) hw
  refine And.elim (fun hL1 hw => ?_) hw
  refine And.elim (fun bg0 hw => ?_) hw
  refine And.elim (fun bww0 hw => ?_) hw
  refine And.elim (fun bww5 hw => ?_) hw
  refine And.elim (fun bww6 hw => ?_) hw
  refine And.elim (fun bww14 hw => ?_) hw
  refine And.elim (fun bww15 hw => ?_) hw
  refine And.elim (fun bww16 hw => ?_) hw
  refine And.elim (fun bwew1 hw => ?_) hw
  refine And.elim (fun bwew4 hw => ?_) hw
  refine And.elim (fun bwew5 hw => ?_) hw
  refine And.elim (fun bwew6 hw => ?_) hw
  refine And.elim (fun bwew7 hw => ?_) hw
  refine And.elim (fun g_0 hw => ?_) hw
  refine And.elim (fun g_1 hw => ?_) hw
  refine And.elim (fun g_2 hw => ?_) hw
  refine And.elim (fun g_3 hw => ?_) hw
  refine And.elim (fun kn9 hw => ?_) hw
  subst hw
  have hP := ptP (ws' := wB V y pp (up9 (up9 (up9 ff 15 g0) 16 g1) 17 g2) gg (.ref (Yw1 0)) o11 ++ wY V y n1 L1 Yw1 wa1 wb1 (br9 17 (br9 8 (br9 4 (br9 2 (br9 1 (lf9 ww0) (fun _ => 0)) (fun _ => 0)) (br9 6 (br9 5 (fun _ => 0) (lf9 ww5)) (br9 7 (lf9 ww6) (fun _ => 0)))) (br9 12 (fun _ => 0) (br9 14 (fun _ => 0) (br9 15 (lf9 ww14) (br9 16 (lf9 ww15) (lf9 ww16)))))) (fun _ => 0)) (br9 9 (br9 4 (br9 2 (br9 1 (lf9 wew1) (lf9 wew2)) (br9 3 (lf9 wew3) (lf9 wew4))) (br9 6 (br9 5 (lf9 wew5) (lf9 wew6)) (br9 7 (lf9 wew7) (br9 8 (lf9 wew8) (lf9 wew9))))) (fun _ _ => 0))) hP [51, 0, 52, 53, 1, 2, 3, 4, 5, 54, 6, 7, 8, 9, 10, 11, 12, 13, 14, 55, 56, 57, 58, 15, 16, 17, 18, 19, 20, 21, 22, 23, 24, 25, 26, 27, 28, 29, 30, 31, 32, 33, 34, 35, 36, 37, 38, 39, 40, 41, 42, 43, 44, 45, 46, 47, 48, 49, 50, 59, 60, 61, 62, 63, 64, 65, 66, 67, 68] rfl
  have hD := hD.part (cx := wB V y pp (up9 (up9 (up9 ff 15 g0) 16 g1) 17 g2) gg (.ref (Yw1 0)) o11 ++ wY V y n1 L1 Yw1 wa1 wb1 (br9 17 (br9 8 (br9 4 (br9 2 (br9 1 (lf9 ww0) (fun _ => 0)) (fun _ => 0)) (br9 6 (br9 5 (fun _ => 0) (lf9 ww5)) (br9 7 (lf9 ww6) (fun _ => 0)))) (br9 12 (fun _ => 0) (br9 14 (fun _ => 0) (br9 15 (lf9 ww14) (br9 16 (lf9 ww15) (lf9 ww16)))))) (fun _ => 0)) (br9 9 (br9 4 (br9 2 (br9 1 (lf9 wew1) (lf9 wew2)) (br9 3 (lf9 wew3) (lf9 wew4))) (br9 6 (br9 5 (lf9 wew5) (lf9 wew6)) (br9 7 (lf9 wew7) (br9 8 (lf9 wew8) (lf9 wew9))))) (fun _ _ => 0))) [51, 0, 52, 53, 1, 2, 3, 4, 5, 54, 6, 7, 8, 9, 10, 11, 12, 13, 14, 55, 56, 57, 58, 15, 16, 17, 18, 19, 20, 21, 22, 23, 24, 25, 26, 27, 28, 29, 30, 31, 32, 33, 34, 35, 36, 37, 38, 39, 40, 41, 42, 43, 44, 45, 46, 47, 48, 49, 50, 59, 60, 61, 62, 63, 64, 65, 66, 67, 68] (by decide +kernel) rfl
  rw [← as4] at hP hD
  exact kk r H locs (cells + 10) (slots + 46481) pp (up9 (up9 (up9 ff 15 g0) 16 g1) 17 g2) gg _ ⟨.ref (Yw1 0), o11, _, hp, ht_y1, bg0, ht_y27, ht_y28, ht_y32, Or.inr ⟨n1, L1, Yw1, wa1, wb1, (br9 17 (br9 8 (br9 4 (br9 2 (br9 1 (lf9 ww0) (fun _ => 0)) (fun _ => 0)) (br9 6 (br9 5 (fun _ => 0) (lf9 ww5)) (br9 7 (lf9 ww6) (fun _ => 0)))) (br9 12 (fun _ => 0) (br9 14 (fun _ => 0) (br9 15 (lf9 ww14) (br9 16 (lf9 ww15) (lf9 ww16)))))) (fun _ => 0)), (br9 9 (br9 4 (br9 2 (br9 1 (lf9 wew1) (lf9 wew2)) (br9 3 (lf9 wew3) (lf9 wew4))) (br9 6 (br9 5 (lf9 wew5) (lf9 wew6)) (br9 7 (lf9 wew7) (br9 8 (lf9 wew8) (lf9 wew9))))) (fun _ _ => 0)), fr, fm, ⟨hn1, hL1, bww0, bww5, bww6, bww14, bww15, bww16, bwew1, bwew4, bwew5, bwew6, bwew7, g_0, g_1, g_2⟩, hF, (show PTn _ _ _ _ ww0 from by rw [g_3]; exact hTB.2 n1 fm), rfl, rfl⟩, rfl⟩ ⟨(fun _ _ => rfl), (List.forall_mem_cons.mpr ⟨rfl, (List.forall_mem_cons.mpr ⟨rfl, (List.forall_mem_cons.mpr ⟨rfl, (List.forall_mem_cons.mpr ⟨rfl, (List.forall_mem_cons.mpr ⟨rfl, (List.forall_mem_cons.mpr ⟨rfl, (List.forall_mem_cons.mpr ⟨rfl, (List.forall_mem_cons.mpr ⟨rfl, (List.forall_mem_cons.mpr ⟨rfl, (List.forall_mem_cons.mpr ⟨rfl, (List.forall_mem_cons.mpr ⟨rfl, (List.forall_mem_cons.mpr ⟨rfl, (List.forall_mem_cons.mpr ⟨rfl, (List.forall_mem_cons.mpr ⟨rfl, (List.forall_mem_cons.mpr ⟨rfl, (List.forall_mem_cons.mpr ⟨rfl, (List.forall_mem_cons.mpr ⟨rfl, (List.forall_mem_cons.mpr ⟨rfl, (List.forall_mem_cons.mpr ⟨rfl, (List.forall_mem_cons.mpr ⟨rfl, (List.forall_mem_cons.mpr ⟨rfl, (List.forall_mem_cons.mpr ⟨rfl, (List.forall_mem_cons.mpr ⟨rfl, (List.forall_mem_cons.mpr ⟨rfl, (List.forall_mem_cons.mpr ⟨rfl, (fun _ h => absurd h List.not_mem_nil)⟩)⟩)⟩)⟩)⟩)⟩)⟩)⟩)⟩)⟩)⟩)⟩)⟩)⟩)⟩)⟩)⟩)⟩)⟩)⟩)⟩)⟩)⟩)⟩)⟩), (fun _ _ => rfl), kn9⟩ hP hD hS
set_option maxHeartbeats 4000000 in
set_option maxRecDepth 100000 in
theorem cx_37 {p : Program} {e : Env} {s : State} {m : MethodId} {below : List Frame} {meth : Method} {c : Code} {l : Launch} {b Lk : Nat} {xs : Nat → Int32} {V : GV} {y : Nat → Nat} {H : Heap} {locs : List Loc} {cells slots : Nat} {wz : va_W} {ls : Array Slot} (G : LCx p s m meth c b Lk xs V) (a1 : Int32) (a2 : Int32) {pp : Nat → Int32} {ff : Nat → Nat → Int32} {gg : Nat → Nat → Int64} {D9 : Nat → Int32} (hL9 : LW D9 (ff 1) (ff 7) (pp 11) (pp 12) (pp 13) (pp 14)) (hK9 : KN D9 (ff 15)) {wx : va_W} (kx : KX V y cells slots pp ff gg wx) (hP : va_P V.1 vwCl (wx ++ wz) H) (hD : va_D (AAs s) (wx ++ wz)) (hS : va_S (AAs s) s.heap H locs) (hlz : ls.size = 4) (kk : (∀ (r : Int32) (H : Heap) (locs : List Loc) (cells slots : Nat) (pp' : Nat → Int32) (ff' : Nat → Nat → Int32) (gg' : Nat → Nat → Int64) (wx : va_W), KX V y cells slots pp' ff' gg' wx → (∀ i ∈ (0 :: 1 :: 2 :: 3 :: 4 :: 5 :: 6 :: 7 :: 10 :: 11 :: 12 :: 13 :: 14 :: 15 :: 16 :: 35 :: 36 :: 37 :: 38 :: 39 :: 40 :: 41 :: 42 :: 43 :: 44 :: 45 :: 46 :: 47 :: 48 :: 49 :: 50 :: 51 :: 54 :: 55 :: 56 :: 57 :: 58 :: 59 :: 60 :: 61 :: 62 :: 63 :: 64 :: 65 :: 66 :: 69 :: 70 :: 71 :: 72 :: 73 :: ([] : List Nat)), pp' i = pp i) ∧ (∀ i ∈ [0, 1, 2, 3, 4, 5, 6, 7, 20, 21, 22, 24, 25, 26, 27, 28, 29, 30, 31, 32, 33, 34, 35, 36, 37], ff' i = ff i) ∧ (∀ i ∈ [0, 1, 2, 3], gg' i = gg i) ∧ KN D9 (ff' 15) → va_P V.1 vwCl (wx ++ wz) H → va_D (AAs s) (wx ++ wz) → va_S (AAs s) s.heap H locs → W p l e room_1 s m #[Value.ref b] below meth c H locs cells slots (lw_Z below #[Value.ref b] s) (F0 m 1309 ls [.int r]))) : W p l e room_1 s m #[Value.ref b] below meth c H locs cells slots (lw_Z below #[Value.ref b] s) (F0 m 1306 ls [.int a2, .int a1, .ref (y 0)]) := by
  obtain ⟨o10, o11, rest, hp, ht_y1, ht_y20, ht_y27, ht_y28, ht_y32, hR, rfl⟩ := kx
  by_cases hg : 0 ≤ (a1 : Int32).toInt ∧ (a1 : Int32).toInt ≤ 7 ∧ 0 ≤ (a2 : Int32).toInt ∧ (a2 : Int32).toInt ≤ 1
  · rcases hR with ⟨rfl, rfl, rfl, hc⟩ | ⟨n, L, Yw, wa, wb, qq, ee, fr, fm, hW, hF, hT, rfl, rfl⟩
    · exact cx_37_0 G _ _ hp ht_y1 ht_y20 ht_y27 ht_y28 ht_y32 hL9 hK9 hc hg hP hD hS hlz kk
    · rcases Classical.em (pp 5 ≤ qq 0) with hq | hq
      · exact cx_37_a G _ _ hp ht_y1 ht_y20 ht_y27 ht_y28 ht_y32 hL9 hK9 hW hF hT hq hP hD hS hlz kk
      · replace hq := Int32.not_le.mp hq
        exact cx_37_b G _ _ hp ht_y1 ht_y20 ht_y27 ht_y28 ht_y32 hL9 hK9 hW hF hT hq hg hP hD hS hlz kk
  · exact cx_37_e G _ _ hp ht_y1 ht_y20 ht_y27 ht_y28 ht_y32 hL9 hK9 hR hg hP hD hS hlz kk
theorem q_5_176 : Cond.code yX9_numbers prog_1_method_69_code 4 (some FieldType.int) ∈ gw := gw_5 (i := 176) (rfl) rfl
theorem q_5_174 : Cond.instanceMethod yX9_numbers ∈ gw := gw_5 (i := 174) (by decide +kernel) rfl
theorem q_5_175 : Cond.selects "BeaconDelay" yX9_numbers yX9_numbers ∈ gw := gw_5 (i := 175) (by decide +kernel) rfl
theorem mt_X9_numbers : MtV yX9_numbers cX9_numbers 4 (some .int) 3 := ⟨⟨q_5_176, q_1_1, by decide +kernel, by decide +kernel, by decide +kernel⟩, q_5_174, q_5_175⟩
theorem q_5_173 : Cond.methodLink "BeaconDelayLaw" 173 yX9_numbers ∈ gw := gw_5 (i := 173) (by decide +kernel) rfl
theorem dL_law_1344 : decode cL_law 1344 = .ok (.invokevirtual 173, 3) := by decide +kernel
set_option maxHeartbeats 4000000 in
set_option maxRecDepth 100000 in
theorem cx_38_s {p : Program} {e : Env} {s : State} {m : MethodId} {below : List Frame} {meth : Method} {c : Code} {l : Launch} {b Lk : Nat} {xs : Nat → Int32} {V : GV} {y : Nat → Nat} {H : Heap} {locs : List Loc} {cells slots : Nat} {wz : va_W} {ls : Array Slot} (G : LCx p s m meth c b Lk xs V) (a1 : Int32) (a2 : Int32) (a3 : Int32) {pp : Nat → Int32} {ff : Nat → Nat → Int32} {gg : Nat → Nat → Int64} {o10 o11 : Value} {rest : va_W} (hp : ivT tX pp) (ht_y1 : (∀ j, iv (-128) 127 ((ff 0) j))) (ht_y20 : (∀ j, iv 0 10 ((ff 15) j))) (ht_y27 : (∀ j, iv 0 9999 ((ff 20) j))) (ht_y28 : (∀ j, iv 0 9 ((ff 21) j))) (ht_y32 : (∀ j, iv 0 9999 ((ff 23) j))) {D9 : Nat → Int32} (hL9 : LW D9 (ff 1) (ff 7) (pp 11) (pp 12) (pp 13) (pp 14)) (hK9 : KN D9 (ff 15)) (hR : RRo V y cells slots o10 o11 rest)  (hP : va_P V.1 vwCl (wB V y pp ff gg o10 o11 ++ rest ++ wz) H) (hD : va_D (AAs s) (wB V y pp ff gg o10 o11 ++ rest ++ wz)) (hS : va_S (AAs s) s.heap H locs) (hlz : ls.size = 4) (kk : (∀ (r : Int32) (H : Heap) (locs : List Loc) (cells slots : Nat) (pp' : Nat → Int32) (ff' : Nat → Nat → Int32) (gg' : Nat → Nat → Int64) (wx : va_W), KX V y cells slots pp' ff' gg' wx → (∀ i ∈ (0 :: 1 :: 2 :: 3 :: 4 :: 5 :: 6 :: 7 :: 10 :: 11 :: 12 :: 13 :: 14 :: 15 :: 16 :: 35 :: 44 :: 45 :: 46 :: 47 :: 48 :: 49 :: 50 :: 51 :: 54 :: 55 :: 56 :: 57 :: 58 :: 59 :: 60 :: 61 :: 62 :: 63 :: 64 :: 65 :: 66 :: 69 :: 70 :: 71 :: 72 :: 73 :: ([] : List Nat)), pp' i = pp i) ∧ (∀ i ∈ [0, 1, 2, 3, 4, 5, 6, 7, 15, 20, 21, 22, 24, 25, 26, 27, 28, 29, 30, 31, 32, 33, 34, 35, 36, 37], ff' i = ff i) ∧ (∀ i ∈ ([] : List Nat), gg' i = gg i) ∧ (r = (F_k_X9_numbers_0 a1 a2 a3 (pp 36) (pp 37) (gg 0) (pp 38) (pp 39) (gg 1) (pp 40) (pp 41) (gg 2) (pp 42) (pp 43) (gg 3)).1) ∧ (pp' 36 = (F_k_X9_numbers_0 a1 a2 a3 (pp 36) (pp 37) (gg 0) (pp 38) (pp 39) (gg 1) (pp 40) (pp 41) (gg 2) (pp 42) (pp 43) (gg 3)).2.1) ∧ (pp' 37 = (F_k_X9_numbers_0 a1 a2 a3 (pp 36) (pp 37) (gg 0) (pp 38) (pp 39) (gg 1) (pp 40) (pp 41) (gg 2) (pp 42) (pp 43) (gg 3)).2.2.1) ∧ (gg' 0 = (F_k_X9_numbers_0 a1 a2 a3 (pp 36) (pp 37) (gg 0) (pp 38) (pp 39) (gg 1) (pp 40) (pp 41) (gg 2) (pp 42) (pp 43) (gg 3)).2.2.2.1) ∧ (pp' 38 = (F_k_X9_numbers_0 a1 a2 a3 (pp 36) (pp 37) (gg 0) (pp 38) (pp 39) (gg 1) (pp 40) (pp 41) (gg 2) (pp 42) (pp 43) (gg 3)).2.2.2.2.1) ∧ (pp' 39 = (F_k_X9_numbers_0 a1 a2 a3 (pp 36) (pp 37) (gg 0) (pp 38) (pp 39) (gg 1) (pp 40) (pp 41) (gg 2) (pp 42) (pp 43) (gg 3)).2.2.2.2.2.1) ∧ (gg' 1 = (F_k_X9_numbers_0 a1 a2 a3 (pp 36) (pp 37) (gg 0) (pp 38) (pp 39) (gg 1) (pp 40) (pp 41) (gg 2) (pp 42) (pp 43) (gg 3)).2.2.2.2.2.2.1) ∧ (pp' 40 = (F_k_X9_numbers_0 a1 a2 a3 (pp 36) (pp 37) (gg 0) (pp 38) (pp 39) (gg 1) (pp 40) (pp 41) (gg 2) (pp 42) (pp 43) (gg 3)).2.2.2.2.2.2.2.1) ∧ (pp' 41 = (F_k_X9_numbers_0 a1 a2 a3 (pp 36) (pp 37) (gg 0) (pp 38) (pp 39) (gg 1) (pp 40) (pp 41) (gg 2) (pp 42) (pp 43) (gg 3)).2.2.2.2.2.2.2.2.1) ∧ (gg' 2 = (F_k_X9_numbers_0 a1 a2 a3 (pp 36) (pp 37) (gg 0) (pp 38) (pp 39) (gg 1) (pp 40) (pp 41) (gg 2) (pp 42) (pp 43) (gg 3)).2.2.2.2.2.2.2.2.2.1) ∧ (pp' 42 = (F_k_X9_numbers_0 a1 a2 a3 (pp 36) (pp 37) (gg 0) (pp 38) (pp 39) (gg 1) (pp 40) (pp 41) (gg 2) (pp 42) (pp 43) (gg 3)).2.2.2.2.2.2.2.2.2.2.1) ∧ (pp' 43 = (F_k_X9_numbers_0 a1 a2 a3 (pp 36) (pp 37) (gg 0) (pp 38) (pp 39) (gg 1) (pp 40) (pp 41) (gg 2) (pp 42) (pp 43) (gg 3)).2.2.2.2.2.2.2.2.2.2.2.1) ∧ (gg' 3 = (F_k_X9_numbers_0 a1 a2 a3 (pp 36) (pp 37) (gg 0) (pp 38) (pp 39) (gg 1) (pp 40) (pp 41) (gg 2) (pp 42) (pp 43) (gg 3)).2.2.2.2.2.2.2.2.2.2.2.2) ∧ KN D9 (ff' 15) → va_P V.1 vwCl (wx ++ wz) H → va_D (AAs s) (wx ++ wz) → va_S (AAs s) s.heap H locs → W p l e room_1 s m #[Value.ref b] below meth c H locs cells slots (lw_Z below #[Value.ref b] s) (F0 m 1347 ls [.int r]))) : W p l e room_1 s m #[Value.ref b] below meth c H locs cells slots (lw_Z below #[Value.ref b] s) (F0 m 1344 ls [.int a3, .int a2, .int a1, .ref (y 0)]) := by
  rw [as3] at hP hD
  refine cSI (X := wB V y pp ff gg o10 o11) (pl := rest ++ wz) (rest := []) G (k_X9_numbers_0 l V y a1 a2 a3 (pp 0) o10 o11 (pp 1) (pp 2) (pp 3) (pp 36) (pp 37) (gg 0) (pp 38) (pp 39) (gg 1) (pp 40) (pp 41) (gg 2) (pp 42) (pp 43) (gg 3) (hp 0) (hp 1) (hp 2) (hp 36) (hp 38) (hp 40) (hp 42)) mt_X9_numbers q_5_173 ⟨Nat.le_of_ble_eq_true rfl, Nat.le_of_ble_eq_true rfl⟩ hP hD hS [0, 30, 33, 34, 35, 36, 37, 38, 39, 40] [0, 29, 2, 0, 0, 0, 0, 0, 0, 0] (by decide) (by decide +kernel) rfl 0 rfl rfl rfl rfl hlz rfl (Nat.le_of_ble_eq_true rfl) dL_law_1344 hR.room (fun r w H locs hw hPD hS => ?_)
  refine Exists.elim hw (fun v0 hw => ?_)
  refine Exists.elim hw (fun v1 hw => ?_)
  refine Exists.elim hw (fun g2 hw => ?_)
  refine Exists.elim hw (fun v3 hw => ?_)
  refine Exists.elim hw (fun v4 hw => ?_)
  refine Exists.elim hw (fun g5 hw => ?_)
  refine Exists.elim hw (fun v6 hw => ?_)
  refine Exists.elim hw (fun v7 hw => ?_)
  refine Exists.elim hw (fun g8 hw => ?_)
  refine Exists.elim hw (fun v9 hw => ?_)
  refine Exists.elim hw (fun v10 hw => ?_)
  refine Exists.elim hw (fun g11 hw => ?_)
  refine And.elim (fun bv0 hw => ?_) hw
  refine And.elim (fun bv3 hw => ?_) hw
  refine And.elim (fun bv6 hw => ?_) hw
  refine And.elim (fun bv9 hw => ?_) hw
  refine And.elim (fun br hw => ?_) hw
  refine And.elim (fun ef hw => ?_) hw
  refine And.elim (fun et_0 hw => ?_) hw
  refine And.elim (fun et_1 hw => ?_) hw
  refine And.elim (fun et_2 hw => ?_) hw
  refine And.elim (fun et_3 hw => ?_) hw
  refine And.elim (fun et_4 hw => ?_) hw
  refine And.elim (fun et_5 hw => ?_) hw
  refine And.elim (fun et_6 hw => ?_) hw
  refine And.elim (fun et_7 hw => ?_) hw
  refine And.elim (fun et_8 hw => ?_) hw
  refine And.elim (fun et_9 hw => ?_) hw
  refine And.elim (fun et_10 hw => ?_) hw
  refine And.elim (fun et_11 hw => ?_) hw
  refine And.elim (fun et_12 hw => ?_) hw
  subst hw
  obtain ⟨hP, hD⟩ := hPD (wB V y (br9 44 (br9 22 pp (br9 33 pp (br9 38 (br9 35 pp (br9 36 pp (br9 37 (lf9 v0) (lf9 v1)))) (br9 41 (br9 39 (lf9 v3) (br9 40 (lf9 v4) (lf9 v6))) (br9 42 (lf9 v7) (br9 43 (lf9 v9) (lf9 v10))))))) pp) ff (up9 (up9 (up9 (up9 gg 0 g2) 1 g5) 2 g8) 3 g11) o10 o11) rfl rfl
  rw [← as3] at hP hD
  exact kk r H locs (cells + 0) (slots + 0) (br9 44 (br9 22 pp (br9 33 pp (br9 38 (br9 35 pp (br9 36 pp (br9 37 (lf9 v0) (lf9 v1)))) (br9 41 (br9 39 (lf9 v3) (br9 40 (lf9 v4) (lf9 v6))) (br9 42 (lf9 v7) (br9 43 (lf9 v9) (lf9 v10))))))) pp) ff (up9 (up9 (up9 (up9 gg 0 g2) 1 g5) 2 g8) 3 g11) _ ⟨o10, o11, rest, (ivG_t 44 (ivG_b 22 (ivG_p hp) (ivG_b 33 (ivG_p hp) (ivG_b 38 (ivG_b 35 (ivG_p hp) (ivG_b 36 (ivG_p hp) (ivG_b 37 (ivG_l 36 bv0) (ivG_l 37 (iv_top v1))))) (ivG_b 41 (ivG_b 39 (ivG_l 38 bv3) (ivG_b 40 (ivG_l 39 (iv_top v4)) (ivG_l 40 bv6))) (ivG_b 42 (ivG_l 41 (iv_top v7)) (ivG_b 43 (ivG_l 42 bv9) (ivG_l 43 (iv_top v10)))))))) hp), ht_y1, ht_y20, ht_y27, ht_y28, ht_y32, hR, rfl⟩ ⟨(List.forall_mem_cons.mpr ⟨rfl, (List.forall_mem_cons.mpr ⟨rfl, (List.forall_mem_cons.mpr ⟨rfl, (List.forall_mem_cons.mpr ⟨rfl, (List.forall_mem_cons.mpr ⟨rfl, (List.forall_mem_cons.mpr ⟨rfl, (List.forall_mem_cons.mpr ⟨rfl, (List.forall_mem_cons.mpr ⟨rfl, (List.forall_mem_cons.mpr ⟨rfl, (List.forall_mem_cons.mpr ⟨rfl, (List.forall_mem_cons.mpr ⟨rfl, (List.forall_mem_cons.mpr ⟨rfl, (List.forall_mem_cons.mpr ⟨rfl, (List.forall_mem_cons.mpr ⟨rfl, (List.forall_mem_cons.mpr ⟨rfl, (List.forall_mem_cons.mpr ⟨rfl, (List.forall_mem_cons.mpr ⟨rfl, (List.forall_mem_cons.mpr ⟨rfl, (List.forall_mem_cons.mpr ⟨rfl, (List.forall_mem_cons.mpr ⟨rfl, (List.forall_mem_cons.mpr ⟨rfl, (List.forall_mem_cons.mpr ⟨rfl, (List.forall_mem_cons.mpr ⟨rfl, (List.forall_mem_cons.mpr ⟨rfl, (List.forall_mem_cons.mpr ⟨rfl, (List.forall_mem_cons.mpr ⟨rfl, (List.forall_mem_cons.mpr ⟨rfl, (List.forall_mem_cons.mpr ⟨rfl, (List.forall_mem_cons.mpr ⟨rfl, (List.forall_mem_cons.mpr ⟨rfl, (List.forall_mem_cons.mpr ⟨rfl, (List.forall_mem_cons.mpr ⟨rfl, (List.forall_mem_cons.mpr ⟨rfl, (List.forall_mem_cons.mpr ⟨rfl, (List.forall_mem_cons.mpr ⟨rfl, (List.forall_mem_cons.mpr ⟨rfl, (List.forall_mem_cons.mpr ⟨rfl, (List.forall_mem_cons.mpr ⟨rfl, (List.forall_mem_cons.mpr ⟨rfl, (List.forall_mem_cons.mpr ⟨rfl, (List.forall_mem_cons.mpr ⟨rfl, (List.forall_mem_cons.mpr ⟨rfl, (fun _ h => absurd h List.not_mem_nil)⟩)⟩)⟩)⟩)⟩)⟩)⟩)⟩)⟩)⟩)⟩)⟩)⟩)⟩)⟩)⟩)⟩)⟩)⟩)⟩)⟩)⟩)⟩)⟩)⟩)⟩)⟩)⟩)⟩)⟩)⟩)⟩)⟩)⟩)⟩)⟩)⟩)⟩)⟩)⟩)⟩)⟩), (fun _ _ => rfl), (fun _ h => absurd h List.not_mem_nil), et_0, et_1, et_2, et_3, et_4, et_5, et_6, et_7, et_8, et_9, et_10, et_11, et_12, hK9⟩ hP hD hS
set_option maxHeartbeats 4000000 in
set_option maxRecDepth 100000 in
theorem cx_38 {p : Program} {e : Env} {s : State} {m : MethodId} {below : List Frame} {meth : Method} {c : Code} {l : Launch} {b Lk : Nat} {xs : Nat → Int32} {V : GV} {y : Nat → Nat} {H : Heap} {locs : List Loc} {cells slots : Nat} {wz : va_W} {ls : Array Slot} (G : LCx p s m meth c b Lk xs V) (a1 : Int32) (a2 : Int32) (a3 : Int32) {pp : Nat → Int32} {ff : Nat → Nat → Int32} {gg : Nat → Nat → Int64} {D9 : Nat → Int32} (hL9 : LW D9 (ff 1) (ff 7) (pp 11) (pp 12) (pp 13) (pp 14)) (hK9 : KN D9 (ff 15)) {wx : va_W} (kx : KX V y cells slots pp ff gg wx) (hP : va_P V.1 vwCl (wx ++ wz) H) (hD : va_D (AAs s) (wx ++ wz)) (hS : va_S (AAs s) s.heap H locs) (hlz : ls.size = 4) (kk : (∀ (r : Int32) (H : Heap) (locs : List Loc) (cells slots : Nat) (pp' : Nat → Int32) (ff' : Nat → Nat → Int32) (gg' : Nat → Nat → Int64) (wx : va_W), KX V y cells slots pp' ff' gg' wx → (∀ i ∈ (0 :: 1 :: 2 :: 3 :: 4 :: 5 :: 6 :: 7 :: 10 :: 11 :: 12 :: 13 :: 14 :: 15 :: 16 :: 35 :: 44 :: 45 :: 46 :: 47 :: 48 :: 49 :: 50 :: 51 :: 54 :: 55 :: 56 :: 57 :: 58 :: 59 :: 60 :: 61 :: 62 :: 63 :: 64 :: 65 :: 66 :: 69 :: 70 :: 71 :: 72 :: 73 :: ([] : List Nat)), pp' i = pp i) ∧ (∀ i ∈ [0, 1, 2, 3, 4, 5, 6, 7, 15, 20, 21, 22, 24, 25, 26, 27, 28, 29, 30, 31, 32, 33, 34, 35, 36, 37], ff' i = ff i) ∧ (∀ i ∈ ([] : List Nat), gg' i = gg i) ∧ (r = (F_k_X9_numbers_0 a1 a2 a3 (pp 36) (pp 37) (gg 0) (pp 38) (pp 39) (gg 1) (pp 40) (pp 41) (gg 2) (pp 42) (pp 43) (gg 3)).1) ∧ (pp' 36 = (F_k_X9_numbers_0 a1 a2 a3 (pp 36) (pp 37) (gg 0) (pp 38) (pp 39) (gg 1) (pp 40) (pp 41) (gg 2) (pp 42) (pp 43) (gg 3)).2.1) ∧ (pp' 37 = (F_k_X9_numbers_0 a1 a2 a3 (pp 36) (pp 37) (gg 0) (pp 38) (pp 39) (gg 1) (pp 40) (pp 41) (gg 2) (pp 42) (pp 43) (gg 3)).2.2.1) ∧ (gg' 0 = (F_k_X9_numbers_0 a1 a2 a3 (pp 36) (pp 37) (gg 0) (pp 38) (pp 39) (gg 1) (pp 40) (pp 41) (gg 2) (pp 42) (pp 43) (gg 3)).2.2.2.1) ∧ (pp' 38 = (F_k_X9_numbers_0 a1 a2 a3 (pp 36) (pp 37) (gg 0) (pp 38) (pp 39) (gg 1) (pp 40) (pp 41) (gg 2) (pp 42) (pp 43) (gg 3)).2.2.2.2.1) ∧ (pp' 39 = (F_k_X9_numbers_0 a1 a2 a3 (pp 36) (pp 37) (gg 0) (pp 38) (pp 39) (gg 1) (pp 40) (pp 41) (gg 2) (pp 42) (pp 43) (gg 3)).2.2.2.2.2.1) ∧ (gg' 1 = (F_k_X9_numbers_0 a1 a2 a3 (pp 36) (pp 37) (gg 0) (pp 38) (pp 39) (gg 1) (pp 40) (pp 41) (gg 2) (pp 42) (pp 43) (gg 3)).2.2.2.2.2.2.1) ∧ (pp' 40 = (F_k_X9_numbers_0 a1 a2 a3 (pp 36) (pp 37) (gg 0) (pp 38) (pp 39) (gg 1) (pp 40) (pp 41) (gg 2) (pp 42) (pp 43) (gg 3)).2.2.2.2.2.2.2.1) ∧ (pp' 41 = (F_k_X9_numbers_0 a1 a2 a3 (pp 36) (pp 37) (gg 0) (pp 38) (pp 39) (gg 1) (pp 40) (pp 41) (gg 2) (pp 42) (pp 43) (gg 3)).2.2.2.2.2.2.2.2.1) ∧ (gg' 2 = (F_k_X9_numbers_0 a1 a2 a3 (pp 36) (pp 37) (gg 0) (pp 38) (pp 39) (gg 1) (pp 40) (pp 41) (gg 2) (pp 42) (pp 43) (gg 3)).2.2.2.2.2.2.2.2.2.1) ∧ (pp' 42 = (F_k_X9_numbers_0 a1 a2 a3 (pp 36) (pp 37) (gg 0) (pp 38) (pp 39) (gg 1) (pp 40) (pp 41) (gg 2) (pp 42) (pp 43) (gg 3)).2.2.2.2.2.2.2.2.2.2.1) ∧ (pp' 43 = (F_k_X9_numbers_0 a1 a2 a3 (pp 36) (pp 37) (gg 0) (pp 38) (pp 39) (gg 1) (pp 40) (pp 41) (gg 2) (pp 42) (pp 43) (gg 3)).2.2.2.2.2.2.2.2.2.2.2.1) ∧ (gg' 3 = (F_k_X9_numbers_0 a1 a2 a3 (pp 36) (pp 37) (gg 0) (pp 38) (pp 39) (gg 1) (pp 40) (pp 41) (gg 2) (pp 42) (pp 43) (gg 3)).2.2.2.2.2.2.2.2.2.2.2.2) ∧ KN D9 (ff' 15) → va_P V.1 vwCl (wx ++ wz) H → va_D (AAs s) (wx ++ wz) → va_S (AAs s) s.heap H locs → W p l e room_1 s m #[Value.ref b] below meth c H locs cells slots (lw_Z below #[Value.ref b] s) (F0 m 1347 ls [.int r]))) : W p l e room_1 s m #[Value.ref b] below meth c H locs cells slots (lw_Z below #[Value.ref b] s) (F0 m 1344 ls [.int a3, .int a2, .int a1, .ref (y 0)]) := by
  obtain ⟨o10, o11, rest, hp, ht_y1, ht_y20, ht_y27, ht_y28, ht_y32, hR, rfl⟩ := kx
  exact cx_38_s G _ _ _ hp ht_y1 ht_y20 ht_y27 ht_y28 ht_y32 hL9 hK9 hR hP hD hS hlz kk
theorem q_5_187 : Cond.code yX9_write prog_1_method_70_code 6 (some FieldType.long) ∈ gw := gw_5 (i := 187) (rfl) rfl
theorem q_5_185 : Cond.instanceMethod yX9_write ∈ gw := gw_5 (i := 185) (by decide +kernel) rfl
theorem q_5_186 : Cond.selects "BeaconDelay" yX9_write yX9_write ∈ gw := gw_5 (i := 186) (by decide +kernel) rfl
theorem mt_X9_write : MtV yX9_write cX9_write 6 (some .long) 3 := ⟨⟨q_5_187, q_1_1, by decide +kernel, by decide +kernel, by decide +kernel⟩, q_5_185, q_5_186⟩
theorem q_5_184 : Cond.methodLink "BeaconDelayLaw" 179 yX9_write ∈ gw := gw_5 (i := 184) (by decide +kernel) rfl
theorem dL_law_1402 : decode cL_law 1402 = .ok (.invokevirtual 179, 3) := by decide +kernel
set_option maxHeartbeats 4000000 in
set_option maxRecDepth 100000 in
theorem cx_39_s {p : Program} {e : Env} {s : State} {m : MethodId} {below : List Frame} {meth : Method} {c : Code} {l : Launch} {b Lk : Nat} {xs : Nat → Int32} {V : GV} {y : Nat → Nat} {H : Heap} {locs : List Loc} {cells slots : Nat} {wz : va_W} {ls : Array Slot} (G : LCx p s m meth c b Lk xs V) (a1 : Int32) (a2 : Int32) (k3 : Int64) {pp : Nat → Int32} {ff : Nat → Nat → Int32} {gg : Nat → Nat → Int64} {o10 o11 : Value} {rest : va_W} (hp : ivT tX pp) (ht_y1 : (∀ j, iv (-128) 127 ((ff 0) j))) (ht_y20 : (∀ j, iv 0 10 ((ff 15) j))) (ht_y27 : (∀ j, iv 0 9999 ((ff 20) j))) (ht_y28 : (∀ j, iv 0 9 ((ff 21) j))) (ht_y32 : (∀ j, iv 0 9999 ((ff 23) j))) {D9 : Nat → Int32} (hL9 : LW D9 (ff 1) (ff 7) (pp 11) (pp 12) (pp 13) (pp 14)) (hK9 : KN D9 (ff 15)) (hR : RRo V y cells slots o10 o11 rest)  (hP : va_P V.1 vwCl (wB V y pp ff gg o10 o11 ++ rest ++ wz) H) (hD : va_D (AAs s) (wB V y pp ff gg o10 o11 ++ rest ++ wz)) (hS : va_S (AAs s) s.heap H locs) (hlz : ls.size = 4) (kk : (∀ (r : Int64) (H : Heap) (locs : List Loc) (cells slots : Nat) (pp' : Nat → Int32) (ff' : Nat → Nat → Int32) (gg' : Nat → Nat → Int64) (wx : va_W), KX V y cells slots pp' ff' gg' wx → (∀ i ∈ (0 :: 1 :: 2 :: 3 :: 4 :: 5 :: 6 :: 7 :: 10 :: 11 :: 12 :: 13 :: 14 :: 15 :: 16 :: 35 :: 36 :: 37 :: 38 :: 39 :: 40 :: 41 :: 42 :: 43 :: 44 :: 45 :: 46 :: 47 :: 48 :: 49 :: 50 :: 51 :: 54 :: 55 :: 56 :: 57 :: 58 :: 59 :: 60 :: 61 :: 62 :: 63 :: 64 :: 65 :: 66 :: 69 :: 70 :: 71 :: 72 :: 73 :: ([] : List Nat)), pp' i = pp i) ∧ (∀ i ∈ [0, 1, 2, 3, 4, 5, 6, 7, 15, 20, 21, 22, 24, 25, 26, 27, 28, 29, 30, 31, 32, 33, 34, 35, 36, 37], ff' i = ff i) ∧ (∀ i ∈ ([] : List Nat), gg' i = gg i) ∧ (r = (F_k_X9_write_0 a1 a2 k3 (pp 36) (pp 37) (gg 0) (pp 38) (pp 39) (gg 1) (pp 40) (pp 41) (gg 2) (pp 42) (pp 43) (gg 3)).1) ∧ (gg' 0 = (F_k_X9_write_0 a1 a2 k3 (pp 36) (pp 37) (gg 0) (pp 38) (pp 39) (gg 1) (pp 40) (pp 41) (gg 2) (pp 42) (pp 43) (gg 3)).2.1) ∧ (gg' 1 = (F_k_X9_write_0 a1 a2 k3 (pp 36) (pp 37) (gg 0) (pp 38) (pp 39) (gg 1) (pp 40) (pp 41) (gg 2) (pp 42) (pp 43) (gg 3)).2.2.1) ∧ (gg' 2 = (F_k_X9_write_0 a1 a2 k3 (pp 36) (pp 37) (gg 0) (pp 38) (pp 39) (gg 1) (pp 40) (pp 41) (gg 2) (pp 42) (pp 43) (gg 3)).2.2.2.1) ∧ (gg' 3 = (F_k_X9_write_0 a1 a2 k3 (pp 36) (pp 37) (gg 0) (pp 38) (pp 39) (gg 1) (pp 40) (pp 41) (gg 2) (pp 42) (pp 43) (gg 3)).2.2.2.2) ∧ KN D9 (ff' 15) → va_P V.1 vwCl (wx ++ wz) H → va_D (AAs s) (wx ++ wz) → va_S (AAs s) s.heap H locs → W p l e room_1 s m #[Value.ref b] below meth c H locs cells slots (lw_Z below #[Value.ref b] s) (F0 m 1405 ls [.long r]))) : W p l e room_1 s m #[Value.ref b] below meth c H locs cells slots (lw_Z below #[Value.ref b] s) (F0 m 1402 ls [.long k3, .int a2, .int a1, .ref (y 0)]) := by
  rw [as3] at hP hD
  refine cSL (X := wB V y pp ff gg o10 o11) (pl := rest ++ wz) (rest := []) G (k_X9_write_0 l V y a1 a2 k3 (pp 0) o10 o11 (pp 1) (pp 2) (pp 3) (pp 36) (pp 37) (gg 0) (pp 38) (pp 39) (gg 1) (pp 40) (pp 41) (gg 2) (pp 42) (pp 43) (gg 3) (hp 0) (hp 1) (hp 2) (hp 36) (hp 38) (hp 40) (hp 42)) mt_X9_write q_5_184 ⟨Nat.le_of_ble_eq_true rfl, Nat.le_of_ble_eq_true rfl⟩ hP hD hS [0, 30, 33, 34, 35, 36, 37, 38, 39, 40] [0, 29, 2, 0, 0, 0, 0, 0, 0, 0] (by decide) (by decide +kernel) rfl 0 rfl rfl rfl rfl hlz rfl (Nat.le_of_ble_eq_true rfl) dL_law_1402 hR.room (fun r w H locs hw hPD hS => ?_)
  refine Exists.elim hw (fun g0 hw => ?_)
  refine Exists.elim hw (fun g1 hw => ?_)
  refine Exists.elim hw (fun g2 hw => ?_)
  refine Exists.elim hw (fun g3 hw => ?_)
  refine And.elim (fun et_0 hw => ?_) hw
  refine And.elim (fun et_1 hw => ?_) hw
  refine And.elim (fun et_2 hw => ?_) hw
  refine And.elim (fun et_3 hw => ?_) hw
  refine And.elim (fun et_4 hw => ?_) hw
  subst hw
  obtain ⟨hP, hD⟩ := hPD (wB V y pp ff (up9 (up9 (up9 (up9 gg 0 g0) 1 g1) 2 g2) 3 g3) o10 o11) rfl rfl
  rw [← as3] at hP hD
  exact kk r H locs (cells + 0) (slots + 0) pp ff (up9 (up9 (up9 (up9 gg 0 g0) 1 g1) 2 g2) 3 g3) _ ⟨o10, o11, rest, hp, ht_y1, ht_y20, ht_y27, ht_y28, ht_y32, hR, rfl⟩ ⟨(fun _ _ => rfl), (fun _ _ => rfl), (fun _ h => absurd h List.not_mem_nil), et_0, et_1, et_2, et_3, et_4, hK9⟩ hP hD hS
set_option maxHeartbeats 4000000 in
set_option maxRecDepth 100000 in
theorem cx_39 {p : Program} {e : Env} {s : State} {m : MethodId} {below : List Frame} {meth : Method} {c : Code} {l : Launch} {b Lk : Nat} {xs : Nat → Int32} {V : GV} {y : Nat → Nat} {H : Heap} {locs : List Loc} {cells slots : Nat} {wz : va_W} {ls : Array Slot} (G : LCx p s m meth c b Lk xs V) (a1 : Int32) (a2 : Int32) (k3 : Int64) {pp : Nat → Int32} {ff : Nat → Nat → Int32} {gg : Nat → Nat → Int64} {D9 : Nat → Int32} (hL9 : LW D9 (ff 1) (ff 7) (pp 11) (pp 12) (pp 13) (pp 14)) (hK9 : KN D9 (ff 15)) {wx : va_W} (kx : KX V y cells slots pp ff gg wx) (hP : va_P V.1 vwCl (wx ++ wz) H) (hD : va_D (AAs s) (wx ++ wz)) (hS : va_S (AAs s) s.heap H locs) (hlz : ls.size = 4) (kk : (∀ (r : Int64) (H : Heap) (locs : List Loc) (cells slots : Nat) (pp' : Nat → Int32) (ff' : Nat → Nat → Int32) (gg' : Nat → Nat → Int64) (wx : va_W), KX V y cells slots pp' ff' gg' wx → (∀ i ∈ (0 :: 1 :: 2 :: 3 :: 4 :: 5 :: 6 :: 7 :: 10 :: 11 :: 12 :: 13 :: 14 :: 15 :: 16 :: 35 :: 36 :: 37 :: 38 :: 39 :: 40 :: 41 :: 42 :: 43 :: 44 :: 45 :: 46 :: 47 :: 48 :: 49 :: 50 :: 51 :: 54 :: 55 :: 56 :: 57 :: 58 :: 59 :: 60 :: 61 :: 62 :: 63 :: 64 :: 65 :: 66 :: 69 :: 70 :: 71 :: 72 :: 73 :: ([] : List Nat)), pp' i = pp i) ∧ (∀ i ∈ [0, 1, 2, 3, 4, 5, 6, 7, 15, 20, 21, 22, 24, 25, 26, 27, 28, 29, 30, 31, 32, 33, 34, 35, 36, 37], ff' i = ff i) ∧ (∀ i ∈ ([] : List Nat), gg' i = gg i) ∧ (r = (F_k_X9_write_0 a1 a2 k3 (pp 36) (pp 37) (gg 0) (pp 38) (pp 39) (gg 1) (pp 40) (pp 41) (gg 2) (pp 42) (pp 43) (gg 3)).1) ∧ (gg' 0 = (F_k_X9_write_0 a1 a2 k3 (pp 36) (pp 37) (gg 0) (pp 38) (pp 39) (gg 1) (pp 40) (pp 41) (gg 2) (pp 42) (pp 43) (gg 3)).2.1) ∧ (gg' 1 = (F_k_X9_write_0 a1 a2 k3 (pp 36) (pp 37) (gg 0) (pp 38) (pp 39) (gg 1) (pp 40) (pp 41) (gg 2) (pp 42) (pp 43) (gg 3)).2.2.1) ∧ (gg' 2 = (F_k_X9_write_0 a1 a2 k3 (pp 36) (pp 37) (gg 0) (pp 38) (pp 39) (gg 1) (pp 40) (pp 41) (gg 2) (pp 42) (pp 43) (gg 3)).2.2.2.1) ∧ (gg' 3 = (F_k_X9_write_0 a1 a2 k3 (pp 36) (pp 37) (gg 0) (pp 38) (pp 39) (gg 1) (pp 40) (pp 41) (gg 2) (pp 42) (pp 43) (gg 3)).2.2.2.2) ∧ KN D9 (ff' 15) → va_P V.1 vwCl (wx ++ wz) H → va_D (AAs s) (wx ++ wz) → va_S (AAs s) s.heap H locs → W p l e room_1 s m #[Value.ref b] below meth c H locs cells slots (lw_Z below #[Value.ref b] s) (F0 m 1405 ls [.long r]))) : W p l e room_1 s m #[Value.ref b] below meth c H locs cells slots (lw_Z below #[Value.ref b] s) (F0 m 1402 ls [.long k3, .int a2, .int a1, .ref (y 0)]) := by
  obtain ⟨o10, o11, rest, hp, ht_y1, ht_y20, ht_y27, ht_y28, ht_y32, hR, rfl⟩ := kx
  exact cx_39_s G _ _ _ hp ht_y1 ht_y20 ht_y27 ht_y28 ht_y32 hL9 hK9 hR hP hD hS hlz kk
theorem q_5_197 : Cond.code yX9_lists prog_1_method_71_code 6 (some FieldType.int) ∈ gw := gw_5 (i := 197) (rfl) rfl
theorem q_5_195 : Cond.instanceMethod yX9_lists ∈ gw := gw_5 (i := 195) (by decide +kernel) rfl
theorem q_5_196 : Cond.selects "BeaconDelay" yX9_lists yX9_lists ∈ gw := gw_5 (i := 196) (by decide +kernel) rfl
theorem mt_X9_lists : MtV yX9_lists cX9_lists 6 (some .int) 2 := ⟨⟨q_5_197, q_1_1, by decide +kernel, by decide +kernel, by decide +kernel⟩, q_5_195, q_5_196⟩
theorem q_5_194 : Cond.methodLink "BeaconDelayLaw" 184 yX9_lists ∈ gw := gw_5 (i := 194) (by decide +kernel) rfl
theorem dL_law_1455 : decode cL_law 1455 = .ok (.invokevirtual 184, 3) := by decide +kernel
set_option maxHeartbeats 4000000 in
set_option maxRecDepth 100000 in
theorem cx_40_s {p : Program} {e : Env} {s : State} {m : MethodId} {below : List Frame} {meth : Method} {c : Code} {l : Launch} {b Lk : Nat} {xs : Nat → Int32} {V : GV} {y : Nat → Nat} {H : Heap} {locs : List Loc} {cells slots : Nat} {wz : va_W} {ls : Array Slot} (G : LCx p s m meth c b Lk xs V) (a1 : Int32) (a2 : Int32) {pp : Nat → Int32} {ff : Nat → Nat → Int32} {gg : Nat → Nat → Int64} {o10 o11 : Value} {rest : va_W} (hp : ivT tX pp) (ht_y1 : (∀ j, iv (-128) 127 ((ff 0) j))) (ht_y20 : (∀ j, iv 0 10 ((ff 15) j))) (ht_y27 : (∀ j, iv 0 9999 ((ff 20) j))) (ht_y28 : (∀ j, iv 0 9 ((ff 21) j))) (ht_y32 : (∀ j, iv 0 9999 ((ff 23) j))) {D9 : Nat → Int32} (hL9 : LW D9 (ff 1) (ff 7) (pp 11) (pp 12) (pp 13) (pp 14)) (hK9 : KN D9 (ff 15)) (hR : RRo V y cells slots o10 o11 rest)  (hP : va_P V.1 vwCl (wB V y pp ff gg o10 o11 ++ rest ++ wz) H) (hD : va_D (AAs s) (wB V y pp ff gg o10 o11 ++ rest ++ wz)) (hS : va_S (AAs s) s.heap H locs) (hlz : ls.size = 4) (kk : (∀ (r : Int32) (H : Heap) (locs : List Loc) (cells slots : Nat) (pp' : Nat → Int32) (ff' : Nat → Nat → Int32) (gg' : Nat → Nat → Int64) (wx : va_W), KX V y cells slots pp' ff' gg' wx → (∀ i ∈ (0 :: 1 :: 2 :: 3 :: 4 :: 5 :: 6 :: 7 :: 10 :: 11 :: 12 :: 13 :: 14 :: 15 :: 16 :: 35 :: 36 :: 37 :: 38 :: 39 :: 40 :: 41 :: 42 :: 43 :: 44 :: 45 :: 46 :: 47 :: 48 :: 49 :: 50 :: 51 :: 54 :: 55 :: 56 :: 57 :: 58 :: 59 :: 60 :: 61 :: 62 :: 63 :: 64 :: 65 :: 66 :: 69 :: 70 :: 71 :: 72 :: 73 :: ([] : List Nat)), pp' i = pp i) ∧ (∀ i ∈ [0, 1, 2, 3, 4, 5, 6, 7, 20, 21, 22, 24, 25, 26, 27, 28, 29, 30, 31, 32, 33, 34, 35, 36, 37], ff' i = ff i) ∧ (∀ i ∈ ([] : List Nat), gg' i = gg i) ∧ (r = (F_k_X9_lists_0 D9 a1 a2 (pp 1) (pp 2) (pp 5) (pp 36) (gg 0) (pp 38) (gg 1) (pp 40) (gg 2) (pp 42) (gg 3)).1) ∧ (gg' 0 = (F_k_X9_lists_0 D9 a1 a2 (pp 1) (pp 2) (pp 5) (pp 36) (gg 0) (pp 38) (gg 1) (pp 40) (gg 2) (pp 42) (gg 3)).2.1) ∧ (gg' 1 = (F_k_X9_lists_0 D9 a1 a2 (pp 1) (pp 2) (pp 5) (pp 36) (gg 0) (pp 38) (gg 1) (pp 40) (gg 2) (pp 42) (gg 3)).2.2.1) ∧ (gg' 2 = (F_k_X9_lists_0 D9 a1 a2 (pp 1) (pp 2) (pp 5) (pp 36) (gg 0) (pp 38) (gg 1) (pp 40) (gg 2) (pp 42) (gg 3)).2.2.2.1) ∧ (gg' 3 = (F_k_X9_lists_0 D9 a1 a2 (pp 1) (pp 2) (pp 5) (pp 36) (gg 0) (pp 38) (gg 1) (pp 40) (gg 2) (pp 42) (gg 3)).2.2.2.2) ∧ KN D9 (ff' 15) → va_P V.1 vwCl (wx ++ wz) H → va_D (AAs s) (wx ++ wz) → va_S (AAs s) s.heap H locs → W p l e room_1 s m #[Value.ref b] below meth c H locs cells slots (lw_Z below #[Value.ref b] s) (F0 m 1458 ls [.int r]))) : W p l e room_1 s m #[Value.ref b] below meth c H locs cells slots (lw_Z below #[Value.ref b] s) (F0 m 1455 ls [.int a2, .int a1, .ref (y 0)]) := by
  rw [as3] at hP hD
  refine cSI (X := wB V y pp ff gg o10 o11) (pl := rest ++ wz) (rest := []) G (k_X9_lists_0 l V y D9 a1 a2 (pp 0) o10 o11 (pp 1) (pp 2) (pp 3) (pp 4) (pp 5) (pp 6) (pp 7) (pp 8) (pp 9) (pp 10) (pp 11) (pp 12) (pp 13) (pp 14) (ff 1) (ff 7) (ff 15) (ff 16) (ff 17) (pp 36) (pp 37) (gg 0) (pp 38) (pp 39) (gg 1) (pp 40) (pp 41) (gg 2) (pp 42) (pp 43) (gg 3) (hp 0) (hp 1) (hp 2) (hp 5) (hp 6) (hp 7) (hp 8) (hp 9) (hp 10) (hp 11) (hp 12) (hp 13) (hp 14) ht_y20 (hp 36) (hp 38) (hp 40) (hp 42) hL9 hK9) mt_X9_lists q_5_194 ⟨Nat.le_of_ble_eq_true rfl, Nat.le_of_ble_eq_true rfl⟩ hP hD hS [0, 2, 3, 9, 19, 20, 21, 22, 30, 33, 34, 35, 36, 37, 38, 39, 40] [0, 1, 0, 5, 9, 0, 0, 0, 7, 2, 0, 0, 0, 0, 0, 0, 0] (by decide) (by decide +kernel) rfl 0 rfl rfl rfl rfl hlz rfl (Nat.le_of_ble_eq_true rfl) dL_law_1455 hR.room (fun r w H locs hw hPD hS => ?_)
  refine Exists.elim hw (fun g0 hw => ?_)
  refine Exists.elim hw (fun g1 hw => ?_)
  refine Exists.elim hw (fun g2 hw => ?_)
  refine Exists.elim hw (fun g3 hw => ?_)
  refine Exists.elim hw (fun g4 hw => ?_)
  refine Exists.elim hw (fun g5 hw => ?_)
  refine Exists.elim hw (fun g6 hw => ?_)
  refine And.elim (fun bg0 hw => ?_) hw
  refine And.elim (fun br hw => ?_) hw
  refine And.elim (fun et_0 hw => ?_) hw
  refine And.elim (fun et_1 hw => ?_) hw
  refine And.elim (fun et_2 hw => ?_) hw
  refine And.elim (fun et_3 hw => ?_) hw
  refine And.elim (fun et_4 hw => ?_) hw
  refine And.elim (fun kn9 hw => ?_) hw
  subst hw
  obtain ⟨hP, hD⟩ := hPD (wB V y pp (up9 (up9 (up9 ff 15 g0) 16 g1) 17 g2) (up9 (up9 (up9 (up9 gg 0 g3) 1 g4) 2 g5) 3 g6) o10 o11) rfl rfl
  rw [← as3] at hP hD
  exact kk r H locs (cells + 0) (slots + 0) pp (up9 (up9 (up9 ff 15 g0) 16 g1) 17 g2) (up9 (up9 (up9 (up9 gg 0 g3) 1 g4) 2 g5) 3 g6) _ ⟨o10, o11, rest, hp, ht_y1, bg0, ht_y27, ht_y28, ht_y32, hR, rfl⟩ ⟨(fun _ _ => rfl), (List.forall_mem_cons.mpr ⟨rfl, (List.forall_mem_cons.mpr ⟨rfl, (List.forall_mem_cons.mpr ⟨rfl, (List.forall_mem_cons.mpr ⟨rfl, (List.forall_mem_cons.mpr ⟨rfl, (List.forall_mem_cons.mpr ⟨rfl, (List.forall_mem_cons.mpr ⟨rfl, (List.forall_mem_cons.mpr ⟨rfl, (List.forall_mem_cons.mpr ⟨rfl, (List.forall_mem_cons.mpr ⟨rfl, (List.forall_mem_cons.mpr ⟨rfl, (List.forall_mem_cons.mpr ⟨rfl, (List.forall_mem_cons.mpr ⟨rfl, (List.forall_mem_cons.mpr ⟨rfl, (List.forall_mem_cons.mpr ⟨rfl, (List.forall_mem_cons.mpr ⟨rfl, (List.forall_mem_cons.mpr ⟨rfl, (List.forall_mem_cons.mpr ⟨rfl, (List.forall_mem_cons.mpr ⟨rfl, (List.forall_mem_cons.mpr ⟨rfl, (List.forall_mem_cons.mpr ⟨rfl, (List.forall_mem_cons.mpr ⟨rfl, (List.forall_mem_cons.mpr ⟨rfl, (List.forall_mem_cons.mpr ⟨rfl, (List.forall_mem_cons.mpr ⟨rfl, (fun _ h => absurd h List.not_mem_nil)⟩)⟩)⟩)⟩)⟩)⟩)⟩)⟩)⟩)⟩)⟩)⟩)⟩)⟩)⟩)⟩)⟩)⟩)⟩)⟩)⟩)⟩)⟩)⟩)⟩), (fun _ h => absurd h List.not_mem_nil), et_0, et_1, et_2, et_3, et_4, kn9⟩ hP hD hS
set_option maxHeartbeats 4000000 in
set_option maxRecDepth 100000 in
theorem cx_40 {p : Program} {e : Env} {s : State} {m : MethodId} {below : List Frame} {meth : Method} {c : Code} {l : Launch} {b Lk : Nat} {xs : Nat → Int32} {V : GV} {y : Nat → Nat} {H : Heap} {locs : List Loc} {cells slots : Nat} {wz : va_W} {ls : Array Slot} (G : LCx p s m meth c b Lk xs V) (a1 : Int32) (a2 : Int32) {pp : Nat → Int32} {ff : Nat → Nat → Int32} {gg : Nat → Nat → Int64} {D9 : Nat → Int32} (hL9 : LW D9 (ff 1) (ff 7) (pp 11) (pp 12) (pp 13) (pp 14)) (hK9 : KN D9 (ff 15)) {wx : va_W} (kx : KX V y cells slots pp ff gg wx) (hP : va_P V.1 vwCl (wx ++ wz) H) (hD : va_D (AAs s) (wx ++ wz)) (hS : va_S (AAs s) s.heap H locs) (hlz : ls.size = 4) (kk : (∀ (r : Int32) (H : Heap) (locs : List Loc) (cells slots : Nat) (pp' : Nat → Int32) (ff' : Nat → Nat → Int32) (gg' : Nat → Nat → Int64) (wx : va_W), KX V y cells slots pp' ff' gg' wx → (∀ i ∈ (0 :: 1 :: 2 :: 3 :: 4 :: 5 :: 6 :: 7 :: 10 :: 11 :: 12 :: 13 :: 14 :: 15 :: 16 :: 35 :: 36 :: 37 :: 38 :: 39 :: 40 :: 41 :: 42 :: 43 :: 44 :: 45 :: 46 :: 47 :: 48 :: 49 :: 50 :: 51 :: 54 :: 55 :: 56 :: 57 :: 58 :: 59 :: 60 :: 61 :: 62 :: 63 :: 64 :: 65 :: 66 :: 69 :: 70 :: 71 :: 72 :: 73 :: ([] : List Nat)), pp' i = pp i) ∧ (∀ i ∈ [0, 1, 2, 3, 4, 5, 6, 7, 20, 21, 22, 24, 25, 26, 27, 28, 29, 30, 31, 32, 33, 34, 35, 36, 37], ff' i = ff i) ∧ (∀ i ∈ ([] : List Nat), gg' i = gg i) ∧ (r = (F_k_X9_lists_0 D9 a1 a2 (pp 1) (pp 2) (pp 5) (pp 36) (gg 0) (pp 38) (gg 1) (pp 40) (gg 2) (pp 42) (gg 3)).1) ∧ (gg' 0 = (F_k_X9_lists_0 D9 a1 a2 (pp 1) (pp 2) (pp 5) (pp 36) (gg 0) (pp 38) (gg 1) (pp 40) (gg 2) (pp 42) (gg 3)).2.1) ∧ (gg' 1 = (F_k_X9_lists_0 D9 a1 a2 (pp 1) (pp 2) (pp 5) (pp 36) (gg 0) (pp 38) (gg 1) (pp 40) (gg 2) (pp 42) (gg 3)).2.2.1) ∧ (gg' 2 = (F_k_X9_lists_0 D9 a1 a2 (pp 1) (pp 2) (pp 5) (pp 36) (gg 0) (pp 38) (gg 1) (pp 40) (gg 2) (pp 42) (gg 3)).2.2.2.1) ∧ (gg' 3 = (F_k_X9_lists_0 D9 a1 a2 (pp 1) (pp 2) (pp 5) (pp 36) (gg 0) (pp 38) (gg 1) (pp 40) (gg 2) (pp 42) (gg 3)).2.2.2.2) ∧ KN D9 (ff' 15) → va_P V.1 vwCl (wx ++ wz) H → va_D (AAs s) (wx ++ wz) → va_S (AAs s) s.heap H locs → W p l e room_1 s m #[Value.ref b] below meth c H locs cells slots (lw_Z below #[Value.ref b] s) (F0 m 1458 ls [.int r]))) : W p l e room_1 s m #[Value.ref b] below meth c H locs cells slots (lw_Z below #[Value.ref b] s) (F0 m 1455 ls [.int a2, .int a1, .ref (y 0)]) := by
  obtain ⟨o10, o11, rest, hp, ht_y1, ht_y20, ht_y27, ht_y28, ht_y32, hR, rfl⟩ := kx
  exact cx_40_s G _ _ hp ht_y1 ht_y20 ht_y27 ht_y28 ht_y32 hL9 hK9 hR hP hD hS hlz kk
theorem q_5_201 : Cond.code yX9_image prog_1_method_73_code 3 (some FieldType.int) ∈ gw := gw_5 (i := 201) (rfl) rfl
theorem q_5_199 : Cond.instanceMethod yX9_image ∈ gw := gw_5 (i := 199) (by decide +kernel) rfl
theorem q_5_200 : Cond.selects "BeaconDelay" yX9_image yX9_image ∈ gw := gw_5 (i := 200) (by decide +kernel) rfl
theorem mt_X9_image : MtV yX9_image cX9_image 3 (some .int) 1 := ⟨⟨q_5_201, q_1_1, by decide +kernel, by decide +kernel, by decide +kernel⟩, q_5_199, q_5_200⟩
theorem q_5_198 : Cond.methodLink "BeaconDelayLaw" 188 yX9_image ∈ gw := gw_5 (i := 198) (by decide +kernel) rfl
theorem dL_law_1483 : decode cL_law 1483 = .ok (.invokevirtual 188, 3) := by decide +kernel
set_option maxHeartbeats 4000000 in
set_option maxRecDepth 100000 in
theorem cx_41_s {p : Program} {e : Env} {s : State} {m : MethodId} {below : List Frame} {meth : Method} {c : Code} {l : Launch} {b Lk : Nat} {xs : Nat → Int32} {V : GV} {y : Nat → Nat} {H : Heap} {locs : List Loc} {cells slots : Nat} {wz : va_W} {ls : Array Slot} (G : LCx p s m meth c b Lk xs V) (a1 : Int32) {pp : Nat → Int32} {ff : Nat → Nat → Int32} {gg : Nat → Nat → Int64} {o10 o11 : Value} {rest : va_W} (hp : ivT tX pp) (ht_y1 : (∀ j, iv (-128) 127 ((ff 0) j))) (ht_y20 : (∀ j, iv 0 10 ((ff 15) j))) (ht_y27 : (∀ j, iv 0 9999 ((ff 20) j))) (ht_y28 : (∀ j, iv 0 9 ((ff 21) j))) (ht_y32 : (∀ j, iv 0 9999 ((ff 23) j))) {D9 : Nat → Int32} (hL9 : LW D9 (ff 1) (ff 7) (pp 11) (pp 12) (pp 13) (pp 14)) (hK9 : KN D9 (ff 15)) (hR : RRo V y cells slots o10 o11 rest)  (hP : va_P V.1 vwCl (wB V y pp ff gg o10 o11 ++ rest ++ wz) H) (hD : va_D (AAs s) (wB V y pp ff gg o10 o11 ++ rest ++ wz)) (hS : va_S (AAs s) s.heap H locs) (hlz : ls.size = 4) (kk : (∀ (r : Int32) (H : Heap) (locs : List Loc) (cells slots : Nat) (pp' : Nat → Int32) (ff' : Nat → Nat → Int32) (gg' : Nat → Nat → Int64) (wx : va_W), KX V y cells slots pp' ff' gg' wx → (∀ i ∈ [0, 1, 2, 3, 4, 5, 6, 7, 10, 11, 12, 13, 14, 15, 16, 35, 36, 37, 38, 39, 40, 41, 42, 43], pp' i = pp i) ∧ (∀ i ∈ [0, 1, 2, 3, 4, 5, 6, 7, 15, 20, 21, 22], ff' i = ff i) ∧ (∀ i ∈ [0, 1, 2, 3], gg' i = gg i) ∧ IMGX a1 r pp pp' ff ff' ∧ KN D9 (ff' 15) → va_P V.1 vwCl (wx ++ wz) H → va_D (AAs s) (wx ++ wz) → va_S (AAs s) s.heap H locs → W p l e room_1 s m #[Value.ref b] below meth c H locs cells slots (lw_Z below #[Value.ref b] s) (F0 m 1486 ls [.int r]))) : W p l e room_1 s m #[Value.ref b] below meth c H locs cells slots (lw_Z below #[Value.ref b] s) (F0 m 1483 ls [.int a1, .ref (y 0)]) := by
  rw [as3] at hP hD
  refine cSI (X := wB V y pp ff gg o10 o11) (pl := rest ++ wz) (rest := []) G (k_X9_image_0 l V y a1 (pp 0) o10 o11 (pp 1) (pp 2) (pp 3) (pp 4) (pp 5) (pp 6) (pp 7) (pp 8) (pp 9) (pp 10) (pp 11) (pp 12) (pp 13) (pp 14) (ff 1) (ff 2) (ff 3) (ff 4) (ff 5) (ff 6) (ff 7) (pp 44) (pp 45) (pp 46) (pp 47) (pp 48) (pp 49) (pp 50) (pp 51) (pp 52) (pp 53) (pp 54) (pp 55) (pp 56) (pp 57) (pp 58) (ff 24) (ff 25) (ff 26) (ff 27) (ff 28) (ff 29) (ff 30) (pp 59) (pp 60) (pp 61) (pp 62) (pp 63) (pp 64) (pp 65) (pp 66) (pp 67) (pp 68) (pp 69) (pp 70) (pp 71) (pp 72) (pp 73) (ff 31) (ff 32) (ff 33) (ff 34) (ff 35) (ff 36) (ff 37) (hp 0) (hp 1) (hp 2) (hp 5) (hp 6) (hp 7) (hp 8) (hp 9) (hp 10) (hp 11) (hp 12) (hp 13) (hp 14) (hp 44) (hp 45) (hp 49) (hp 50) (hp 51) (hp 52) (hp 53) (hp 54) (hp 55) (hp 56) (hp 57) (hp 58) (hp 59) (hp 60) (hp 64) (hp 65) (hp 66) (hp 67) (hp 68) (hp 69) (hp 70) (hp 71) (hp 72) (hp 73)) mt_X9_image q_5_198 ⟨Nat.le_of_ble_eq_true rfl, Nat.le_of_ble_eq_true rfl⟩ hP hD hS [0, 2, 3, 4, 5, 6, 7, 8, 9, 31, 41, 42, 43, 44, 45, 46, 47, 48, 49, 50, 51, 52, 53, 54, 55, 56, 57, 58] [0, 1, 0, 0, 0, 0, 0, 0, 0, 21, 9, 0, 0, 0, 0, 0, 0, 0, 0, 0, 0, 0, 0, 0, 0, 0, 0, 0] (by decide) (by decide +kernel) rfl 0 rfl rfl rfl rfl hlz rfl (Nat.le_of_ble_eq_true rfl) dL_law_1483 hR.room (fun r w H locs hw hPD hS => ?_)
  refine Exists.elim hw (fun v0 hw => ?_)
  refine Exists.elim hw (fun v1 hw => ?_)
  refine Exists.elim hw (fun v2 hw => ?_)
  refine Exists.elim hw (fun v3 hw => ?_)
  refine Exists.elim hw (fun v4 hw => ?_)
  refine Exists.elim hw (fun v5 hw => ?_)
  refine Exists.elim hw (fun v6 hw => ?_)
  refine Exists.elim hw (fun v7 hw => ?_)
  refine Exists.elim hw (fun v8 hw => ?_)
  refine Exists.elim hw (fun v9 hw => ?_)
  refine Exists.elim hw (fun v10 hw => ?_)
  refine Exists.elim hw (fun v11 hw => ?_)
  refine Exists.elim hw (fun v12 hw => ?_)
  refine Exists.elim hw (fun v13 hw => ?_)
  refine Exists.elim hw (fun v14 hw => ?_)
  refine Exists.elim hw (fun g15 hw => ?_)
  refine Exists.elim hw (fun g16 hw => ?_)
  refine Exists.elim hw (fun g17 hw => ?_)
  refine Exists.elim hw (fun g18 hw => ?_)
  refine Exists.elim hw (fun g19 hw => ?_)
  refine Exists.elim hw (fun g20 hw => ?_)
  refine Exists.elim hw (fun g21 hw => ?_)
  refine Exists.elim hw (fun v22 hw => ?_)
  refine Exists.elim hw (fun v23 hw => ?_)
  refine Exists.elim hw (fun v24 hw => ?_)
  refine Exists.elim hw (fun v25 hw => ?_)
  refine Exists.elim hw (fun v26 hw => ?_)
  refine Exists.elim hw (fun v27 hw => ?_)
  refine Exists.elim hw (fun v28 hw => ?_)
  refine Exists.elim hw (fun v29 hw => ?_)
  refine Exists.elim hw (fun v30 hw => ?_)
  refine Exists.elim hw (fun v31 hw => ?_)
  refine Exists.elim hw (fun v32 hw => ?_)
  refine Exists.elim hw (fun v33 hw => ?_)
  refine Exists.elim hw (fun v34 hw => ?_)
  refine Exists.elim hw (fun v35 hw => ?_)
  refine Exists.elim hw (fun v36 hw => ?_)
  refine Exists.elim hw (fun g37 hw => ?_)
  refine Exists.elim hw (fun g38 hw => ?_)
  refine Exists.elim hw (fun g39 hw => ?_)
  refine Exists.elim hw (fun g40 hw => ?_)
  refine Exists.elim hw (fun g41 hw => ?_)
  refine Exists.elim hw (fun g42 hw => ?_)
  refine Exists.elim hw (fun g43 hw => ?_)
  refine And.elim (fun bv0 hw => ?_) hw
  refine And.elim (fun bv1 hw => ?_) hw
  refine And.elim (fun bv5 hw => ?_) hw
  refine And.elim (fun bv6 hw => ?_) hw
  refine And.elim (fun bv7 hw => ?_) hw
  refine And.elim (fun bv8 hw => ?_) hw
  refine And.elim (fun bv9 hw => ?_) hw
  refine And.elim (fun bv10 hw => ?_) hw
  refine And.elim (fun bv11 hw => ?_) hw
  refine And.elim (fun bv12 hw => ?_) hw
  refine And.elim (fun bv13 hw => ?_) hw
  refine And.elim (fun bv14 hw => ?_) hw
  refine And.elim (fun bv22 hw => ?_) hw
  refine And.elim (fun bv23 hw => ?_) hw
  refine And.elim (fun bv27 hw => ?_) hw
  refine And.elim (fun bv28 hw => ?_) hw
  refine And.elim (fun bv29 hw => ?_) hw
  refine And.elim (fun bv30 hw => ?_) hw
  refine And.elim (fun bv31 hw => ?_) hw
  refine And.elim (fun bv32 hw => ?_) hw
  refine And.elim (fun bv33 hw => ?_) hw
  refine And.elim (fun bv34 hw => ?_) hw
  refine And.elim (fun bv35 hw => ?_) hw
  refine And.elim (fun bv36 hw => ?_) hw
  refine And.elim (fun br hw => ?_) hw
  refine And.elim (fun et_0 hw => ?_) hw
  refine And.elim (fun et_1 hw => ?_) hw
  refine And.elim (fun et_2 hw => ?_) hw
  refine And.elim (fun et_3 hw => ?_) hw
  refine And.elim (fun et_4 hw => ?_) hw
  refine And.elim (fun et_5 hw => ?_) hw
  refine And.elim (fun et_6 hw => ?_) hw
  refine And.elim (fun et_7 hw => ?_) hw
  refine And.elim (fun et_8 hw => ?_) hw
  refine And.elim (fun et_9 hw => ?_) hw
  refine And.elim (fun et_10 hw => ?_) hw
  refine And.elim (fun et_11 hw => ?_) hw
  refine And.elim (fun et_12 hw => ?_) hw
  refine And.elim (fun et_13 hw => ?_) hw
  refine And.elim (fun et_14 hw => ?_) hw
  refine And.elim (fun et_15 hw => ?_) hw
  refine And.elim (fun et_16 hw => ?_) hw
  refine And.elim (fun et_17 hw => ?_) hw
  refine And.elim (fun et_18 hw => ?_) hw
  refine And.elim (fun et_19 hw => ?_) hw
  refine And.elim (fun et_20 hw => ?_) hw
  refine And.elim (fun et_21 hw => ?_) hw
  refine And.elim (fun et_22 hw => ?_) hw
  refine And.elim (fun et_23 hw => ?_) hw
  refine And.elim (fun et_24 hw => ?_) hw
  refine And.elim (fun et_25 hw => ?_) hw
  refine And.elim (fun et_26 hw => ?_) hw
  refine And.elim (fun et_27 hw => ?_) hw
  refine And.elim (fun et_28 hw => ?_) hw
  refine And.elim (fun et_29 hw => ?_) hw
  refine And.elim (fun et_30 hw => ?_) hw
  refine And.elim (fun et_31 hw => ?_) hw
  refine And.elim (fun et_32 hw => ?_) hw
  refine And.elim (fun et_33 hw => ?_) hw
  refine And.elim (fun et_34 hw => ?_) hw
  refine And.elim (fun et_35 hw => ?_) hw
  refine And.elim (fun et_36 hw => ?_) hw
  refine And.elim (fun et_37 hw => ?_) hw
  refine And.elim (fun et_38 hw => ?_) hw
  refine And.elim (fun et_39 hw => ?_) hw
  refine And.elim (fun et_40 hw => ?_) hw
  refine And.elim (fun et_41 hw => ?_) hw
  refine And.elim (fun et_42 hw => ?_) hw
  refine And.elim (fun et_43 hw => ?_) hw
  refine And.elim (fun et_44 hw => ?_) hw
  subst hw
  obtain ⟨hP, hD⟩ := hPD (wB V y (br9 74 (br9 37 pp (br9 55 (br9 46 (br9 41 pp (br9 43 pp (br9 44 pp (br9 45 (lf9 v0) (lf9 v1))))) (br9 50 (br9 48 (br9 47 (lf9 v2) (lf9 v3)) (br9 49 (lf9 v4) (lf9 v5))) (br9 52 (br9 51 (lf9 v6) (lf9 v7)) (br9 53 (lf9 v8) (br9 54 (lf9 v9) (lf9 v10)))))) (br9 64 (br9 59 (br9 57 (br9 56 (lf9 v11) (lf9 v12)) (br9 58 (lf9 v13) (lf9 v14))) (br9 61 (br9 60 (lf9 v22) (lf9 v23)) (br9 62 (lf9 v24) (br9 63 (lf9 v25) (lf9 v26))))) (br9 69 (br9 66 (br9 65 (lf9 v27) (lf9 v28)) (br9 67 (lf9 v29) (br9 68 (lf9 v30) (lf9 v31)))) (br9 71 (br9 70 (lf9 v32) (lf9 v33)) (br9 72 (lf9 v34) (br9 73 (lf9 v35) (lf9 v36)))))))) pp) (br9 38 (br9 19 ff (br9 28 (br9 23 ff (br9 25 (br9 24 ff (lf9 g15)) (br9 26 (lf9 g16) (br9 27 (lf9 g17) (lf9 g18))))) (br9 33 (br9 30 (br9 29 (lf9 g19) (lf9 g20)) (br9 31 (lf9 g21) (br9 32 (lf9 g37) (lf9 g38)))) (br9 35 (br9 34 (lf9 g39) (lf9 g40)) (br9 36 (lf9 g41) (br9 37 (lf9 g42) (lf9 g43))))))) ff) gg o10 o11) rfl rfl
  rw [← as3] at hP hD
  exact kk r H locs (cells + 0) (slots + 0) (br9 74 (br9 37 pp (br9 55 (br9 46 (br9 41 pp (br9 43 pp (br9 44 pp (br9 45 (lf9 v0) (lf9 v1))))) (br9 50 (br9 48 (br9 47 (lf9 v2) (lf9 v3)) (br9 49 (lf9 v4) (lf9 v5))) (br9 52 (br9 51 (lf9 v6) (lf9 v7)) (br9 53 (lf9 v8) (br9 54 (lf9 v9) (lf9 v10)))))) (br9 64 (br9 59 (br9 57 (br9 56 (lf9 v11) (lf9 v12)) (br9 58 (lf9 v13) (lf9 v14))) (br9 61 (br9 60 (lf9 v22) (lf9 v23)) (br9 62 (lf9 v24) (br9 63 (lf9 v25) (lf9 v26))))) (br9 69 (br9 66 (br9 65 (lf9 v27) (lf9 v28)) (br9 67 (lf9 v29) (br9 68 (lf9 v30) (lf9 v31)))) (br9 71 (br9 70 (lf9 v32) (lf9 v33)) (br9 72 (lf9 v34) (br9 73 (lf9 v35) (lf9 v36)))))))) pp) (br9 38 (br9 19 ff (br9 28 (br9 23 ff (br9 25 (br9 24 ff (lf9 g15)) (br9 26 (lf9 g16) (br9 27 (lf9 g17) (lf9 g18))))) (br9 33 (br9 30 (br9 29 (lf9 g19) (lf9 g20)) (br9 31 (lf9 g21) (br9 32 (lf9 g37) (lf9 g38)))) (br9 35 (br9 34 (lf9 g39) (lf9 g40)) (br9 36 (lf9 g41) (br9 37 (lf9 g42) (lf9 g43))))))) ff) gg _ ⟨o10, o11, rest, (ivG_t 74 (ivG_b 37 (ivG_p hp) (ivG_b 55 (ivG_b 46 (ivG_b 41 (ivG_p hp) (ivG_b 43 (ivG_p hp) (ivG_b 44 (ivG_p hp) (ivG_b 45 (ivG_l 44 bv0) (ivG_l 45 bv1))))) (ivG_b 50 (ivG_b 48 (ivG_b 47 (ivG_l 46 (iv_top v2)) (ivG_l 47 (iv_top v3))) (ivG_b 49 (ivG_l 48 (iv_top v4)) (ivG_l 49 bv5))) (ivG_b 52 (ivG_b 51 (ivG_l 50 bv6) (ivG_l 51 bv7)) (ivG_b 53 (ivG_l 52 bv8) (ivG_b 54 (ivG_l 53 bv9) (ivG_l 54 bv10)))))) (ivG_b 64 (ivG_b 59 (ivG_b 57 (ivG_b 56 (ivG_l 55 bv11) (ivG_l 56 bv12)) (ivG_b 58 (ivG_l 57 bv13) (ivG_l 58 bv14))) (ivG_b 61 (ivG_b 60 (ivG_l 59 bv22) (ivG_l 60 bv23)) (ivG_b 62 (ivG_l 61 (iv_top v24)) (ivG_b 63 (ivG_l 62 (iv_top v25)) (ivG_l 63 (iv_top v26)))))) (ivG_b 69 (ivG_b 66 (ivG_b 65 (ivG_l 64 bv27) (ivG_l 65 bv28)) (ivG_b 67 (ivG_l 66 bv29) (ivG_b 68 (ivG_l 67 bv30) (ivG_l 68 bv31)))) (ivG_b 71 (ivG_b 70 (ivG_l 69 bv32) (ivG_l 70 bv33)) (ivG_b 72 (ivG_l 71 bv34) (ivG_b 73 (ivG_l 72 bv35) (ivG_l 73 bv36)))))))) hp), ht_y1, ht_y20, ht_y27, ht_y28, ht_y32, hR, rfl⟩ ⟨(List.forall_mem_cons.mpr ⟨rfl, (List.forall_mem_cons.mpr ⟨rfl, (List.forall_mem_cons.mpr ⟨rfl, (List.forall_mem_cons.mpr ⟨rfl, (List.forall_mem_cons.mpr ⟨rfl, (List.forall_mem_cons.mpr ⟨rfl, (List.forall_mem_cons.mpr ⟨rfl, (List.forall_mem_cons.mpr ⟨rfl, (List.forall_mem_cons.mpr ⟨rfl, (List.forall_mem_cons.mpr ⟨rfl, (List.forall_mem_cons.mpr ⟨rfl, (List.forall_mem_cons.mpr ⟨rfl, (List.forall_mem_cons.mpr ⟨rfl, (List.forall_mem_cons.mpr ⟨rfl, (List.forall_mem_cons.mpr ⟨rfl, (List.forall_mem_cons.mpr ⟨rfl, (List.forall_mem_cons.mpr ⟨rfl, (List.forall_mem_cons.mpr ⟨rfl, (List.forall_mem_cons.mpr ⟨rfl, (List.forall_mem_cons.mpr ⟨rfl, (List.forall_mem_cons.mpr ⟨rfl, (List.forall_mem_cons.mpr ⟨rfl, (List.forall_mem_cons.mpr ⟨rfl, (List.forall_mem_cons.mpr ⟨rfl, (fun _ h => absurd h List.not_mem_nil)⟩)⟩)⟩)⟩)⟩)⟩)⟩)⟩)⟩)⟩)⟩)⟩)⟩)⟩)⟩)⟩)⟩)⟩)⟩)⟩)⟩)⟩)⟩)⟩), (List.forall_mem_cons.mpr ⟨rfl, (List.forall_mem_cons.mpr ⟨rfl, (List.forall_mem_cons.mpr ⟨rfl, (List.forall_mem_cons.mpr ⟨rfl, (List.forall_mem_cons.mpr ⟨rfl, (List.forall_mem_cons.mpr ⟨rfl, (List.forall_mem_cons.mpr ⟨rfl, (List.forall_mem_cons.mpr ⟨rfl, (List.forall_mem_cons.mpr ⟨rfl, (List.forall_mem_cons.mpr ⟨rfl, (List.forall_mem_cons.mpr ⟨rfl, (List.forall_mem_cons.mpr ⟨rfl, (fun _ h => absurd h List.not_mem_nil)⟩)⟩)⟩)⟩)⟩)⟩)⟩)⟩)⟩)⟩)⟩)⟩), (fun _ _ => rfl), (imgx_0 rfl et_0 et_1 et_2 et_3 et_4 et_5 et_6 et_7 et_8 et_11 et_12 et_13 et_14 et_15 et_16 et_17 et_18 et_19 et_20 et_21 et_22 et_23 et_24 et_25 et_26 et_27 et_28 et_29 et_30 et_33 et_34 et_35 et_36 et_37 et_38 et_39 et_40 et_41 et_42 et_43 et_44), hK9⟩ hP hD hS
set_option maxHeartbeats 4000000 in
set_option maxRecDepth 100000 in
theorem cx_41 {p : Program} {e : Env} {s : State} {m : MethodId} {below : List Frame} {meth : Method} {c : Code} {l : Launch} {b Lk : Nat} {xs : Nat → Int32} {V : GV} {y : Nat → Nat} {H : Heap} {locs : List Loc} {cells slots : Nat} {wz : va_W} {ls : Array Slot} (G : LCx p s m meth c b Lk xs V) (a1 : Int32) {pp : Nat → Int32} {ff : Nat → Nat → Int32} {gg : Nat → Nat → Int64} {D9 : Nat → Int32} (hL9 : LW D9 (ff 1) (ff 7) (pp 11) (pp 12) (pp 13) (pp 14)) (hK9 : KN D9 (ff 15)) {wx : va_W} (kx : KX V y cells slots pp ff gg wx) (hP : va_P V.1 vwCl (wx ++ wz) H) (hD : va_D (AAs s) (wx ++ wz)) (hS : va_S (AAs s) s.heap H locs) (hlz : ls.size = 4) (kk : (∀ (r : Int32) (H : Heap) (locs : List Loc) (cells slots : Nat) (pp' : Nat → Int32) (ff' : Nat → Nat → Int32) (gg' : Nat → Nat → Int64) (wx : va_W), KX V y cells slots pp' ff' gg' wx → (∀ i ∈ [0, 1, 2, 3, 4, 5, 6, 7, 10, 11, 12, 13, 14, 15, 16, 35, 36, 37, 38, 39, 40, 41, 42, 43], pp' i = pp i) ∧ (∀ i ∈ [0, 1, 2, 3, 4, 5, 6, 7, 15, 20, 21, 22], ff' i = ff i) ∧ (∀ i ∈ [0, 1, 2, 3], gg' i = gg i) ∧ IMGX a1 r pp pp' ff ff' ∧ KN D9 (ff' 15) → va_P V.1 vwCl (wx ++ wz) H → va_D (AAs s) (wx ++ wz) → va_S (AAs s) s.heap H locs → W p l e room_1 s m #[Value.ref b] below meth c H locs cells slots (lw_Z below #[Value.ref b] s) (F0 m 1486 ls [.int r]))) : W p l e room_1 s m #[Value.ref b] below meth c H locs cells slots (lw_Z below #[Value.ref b] s) (F0 m 1483 ls [.int a1, .ref (y 0)]) := by
  obtain ⟨o10, o11, rest, hp, ht_y1, ht_y20, ht_y27, ht_y28, ht_y32, hR, rfl⟩ := kx
  exact cx_41_s G _ hp ht_y1 ht_y20 ht_y27 ht_y28 ht_y32 hL9 hK9 hR hP hD hS hlz kk
theorem q_5_208 : Cond.code yX9_restore prog_1_method_74_code 3 (some FieldType.int) ∈ gw := gw_5 (i := 208) (rfl) rfl
theorem q_5_206 : Cond.instanceMethod yX9_restore ∈ gw := gw_5 (i := 206) (by decide +kernel) rfl
theorem q_5_207 : Cond.selects "BeaconDelay" yX9_restore yX9_restore ∈ gw := gw_5 (i := 207) (by decide +kernel) rfl
theorem mt_X9_restore : MtV yX9_restore cX9_restore 3 (some .int) 1 := ⟨⟨q_5_208, q_1_1, by decide +kernel, by decide +kernel, by decide +kernel⟩, q_5_206, q_5_207⟩
theorem q_5_205 : Cond.methodLink "BeaconDelayLaw" 192 yX9_restore ∈ gw := gw_5 (i := 205) (by decide +kernel) rfl
theorem dL_law_1506 : decode cL_law 1506 = .ok (.invokevirtual 192, 3) := by decide +kernel
set_option maxHeartbeats 4000000 in
set_option maxRecDepth 100000 in
theorem cx_42_0 {p : Program} {e : Env} {s : State} {m : MethodId} {below : List Frame} {meth : Method} {c : Code} {l : Launch} {b Lk : Nat} {xs : Nat → Int32} {V : GV} {y : Nat → Nat} {H : Heap} {locs : List Loc} {cells slots : Nat} {wz : va_W} {ls : Array Slot} (G : LCx p s m meth c b Lk xs V) (a1 : Int32) {pp : Nat → Int32} {ff : Nat → Nat → Int32} {gg : Nat → Nat → Int64} (hp : ivT tX pp) (ht_y1 : (∀ j, iv (-128) 127 ((ff 0) j))) (ht_y20 : (∀ j, iv 0 10 ((ff 15) j))) (ht_y27 : (∀ j, iv 0 9999 ((ff 20) j))) (ht_y28 : (∀ j, iv 0 9 ((ff 21) j))) (ht_y32 : (∀ j, iv 0 9999 ((ff 23) j))) {D9 : Nat → Int32} (hL9 : LW D9 (ff 1) (ff 7) (pp 11) (pp 12) (pp 13) (pp 14)) (hK9 : KN D9 (ff 15)) (hc : cells + 116 ≤ 600000 ∧ slots + 633553 ≤ 7302250)  (hP : va_P V.1 vwCl (wB V y pp ff gg .null .null ++ [] ++ wz) H) (hD : va_D (AAs s) (wB V y pp ff gg .null .null ++ [] ++ wz)) (hS : va_S (AAs s) s.heap H locs) (hlz : ls.size = 4) (kk : (∀ (r : Int32) (H : Heap) (locs : List Loc) (cells slots : Nat) (pp' : Nat → Int32) (ff' : Nat → Nat → Int32) (gg' : Nat → Nat → Int64) (wx : va_W), KX V y cells slots pp' ff' gg' wx → (∀ i ∈ (0 :: 15 :: 16 :: 36 :: 37 :: 38 :: 39 :: 40 :: 41 :: 42 :: 43 :: 44 :: 45 :: 46 :: 47 :: 48 :: 49 :: 50 :: 51 :: 54 :: 55 :: 56 :: 57 :: 58 :: 59 :: 60 :: 61 :: 62 :: 63 :: 64 :: 65 :: 66 :: 69 :: 70 :: 71 :: 72 :: 73 :: ([] : List Nat)), pp' i = pp i) ∧ (∀ i ∈ [0, 20, 21, 22, 24, 25, 26, 27, 28, 29, 30, 31, 32, 33, 34, 35, 36, 37], ff' i = ff i) ∧ (∀ i ∈ [0, 1, 2, 3], gg' i = gg i) ∧ RESX a1 r pp pp' ff ff' → va_P V.1 vwCl (wx ++ wz) H → va_D (AAs s) (wx ++ wz) → va_S (AAs s) s.heap H locs → W p l e room_1 s m #[Value.ref b] below meth c H locs cells slots (lw_Z below #[Value.ref b] s) (F0 m 1509 ls [.int r]))) : W p l e room_1 s m #[Value.ref b] below meth c H locs cells slots (lw_Z below #[Value.ref b] s) (F0 m 1506 ls [.int a1, .ref (y 0)]) := by
  refine cSI (X := wB V y pp ff gg .null .null ++ []) (pl := wz) (rest := []) G (k_X9_restore_0 l V y a1 (pp 0) (.null) (pp 1) (pp 2) (pp 3) (pp 4) (pp 5) (pp 6) (pp 7) (pp 8) (pp 9) (pp 10) (pp 11) (pp 12) (pp 13) (pp 14) (ff 1) (ff 2) (ff 3) (ff 4) (ff 5) (ff 6) (ff 7) (ff 15) (pp 35) (pp 44) (pp 45) (pp 46) (pp 47) (pp 48) (pp 49) (pp 50) (pp 51) (pp 52) (pp 53) (pp 54) (pp 55) (pp 56) (pp 57) (pp 58) (ff 24) (ff 25) (ff 26) (ff 27) (ff 28) (ff 29) (ff 30) (pp 59) (pp 60) (pp 61) (pp 62) (pp 63) (pp 64) (pp 65) (pp 66) (pp 67) (pp 68) (pp 69) (pp 70) (pp 71) (pp 72) (pp 73) (ff 31) (ff 32) (ff 33) (ff 34) (ff 35) (ff 36) (ff 37) (hp 0) (hp 1) (hp 2) (hp 5) (hp 6) (hp 7) (hp 8) (hp 9) (hp 10) (hp 11) (hp 12) (hp 13) (hp 14) ht_y20 (hp 35) (hp 44) (hp 45) (hp 49) (hp 50) (hp 51) (hp 52) (hp 53) (hp 54) (hp 55) (hp 56) (hp 57) (hp 58) (hp 59) (hp 60) (hp 64) (hp 65) (hp 66) (hp 67) (hp 68) (hp 69) (hp 70) (hp 71) (hp 72) (hp 73)) mt_X9_restore q_5_205 ⟨Nat.le_of_ble_eq_true rfl, Nat.le_of_ble_eq_true rfl⟩ hP hD hS [0, 2, 3, 4, 5, 6, 7, 8, 9, 19, 20, 26, 31, 41, 42, 43, 44, 45, 46, 47, 48, 49, 50, 51, 52, 53, 54, 55, 56, 57, 58] [0, 1, 0, 0, 0, 0, 0, 0, 0, 9, 0, 5, 4, 9, 0, 0, 0, 0, 0, 0, 0, 0, 0, 0, 0, 0, 0, 0, 0, 0, 0] (by decide) (by decide +kernel) rfl 0 rfl rfl rfl rfl hlz rfl (Nat.le_of_ble_eq_true rfl) dL_law_1506 (by omega) (fun r w H locs hw hPD hS => ?_)
  refine Exists.elim hw (fun v0 hw => ?_)
  refine Exists.elim hw (fun v1 hw => ?_)
  refine Exists.elim hw (fun v2 hw => ?_)
  refine Exists.elim hw (fun v3 hw => ?_)
  refine Exists.elim hw (fun v4 hw => ?_)
  refine Exists.elim hw (fun v5 hw => ?_)
  refine Exists.elim hw (fun v6 hw => ?_)
  refine Exists.elim hw (fun v7 hw => ?_)
  refine Exists.elim hw (fun v8 hw => ?_)
  refine Exists.elim hw (fun v9 hw => ?_)
  refine Exists.elim hw (fun v10 hw => ?_)
  refine Exists.elim hw (fun v11 hw => ?_)
  refine Exists.elim hw (fun v12 hw => ?_)
  refine Exists.elim hw (fun v13 hw => ?_)
  refine Exists.elim hw (fun g14 hw => ?_)
  refine Exists.elim hw (fun g15 hw => ?_)
  refine Exists.elim hw (fun g16 hw => ?_)
  refine Exists.elim hw (fun g17 hw => ?_)
  refine Exists.elim hw (fun g18 hw => ?_)
  refine Exists.elim hw (fun g19 hw => ?_)
  refine Exists.elim hw (fun g20 hw => ?_)
  refine Exists.elim hw (fun g21 hw => ?_)
  refine Exists.elim hw (fun v22 hw => ?_)
  refine And.elim (fun bv0 hw => ?_) hw
  refine And.elim (fun bv1 hw => ?_) hw
  refine And.elim (fun bv4 hw => ?_) hw
  refine And.elim (fun bv5 hw => ?_) hw
  refine And.elim (fun bv6 hw => ?_) hw
  refine And.elim (fun bv7 hw => ?_) hw
  refine And.elim (fun bv8 hw => ?_) hw
  refine And.elim (fun bv9 hw => ?_) hw
  refine And.elim (fun bv10 hw => ?_) hw
  refine And.elim (fun bv11 hw => ?_) hw
  refine And.elim (fun bv12 hw => ?_) hw
  refine And.elim (fun bv13 hw => ?_) hw
  refine And.elim (fun bg21 hw => ?_) hw
  refine And.elim (fun bv22 hw => ?_) hw
  refine And.elim (fun br hw => ?_) hw
  refine And.elim (fun g_0 hw => ?_) hw
  refine And.elim (fun g_1 hw => ?_) hw
  refine And.elim (fun et_0 hw => ?_) hw
  refine And.elim (fun et_1 hw => ?_) hw
  refine And.elim (fun et_2 hw => ?_) hw
  refine And.elim (fun et_3 hw => ?_) hw
  refine And.elim (fun et_4 hw => ?_) hw
  refine And.elim (fun et_5 hw => ?_) hw
  refine And.elim (fun et_6 hw => ?_) hw
  refine And.elim (fun et_7 hw => ?_) hw
  refine And.elim (fun et_8 hw => ?_) hw
  refine And.elim (fun et_9 hw => ?_) hw
  refine And.elim (fun et_10 hw => ?_) hw
  refine And.elim (fun et_11 hw => ?_) hw
  refine And.elim (fun et_12 hw => ?_) hw
  refine And.elim (fun et_13 hw => ?_) hw
  refine And.elim (fun et_14 hw => ?_) hw
  refine And.elim (fun et_15 hw => ?_) hw
  refine And.elim (fun et_16 hw => ?_) hw
  refine And.elim (fun et_17 hw => ?_) hw
  refine And.elim (fun et_18 hw => ?_) hw
  refine And.elim (fun et_19 hw => ?_) hw
  refine And.elim (fun et_20 hw => ?_) hw
  refine And.elim (fun et_21 hw => ?_) hw
  refine And.elim (fun et_22 hw => ?_) hw
  subst hw
  obtain ⟨hP, hD⟩ := hPD (wB V y (br9 36 (br9 18 (br9 9 (br9 4 (br9 2 (br9 1 pp (lf9 v0)) (br9 3 (lf9 v1) (lf9 v2))) (br9 6 (br9 5 (lf9 v3) (lf9 v4)) (br9 7 (lf9 v5) (br9 8 (lf9 v6) (lf9 v7))))) (br9 13 (br9 11 (br9 10 (lf9 v8) (lf9 v9)) (br9 12 (lf9 v10) (lf9 v11))) (br9 15 (br9 14 (lf9 v12) (lf9 v13)) pp))) (br9 27 pp (br9 31 pp (br9 33 pp (br9 34 pp (br9 35 pp (lf9 v22))))))) pp) (br9 16 (br9 8 (br9 4 (br9 2 (br9 1 ff (lf9 g14)) (br9 3 (lf9 g15) (lf9 g16))) (br9 6 (br9 5 (lf9 g17) (lf9 g18)) (br9 7 (lf9 g19) (lf9 g20)))) (br9 12 ff (br9 14 ff (br9 15 ff (lf9 g21))))) ff) gg .null .null ++ []) rfl rfl
  exact kk r H locs (cells + 0) (slots + 0) (br9 36 (br9 18 (br9 9 (br9 4 (br9 2 (br9 1 pp (lf9 v0)) (br9 3 (lf9 v1) (lf9 v2))) (br9 6 (br9 5 (lf9 v3) (lf9 v4)) (br9 7 (lf9 v5) (br9 8 (lf9 v6) (lf9 v7))))) (br9 13 (br9 11 (br9 10 (lf9 v8) (lf9 v9)) (br9 12 (lf9 v10) (lf9 v11))) (br9 15 (br9 14 (lf9 v12) (lf9 v13)) pp))) (br9 27 pp (br9 31 pp (br9 33 pp (br9 34 pp (br9 35 pp (lf9 v22))))))) pp) (br9 16 (br9 8 (br9 4 (br9 2 (br9 1 ff (lf9 g14)) (br9 3 (lf9 g15) (lf9 g16))) (br9 6 (br9 5 (lf9 g17) (lf9 g18)) (br9 7 (lf9 g19) (lf9 g20)))) (br9 12 ff (br9 14 ff (br9 15 ff (lf9 g21))))) ff) gg _ ⟨.null, .null, [], (ivG_t 36 (ivG_b 18 (ivG_b 9 (ivG_b 4 (ivG_b 2 (ivG_b 1 (ivG_p hp) (ivG_l 1 bv0)) (ivG_b 3 (ivG_l 2 bv1) (ivG_l 3 (iv_top v2)))) (ivG_b 6 (ivG_b 5 (ivG_l 4 (iv_top v3)) (ivG_l 5 bv4)) (ivG_b 7 (ivG_l 6 bv5) (ivG_b 8 (ivG_l 7 bv6) (ivG_l 8 bv7))))) (ivG_b 13 (ivG_b 11 (ivG_b 10 (ivG_l 9 bv8) (ivG_l 10 bv9)) (ivG_b 12 (ivG_l 11 bv10) (ivG_l 12 bv11))) (ivG_b 15 (ivG_b 14 (ivG_l 13 bv12) (ivG_l 14 bv13)) (ivG_p hp)))) (ivG_b 27 (ivG_p hp) (ivG_b 31 (ivG_p hp) (ivG_b 33 (ivG_p hp) (ivG_b 34 (ivG_p hp) (ivG_b 35 (ivG_p hp) (ivG_l 35 bv22))))))) hp), ht_y1, bg21, ht_y27, ht_y28, ht_y32, Or.inl ⟨rfl, rfl, rfl, hc⟩, rfl⟩ ⟨(List.forall_mem_cons.mpr ⟨rfl, (List.forall_mem_cons.mpr ⟨rfl, (List.forall_mem_cons.mpr ⟨rfl, (List.forall_mem_cons.mpr ⟨rfl, (List.forall_mem_cons.mpr ⟨rfl, (List.forall_mem_cons.mpr ⟨rfl, (List.forall_mem_cons.mpr ⟨rfl, (List.forall_mem_cons.mpr ⟨rfl, (List.forall_mem_cons.mpr ⟨rfl, (List.forall_mem_cons.mpr ⟨rfl, (List.forall_mem_cons.mpr ⟨rfl, (List.forall_mem_cons.mpr ⟨rfl, (List.forall_mem_cons.mpr ⟨rfl, (List.forall_mem_cons.mpr ⟨rfl, (List.forall_mem_cons.mpr ⟨rfl, (List.forall_mem_cons.mpr ⟨rfl, (List.forall_mem_cons.mpr ⟨rfl, (List.forall_mem_cons.mpr ⟨rfl, (List.forall_mem_cons.mpr ⟨rfl, (List.forall_mem_cons.mpr ⟨rfl, (List.forall_mem_cons.mpr ⟨rfl, (List.forall_mem_cons.mpr ⟨rfl, (List.forall_mem_cons.mpr ⟨rfl, (List.forall_mem_cons.mpr ⟨rfl, (List.forall_mem_cons.mpr ⟨rfl, (List.forall_mem_cons.mpr ⟨rfl, (List.forall_mem_cons.mpr ⟨rfl, (List.forall_mem_cons.mpr ⟨rfl, (List.forall_mem_cons.mpr ⟨rfl, (List.forall_mem_cons.mpr ⟨rfl, (List.forall_mem_cons.mpr ⟨rfl, (List.forall_mem_cons.mpr ⟨rfl, (List.forall_mem_cons.mpr ⟨rfl, (List.forall_mem_cons.mpr ⟨rfl, (List.forall_mem_cons.mpr ⟨rfl, (List.forall_mem_cons.mpr ⟨rfl, (List.forall_mem_cons.mpr ⟨rfl, (fun _ h => absurd h List.not_mem_nil)⟩)⟩)⟩)⟩)⟩)⟩)⟩)⟩)⟩)⟩)⟩)⟩)⟩)⟩)⟩)⟩)⟩)⟩)⟩)⟩)⟩)⟩)⟩)⟩)⟩)⟩)⟩)⟩)⟩)⟩)⟩)⟩)⟩)⟩)⟩)⟩)⟩), (List.forall_mem_cons.mpr ⟨rfl, (List.forall_mem_cons.mpr ⟨rfl, (List.forall_mem_cons.mpr ⟨rfl, (List.forall_mem_cons.mpr ⟨rfl, (List.forall_mem_cons.mpr ⟨rfl, (List.forall_mem_cons.mpr ⟨rfl, (List.forall_mem_cons.mpr ⟨rfl, (List.forall_mem_cons.mpr ⟨rfl, (List.forall_mem_cons.mpr ⟨rfl, (List.forall_mem_cons.mpr ⟨rfl, (List.forall_mem_cons.mpr ⟨rfl, (List.forall_mem_cons.mpr ⟨rfl, (List.forall_mem_cons.mpr ⟨rfl, (List.forall_mem_cons.mpr ⟨rfl, (List.forall_mem_cons.mpr ⟨rfl, (List.forall_mem_cons.mpr ⟨rfl, (List.forall_mem_cons.mpr ⟨rfl, (List.forall_mem_cons.mpr ⟨rfl, (fun _ h => absurd h List.not_mem_nil)⟩)⟩)⟩)⟩)⟩)⟩)⟩)⟩)⟩)⟩)⟩)⟩)⟩)⟩)⟩)⟩)⟩)⟩), (fun _ _ => rfl), (resx_0 rfl et_0 et_1 et_2 et_3 et_4 et_5 et_6 et_7 et_10 et_11 et_12 et_13 et_14 et_15 et_16 et_17 et_18 et_19 et_20 et_21 et_22 g_0 g_1)⟩ hP hD hS
set_option maxHeartbeats 4000000 in
set_option maxRecDepth 100000 in
theorem cx_42_a {p : Program} {e : Env} {s : State} {m : MethodId} {below : List Frame} {meth : Method} {c : Code} {l : Launch} {b Lk : Nat} {xs : Nat → Int32} {V : GV} {y : Nat → Nat} {H : Heap} {locs : List Loc} {cells slots : Nat} {wz : va_W} {ls : Array Slot} (G : LCx p s m meth c b Lk xs V) (a1 : Int32) {pp : Nat → Int32} {ff : Nat → Nat → Int32} {gg : Nat → Nat → Int64} {n L : Nat} {Yw : Nat → Nat} {wa wb : Nat} {qq : Nat → Int32} {ee : Nat → Nat → Int32} {o11 : Value} {fr : va_W} {fm : Nat} (hp : ivT tX pp) (ht_y1 : (∀ j, iv (-128) 127 ((ff 0) j))) (ht_y20 : (∀ j, iv 0 10 ((ff 15) j))) (ht_y27 : (∀ j, iv 0 9999 ((ff 20) j))) (ht_y28 : (∀ j, iv 0 9 ((ff 21) j))) (ht_y32 : (∀ j, iv 0 9999 ((ff 23) j))) {D9 : Nat → Int32} (hL9 : LW D9 (ff 1) (ff 7) (pp 11) (pp 12) (pp 13) (pp 14)) (hK9 : KN D9 (ff 15)) (hW : WFa n L qq ee) (hF : RFo V o11 fr fm) (hT : PTn cells slots n fm (qq 0))  (hP : va_P V.1 vwCl (wB V y pp ff gg (.ref (Yw 0)) o11 ++ (wY V y n L Yw wa wb qq ee ++ fr) ++ wz) H) (hD : va_D (AAs s) (wB V y pp ff gg (.ref (Yw 0)) o11 ++ (wY V y n L Yw wa wb qq ee ++ fr) ++ wz)) (hS : va_S (AAs s) s.heap H locs) (hlz : ls.size = 4) (kk : (∀ (r : Int32) (H : Heap) (locs : List Loc) (cells slots : Nat) (pp' : Nat → Int32) (ff' : Nat → Nat → Int32) (gg' : Nat → Nat → Int64) (wx : va_W), KX V y cells slots pp' ff' gg' wx → (∀ i ∈ (0 :: 15 :: 16 :: 36 :: 37 :: 38 :: 39 :: 40 :: 41 :: 42 :: 43 :: 44 :: 45 :: 46 :: 47 :: 48 :: 49 :: 50 :: 51 :: 54 :: 55 :: 56 :: 57 :: 58 :: 59 :: 60 :: 61 :: 62 :: 63 :: 64 :: 65 :: 66 :: 69 :: 70 :: 71 :: 72 :: 73 :: ([] : List Nat)), pp' i = pp i) ∧ (∀ i ∈ [0, 20, 21, 22, 24, 25, 26, 27, 28, 29, 30, 31, 32, 33, 34, 35, 36, 37], ff' i = ff i) ∧ (∀ i ∈ [0, 1, 2, 3], gg' i = gg i) ∧ RESX a1 r pp pp' ff ff' → va_P V.1 vwCl (wx ++ wz) H → va_D (AAs s) (wx ++ wz) → va_S (AAs s) s.heap H locs → W p l e room_1 s m #[Value.ref b] below meth c H locs cells slots (lw_Z below #[Value.ref b] s) (F0 m 1509 ls [.int r]))) : W p l e room_1 s m #[Value.ref b] below meth c H locs cells slots (lw_Z below #[Value.ref b] s) (F0 m 1506 ls [.int a1, .ref (y 0)]) := by
  obtain ⟨hn, hL, hw_q0, hw_q5, hw_q6, hw_q14, hw_q15, hw_q16, hw_tYw1, hw_tYw4, hw_tYw5, hw_tYw6, hw_tYw7, hw_WA, hw_WB, hw_WC⟩ := id hW
  rw [as4] at hP hD
  refine cSI (X := wB V y pp ff gg (.ref (Yw 0)) o11 ++ wY V y n L Yw wa wb qq ee) (pl := fr ++ wz) (rest := []) G (k_X9_restore_1 l V n L Yw y a1 (pp 0) o11 (pp 1) (pp 2) (pp 3) (pp 4) (pp 5) (pp 6) (pp 7) (pp 8) (pp 9) (pp 10) (pp 11) (pp 12) (pp 13) (pp 14) (ff 1) (ff 2) (ff 3) (ff 4) (ff 5) (ff 6) (ff 7) (ff 15) (pp 35) (pp 44) (pp 45) (pp 46) (pp 47) (pp 48) (pp 49) (pp 50) (pp 51) (pp 52) (pp 53) (pp 54) (pp 55) (pp 56) (pp 57) (pp 58) (ff 24) (ff 25) (ff 26) (ff 27) (ff 28) (ff 29) (ff 30) (pp 59) (pp 60) (pp 61) (pp 62) (pp 63) (pp 64) (pp 65) (pp 66) (pp 67) (pp 68) (pp 69) (pp 70) (pp 71) (pp 72) (pp 73) (ff 31) (ff 32) (ff 33) (ff 34) (ff 35) (ff 36) (ff 37) (qq 0) wa (qq 5) (qq 6) wb (qq 14) (qq 15) (qq 16) (ee 0) (ee 1) (ee 3) (ee 5) hn hL (hp 0) (hp 1) (hp 2) (hp 5) (hp 6) (hp 7) (hp 8) (hp 9) (hp 10) (hp 11) (hp 12) (hp 13) (hp 14) ht_y20 (hp 35) (hp 44) (hp 45) (hp 49) (hp 50) (hp 51) (hp 52) (hp 53) (hp 54) (hp 55) (hp 56) (hp 57) (hp 58) (hp 59) (hp 60) (hp 64) (hp 65) (hp 66) (hp 67) (hp 68) (hp 69) (hp 70) (hp 71) (hp 72) (hp 73) hw_q0 hw_q5 hw_q6 hw_q14 hw_q15 hw_q16 hw_tYw1 hw_tYw4 hw_tYw6 hw_WA hw_WB hw_WC) mt_X9_restore q_5_205 ⟨Nat.le_of_ble_eq_true rfl, Nat.le_of_ble_eq_true rfl⟩ hP hD hS [0, 2, 3, 4, 5, 6, 7, 8, 9, 19, 20, 26, 31, 41, 42, 43, 44, 45, 46, 47, 48, 49, 50, 51, 52, 53, 54, 55, 56, 57, 58, 59, 60, 61, 63, 65] [0, 1, 0, 0, 0, 0, 0, 0, 0, 9, 0, 5, 4, 9, 0, 0, 0, 0, 0, 0, 0, 0, 0, 0, 0, 0, 0, 0, 0, 0, 0, 0, 0, 0, 1, 1] (by decide) (by decide +kernel) rfl 0 rfl rfl rfl rfl hlz rfl (Nat.le_of_ble_eq_true rfl) dL_law_1506 (PTn_room hT hw_q0) (fun r w H locs hw hPD hS => ?_)
  refine Exists.elim hw (fun v0 hw => ?_)
  refine Exists.elim hw (fun v1 hw => ?_)
  refine Exists.elim hw (fun v2 hw => ?_)
  refine Exists.elim hw (fun v3 hw => ?_)
  refine Exists.elim hw (fun v4 hw => ?_)
  refine Exists.elim hw (fun v5 hw => ?_)
  refine Exists.elim hw (fun v6 hw => ?_)
  refine Exists.elim hw (fun v7 hw => ?_)
  refine Exists.elim hw (fun v8 hw => ?_)
  refine Exists.elim hw (fun v9 hw => ?_)
  refine Exists.elim hw (fun v10 hw => ?_)
  refine Exists.elim hw (fun v11 hw => ?_)
  refine Exists.elim hw (fun v12 hw => ?_)
  refine Exists.elim hw (fun v13 hw => ?_)
  refine Exists.elim hw (fun g14 hw => ?_)
  refine Exists.elim hw (fun g15 hw => ?_)
  refine Exists.elim hw (fun g16 hw => ?_)
  refine Exists.elim hw (fun g17 hw => ?_)
  refine Exists.elim hw (fun g18 hw => ?_)
  refine Exists.elim hw (fun g19 hw => ?_)
  refine Exists.elim hw (fun g20 hw => ?_)
  refine Exists.elim hw (fun g21 hw => ?_)
  refine Exists.elim hw (fun v22 hw => ?_)
  refine Exists.elim hw (fun v23 hw => ?_)
  refine Exists.elim hw (fun v24 hw => ?_)
  refine Exists.elim hw (fun g25 hw => ?_)
  refine And.elim (fun bv0 hw => ?_) hw
  refine And.elim (fun bv1 hw => ?_) hw
  refine And.elim (fun bv4 hw => ?_) hw
  refine And.elim (fun bv5 hw => ?_) hw
  refine And.elim (fun bv6 hw => ?_) hw
  refine And.elim (fun bv7 hw => ?_) hw
  refine And.elim (fun bv8 hw => ?_) hw
  refine And.elim (fun bv9 hw => ?_) hw
  refine And.elim (fun bv10 hw => ?_) hw
  refine And.elim (fun bv11 hw => ?_) hw
  refine And.elim (fun bv12 hw => ?_) hw
  refine And.elim (fun bv13 hw => ?_) hw
  refine And.elim (fun bg21 hw => ?_) hw
  refine And.elim (fun bv22 hw => ?_) hw
  refine And.elim (fun bv23 hw => ?_) hw
  refine And.elim (fun bv24 hw => ?_) hw
  refine And.elim (fun bg25 hw => ?_) hw
  refine And.elim (fun br hw => ?_) hw
  refine And.elim (fun g_0 hw => ?_) hw
  refine And.elim (fun g_1 hw => ?_) hw
  refine And.elim (fun g_2 hw => ?_) hw
  refine And.elim (fun g_3 hw => ?_) hw
  refine And.elim (fun g_4 hw => ?_) hw
  refine And.elim (fun et_0 hw => ?_) hw
  refine And.elim (fun et_1 hw => ?_) hw
  refine And.elim (fun et_2 hw => ?_) hw
  refine And.elim (fun et_3 hw => ?_) hw
  refine And.elim (fun et_4 hw => ?_) hw
  refine And.elim (fun et_5 hw => ?_) hw
  refine And.elim (fun et_6 hw => ?_) hw
  refine And.elim (fun et_7 hw => ?_) hw
  refine And.elim (fun et_8 hw => ?_) hw
  refine And.elim (fun et_9 hw => ?_) hw
  refine And.elim (fun et_10 hw => ?_) hw
  refine And.elim (fun et_11 hw => ?_) hw
  refine And.elim (fun et_12 hw => ?_) hw
  refine And.elim (fun et_13 hw => ?_) hw
  refine And.elim (fun et_14 hw => ?_) hw
  refine And.elim (fun et_15 hw => ?_) hw
  refine And.elim (fun et_16 hw => ?_) hw
  refine And.elim (fun et_17 hw => ?_) hw
  refine And.elim (fun et_18 hw => ?_) hw
  refine And.elim (fun et_19 hw => ?_) hw
  refine And.elim (fun et_20 hw => ?_) hw
  refine And.elim (fun et_21 hw => ?_) hw
  refine And.elim (fun et_22 hw => ?_) hw
  refine And.elim (fun et_23 hw => ?_) hw
  refine And.elim (fun et_24 hw => ?_) hw
  refine And.elim (fun et_25 hw => ?_) hw
  subst hw
  obtain ⟨hP, hD⟩ := hPD (wB V y (br9 36 (br9 18 (br9 9 (br9 4 (br9 2 (br9 1 pp (lf9 v0)) (br9 3 (lf9 v1) (lf9 v2))) (br9 6 (br9 5 (lf9 v3) (lf9 v4)) (br9 7 (lf9 v5) (br9 8 (lf9 v6) (lf9 v7))))) (br9 13 (br9 11 (br9 10 (lf9 v8) (lf9 v9)) (br9 12 (lf9 v10) (lf9 v11))) (br9 15 (br9 14 (lf9 v12) (lf9 v13)) pp))) (br9 27 pp (br9 31 pp (br9 33 pp (br9 34 pp (br9 35 pp (lf9 v22))))))) pp) (br9 16 (br9 8 (br9 4 (br9 2 (br9 1 ff (lf9 g14)) (br9 3 (lf9 g15) (lf9 g16))) (br9 6 (br9 5 (lf9 g17) (lf9 g18)) (br9 7 (lf9 g19) (lf9 g20)))) (br9 12 ff (br9 14 ff (br9 15 ff (lf9 g21))))) ff) gg (.ref (Yw 0)) o11 ++ wY V y n L Yw wa wb (up9 (up9 qq 5 v23) 16 v24) (up9 ee 3 g25)) rfl rfl
  rw [← as4] at hP hD
  exact kk r H locs (cells + 0) (slots + 0) (br9 36 (br9 18 (br9 9 (br9 4 (br9 2 (br9 1 pp (lf9 v0)) (br9 3 (lf9 v1) (lf9 v2))) (br9 6 (br9 5 (lf9 v3) (lf9 v4)) (br9 7 (lf9 v5) (br9 8 (lf9 v6) (lf9 v7))))) (br9 13 (br9 11 (br9 10 (lf9 v8) (lf9 v9)) (br9 12 (lf9 v10) (lf9 v11))) (br9 15 (br9 14 (lf9 v12) (lf9 v13)) pp))) (br9 27 pp (br9 31 pp (br9 33 pp (br9 34 pp (br9 35 pp (lf9 v22))))))) pp) (br9 16 (br9 8 (br9 4 (br9 2 (br9 1 ff (lf9 g14)) (br9 3 (lf9 g15) (lf9 g16))) (br9 6 (br9 5 (lf9 g17) (lf9 g18)) (br9 7 (lf9 g19) (lf9 g20)))) (br9 12 ff (br9 14 ff (br9 15 ff (lf9 g21))))) ff) gg _ ⟨.ref (Yw 0), o11, _, (ivG_t 36 (ivG_b 18 (ivG_b 9 (ivG_b 4 (ivG_b 2 (ivG_b 1 (ivG_p hp) (ivG_l 1 bv0)) (ivG_b 3 (ivG_l 2 bv1) (ivG_l 3 (iv_top v2)))) (ivG_b 6 (ivG_b 5 (ivG_l 4 (iv_top v3)) (ivG_l 5 bv4)) (ivG_b 7 (ivG_l 6 bv5) (ivG_b 8 (ivG_l 7 bv6) (ivG_l 8 bv7))))) (ivG_b 13 (ivG_b 11 (ivG_b 10 (ivG_l 9 bv8) (ivG_l 10 bv9)) (ivG_b 12 (ivG_l 11 bv10) (ivG_l 12 bv11))) (ivG_b 15 (ivG_b 14 (ivG_l 13 bv12) (ivG_l 14 bv13)) (ivG_p hp)))) (ivG_b 27 (ivG_p hp) (ivG_b 31 (ivG_p hp) (ivG_b 33 (ivG_p hp) (ivG_b 34 (ivG_p hp) (ivG_b 35 (ivG_p hp) (ivG_l 35 bv22))))))) hp), ht_y1, bg21, ht_y27, ht_y28, ht_y32, Or.inr ⟨n, L, Yw, wa, wb, (up9 (up9 qq 5 v23) 16 v24), (up9 ee 3 g25), fr, fm, ⟨hn, hL, hw_q0, bv23, hw_q6, hw_q14, hw_q15, bv24, hw_tYw1, bg25, hw_tYw5, hw_tYw6, hw_tYw7, g_0, g_1, g_2⟩, hF, hT, rfl, rfl⟩, rfl⟩ ⟨(List.forall_mem_cons.mpr ⟨rfl, (List.forall_mem_cons.mpr ⟨rfl, (List.forall_mem_cons.mpr ⟨rfl, (List.forall_mem_cons.mpr ⟨rfl, (List.forall_mem_cons.mpr ⟨rfl, (List.forall_mem_cons.mpr ⟨rfl, (List.forall_mem_cons.mpr ⟨rfl, (List.forall_mem_cons.mpr ⟨rfl, (List.forall_mem_cons.mpr ⟨rfl, (List.forall_mem_cons.mpr ⟨rfl, (List.forall_mem_cons.mpr ⟨rfl, (List.forall_mem_cons.mpr ⟨rfl, (List.forall_mem_cons.mpr ⟨rfl, (List.forall_mem_cons.mpr ⟨rfl, (List.forall_mem_cons.mpr ⟨rfl, (List.forall_mem_cons.mpr ⟨rfl, (List.forall_mem_cons.mpr ⟨rfl, (List.forall_mem_cons.mpr ⟨rfl, (List.forall_mem_cons.mpr ⟨rfl, (List.forall_mem_cons.mpr ⟨rfl, (List.forall_mem_cons.mpr ⟨rfl, (List.forall_mem_cons.mpr ⟨rfl, (List.forall_mem_cons.mpr ⟨rfl, (List.forall_mem_cons.mpr ⟨rfl, (List.forall_mem_cons.mpr ⟨rfl, (List.forall_mem_cons.mpr ⟨rfl, (List.forall_mem_cons.mpr ⟨rfl, (List.forall_mem_cons.mpr ⟨rfl, (List.forall_mem_cons.mpr ⟨rfl, (List.forall_mem_cons.mpr ⟨rfl, (List.forall_mem_cons.mpr ⟨rfl, (List.forall_mem_cons.mpr ⟨rfl, (List.forall_mem_cons.mpr ⟨rfl, (List.forall_mem_cons.mpr ⟨rfl, (List.forall_mem_cons.mpr ⟨rfl, (List.forall_mem_cons.mpr ⟨rfl, (List.forall_mem_cons.mpr ⟨rfl, (fun _ h => absurd h List.not_mem_nil)⟩)⟩)⟩)⟩)⟩)⟩)⟩)⟩)⟩)⟩)⟩)⟩)⟩)⟩)⟩)⟩)⟩)⟩)⟩)⟩)⟩)⟩)⟩)⟩)⟩)⟩)⟩)⟩)⟩)⟩)⟩)⟩)⟩)⟩)⟩)⟩)⟩), (List.forall_mem_cons.mpr ⟨rfl, (List.forall_mem_cons.mpr ⟨rfl, (List.forall_mem_cons.mpr ⟨rfl, (List.forall_mem_cons.mpr ⟨rfl, (List.forall_mem_cons.mpr ⟨rfl, (List.forall_mem_cons.mpr ⟨rfl, (List.forall_mem_cons.mpr ⟨rfl, (List.forall_mem_cons.mpr ⟨rfl, (List.forall_mem_cons.mpr ⟨rfl, (List.forall_mem_cons.mpr ⟨rfl, (List.forall_mem_cons.mpr ⟨rfl, (List.forall_mem_cons.mpr ⟨rfl, (List.forall_mem_cons.mpr ⟨rfl, (List.forall_mem_cons.mpr ⟨rfl, (List.forall_mem_cons.mpr ⟨rfl, (List.forall_mem_cons.mpr ⟨rfl, (List.forall_mem_cons.mpr ⟨rfl, (List.forall_mem_cons.mpr ⟨rfl, (fun _ h => absurd h List.not_mem_nil)⟩)⟩)⟩)⟩)⟩)⟩)⟩)⟩)⟩)⟩)⟩)⟩)⟩)⟩)⟩)⟩)⟩)⟩), (fun _ _ => rfl), (resx_1 (qq := qq) (ee := ee) rfl et_0 et_1 et_2 et_3 et_4 et_5 et_6 et_7 et_10 et_11 et_12 et_13 et_14 et_15 et_16 et_17 et_18 et_19 et_20 et_21 et_22 g_3 g_4)⟩ hP hD hS
set_option maxHeartbeats 4000000 in
set_option maxRecDepth 100000 in
theorem cx_42 {p : Program} {e : Env} {s : State} {m : MethodId} {below : List Frame} {meth : Method} {c : Code} {l : Launch} {b Lk : Nat} {xs : Nat → Int32} {V : GV} {y : Nat → Nat} {H : Heap} {locs : List Loc} {cells slots : Nat} {wz : va_W} {ls : Array Slot} (G : LCx p s m meth c b Lk xs V) (a1 : Int32) {pp : Nat → Int32} {ff : Nat → Nat → Int32} {gg : Nat → Nat → Int64} {D9 : Nat → Int32} (hL9 : LW D9 (ff 1) (ff 7) (pp 11) (pp 12) (pp 13) (pp 14)) (hK9 : KN D9 (ff 15)) {wx : va_W} (kx : KX V y cells slots pp ff gg wx) (hP : va_P V.1 vwCl (wx ++ wz) H) (hD : va_D (AAs s) (wx ++ wz)) (hS : va_S (AAs s) s.heap H locs) (hlz : ls.size = 4) (kk : (∀ (r : Int32) (H : Heap) (locs : List Loc) (cells slots : Nat) (pp' : Nat → Int32) (ff' : Nat → Nat → Int32) (gg' : Nat → Nat → Int64) (wx : va_W), KX V y cells slots pp' ff' gg' wx → (∀ i ∈ (0 :: 15 :: 16 :: 36 :: 37 :: 38 :: 39 :: 40 :: 41 :: 42 :: 43 :: 44 :: 45 :: 46 :: 47 :: 48 :: 49 :: 50 :: 51 :: 54 :: 55 :: 56 :: 57 :: 58 :: 59 :: 60 :: 61 :: 62 :: 63 :: 64 :: 65 :: 66 :: 69 :: 70 :: 71 :: 72 :: 73 :: ([] : List Nat)), pp' i = pp i) ∧ (∀ i ∈ [0, 20, 21, 22, 24, 25, 26, 27, 28, 29, 30, 31, 32, 33, 34, 35, 36, 37], ff' i = ff i) ∧ (∀ i ∈ [0, 1, 2, 3], gg' i = gg i) ∧ RESX a1 r pp pp' ff ff' → va_P V.1 vwCl (wx ++ wz) H → va_D (AAs s) (wx ++ wz) → va_S (AAs s) s.heap H locs → W p l e room_1 s m #[Value.ref b] below meth c H locs cells slots (lw_Z below #[Value.ref b] s) (F0 m 1509 ls [.int r]))) : W p l e room_1 s m #[Value.ref b] below meth c H locs cells slots (lw_Z below #[Value.ref b] s) (F0 m 1506 ls [.int a1, .ref (y 0)]) := by
  obtain ⟨o10, o11, rest, hp, ht_y1, ht_y20, ht_y27, ht_y28, ht_y32, hR, rfl⟩ := kx
  rcases hR with ⟨rfl, rfl, rfl, hc⟩ | ⟨n, L, Yw, wa, wb, qq, ee, fr, fm, hW, hF, hT, rfl, rfl⟩
  · exact cx_42_0 G _ hp ht_y1 ht_y20 ht_y27 ht_y28 ht_y32 hL9 hK9 hc hP hD hS hlz kk
  · exact cx_42_a G _ hp ht_y1 ht_y20 ht_y27 ht_y28 ht_y32 hL9 hK9 hW hF hT hP hD hS hlz kk
theorem q_5_212 : Cond.code yX9_count prog_1_method_75_code 2 (some FieldType.int) ∈ gw := gw_5 (i := 212) (rfl) rfl
theorem q_5_210 : Cond.instanceMethod yX9_count ∈ gw := gw_5 (i := 210) (by decide +kernel) rfl
theorem q_5_211 : Cond.selects "BeaconDelay" yX9_count yX9_count ∈ gw := gw_5 (i := 211) (by decide +kernel) rfl
theorem mt_X9_count : MtV yX9_count cX9_count 2 (some .int) 1 := ⟨⟨q_5_212, q_1_1, by decide +kernel, by decide +kernel, by decide +kernel⟩, q_5_210, q_5_211⟩
theorem q_5_209 : Cond.methodLink "BeaconDelayLaw" 196 yX9_count ∈ gw := gw_5 (i := 209) (by decide +kernel) rfl
theorem dL_law_1529 : decode cL_law 1529 = .ok (.invokevirtual 196, 3) := by decide +kernel
set_option maxHeartbeats 4000000 in
set_option maxRecDepth 100000 in
theorem cx_43_s {p : Program} {e : Env} {s : State} {m : MethodId} {below : List Frame} {meth : Method} {c : Code} {l : Launch} {b Lk : Nat} {xs : Nat → Int32} {V : GV} {y : Nat → Nat} {H : Heap} {locs : List Loc} {cells slots : Nat} {wz : va_W} {ls : Array Slot} (G : LCx p s m meth c b Lk xs V) (a1 : Int32) {pp : Nat → Int32} {ff : Nat → Nat → Int32} {gg : Nat → Nat → Int64} {o10 o11 : Value} {rest : va_W} (hp : ivT tX pp) (ht_y1 : (∀ j, iv (-128) 127 ((ff 0) j))) (ht_y20 : (∀ j, iv 0 10 ((ff 15) j))) (ht_y27 : (∀ j, iv 0 9999 ((ff 20) j))) (ht_y28 : (∀ j, iv 0 9 ((ff 21) j))) (ht_y32 : (∀ j, iv 0 9999 ((ff 23) j))) {D9 : Nat → Int32} (hL9 : LW D9 (ff 1) (ff 7) (pp 11) (pp 12) (pp 13) (pp 14)) (hK9 : KN D9 (ff 15)) (hR : RRo V y cells slots o10 o11 rest)  (hP : va_P V.1 vwCl (wB V y pp ff gg o10 o11 ++ rest ++ wz) H) (hD : va_D (AAs s) (wB V y pp ff gg o10 o11 ++ rest ++ wz)) (hS : va_S (AAs s) s.heap H locs) (hlz : ls.size = 4) (kk : (∀ (r : Int32) (H : Heap) (locs : List Loc) (cells slots : Nat) (pp' : Nat → Int32) (ff' : Nat → Nat → Int32) (gg' : Nat → Nat → Int64) (wx : va_W), KX V y cells slots pp' ff' gg' wx → (∀ i ∈ (0 :: 1 :: 2 :: 3 :: 4 :: 5 :: 6 :: 7 :: 10 :: 11 :: 12 :: 13 :: 14 :: 15 :: 16 :: 35 :: 36 :: 37 :: 38 :: 39 :: 40 :: 41 :: 42 :: 43 :: 44 :: 45 :: 46 :: 47 :: 48 :: 49 :: 50 :: 51 :: 54 :: 55 :: 56 :: 57 :: 58 :: 59 :: 60 :: 61 :: 62 :: 63 :: 64 :: 65 :: 66 :: 69 :: 70 :: 71 :: 72 :: 73 :: ([] : List Nat)), pp' i = pp i) ∧ (∀ i ∈ [0, 1, 2, 3, 4, 5, 6, 7, 15, 20, 21, 22, 24, 25, 26, 27, 28, 29, 30, 31, 32, 33, 34, 35, 36, 37], ff' i = ff i) ∧ (∀ i ∈ [0, 1, 2, 3], gg' i = gg i) ∧ (r = (F_k_X9_count_0 a1 (pp 0) (pp 1) (pp 2) (pp 3) (pp 4) (pp 5) (pp 6) (pp 7) (pp 35))) ∧ KN D9 (ff' 15) → va_P V.1 vwCl (wx ++ wz) H → va_D (AAs s) (wx ++ wz) → va_S (AAs s) s.heap H locs → W p l e room_1 s m #[Value.ref b] below meth c H locs cells slots (lw_Z below #[Value.ref b] s) (F0 m 1532 ls [.int r]))) : W p l e room_1 s m #[Value.ref b] below meth c H locs cells slots (lw_Z below #[Value.ref b] s) (F0 m 1529 ls [.int a1, .ref (y 0)]) := by
  rw [as3] at hP hD
  refine cSI (X := wB V y pp ff gg o10 o11) (pl := rest ++ wz) (rest := []) G (k_X9_count_0 l V y a1 (pp 0) o10 o11 (pp 1) (pp 2) (pp 3) (pp 4) (pp 5) (pp 6) (pp 7) (pp 8) (pp 9) (pp 10) (pp 11) (pp 12) (pp 13) (pp 14) (pp 35) (hp 0) (hp 1) (hp 2) (hp 5) (hp 6) (hp 7) (hp 8) (hp 9) (hp 10) (hp 11) (hp 12) (hp 13) (hp 14) (hp 35)) mt_X9_count q_5_209 ⟨Nat.le_of_ble_eq_true rfl, Nat.le_of_ble_eq_true rfl⟩ hP hD hS [0, 2, 26] [0, 1, 23] (by decide) (by decide +kernel) rfl 0 rfl rfl rfl rfl hlz rfl (Nat.le_of_ble_eq_true rfl) dL_law_1529 hR.room (fun r w H locs hw hPD hS => ?_)
  refine And.elim (fun et_0 hw => ?_) hw
  subst hw
  obtain ⟨hP, hD⟩ := hPD (wB V y pp ff gg o10 o11) rfl rfl
  rw [← as3] at hP hD
  exact kk r H locs (cells + 0) (slots + 0) pp ff gg _ ⟨o10, o11, rest, hp, ht_y1, ht_y20, ht_y27, ht_y28, ht_y32, hR, rfl⟩ ⟨(fun _ _ => rfl), (fun _ _ => rfl), (fun _ _ => rfl), et_0, hK9⟩ hP hD hS
set_option maxHeartbeats 4000000 in
set_option maxRecDepth 100000 in
theorem cx_43 {p : Program} {e : Env} {s : State} {m : MethodId} {below : List Frame} {meth : Method} {c : Code} {l : Launch} {b Lk : Nat} {xs : Nat → Int32} {V : GV} {y : Nat → Nat} {H : Heap} {locs : List Loc} {cells slots : Nat} {wz : va_W} {ls : Array Slot} (G : LCx p s m meth c b Lk xs V) (a1 : Int32) {pp : Nat → Int32} {ff : Nat → Nat → Int32} {gg : Nat → Nat → Int64} {D9 : Nat → Int32} (hL9 : LW D9 (ff 1) (ff 7) (pp 11) (pp 12) (pp 13) (pp 14)) (hK9 : KN D9 (ff 15)) {wx : va_W} (kx : KX V y cells slots pp ff gg wx) (hP : va_P V.1 vwCl (wx ++ wz) H) (hD : va_D (AAs s) (wx ++ wz)) (hS : va_S (AAs s) s.heap H locs) (hlz : ls.size = 4) (kk : (∀ (r : Int32) (H : Heap) (locs : List Loc) (cells slots : Nat) (pp' : Nat → Int32) (ff' : Nat → Nat → Int32) (gg' : Nat → Nat → Int64) (wx : va_W), KX V y cells slots pp' ff' gg' wx → (∀ i ∈ (0 :: 1 :: 2 :: 3 :: 4 :: 5 :: 6 :: 7 :: 10 :: 11 :: 12 :: 13 :: 14 :: 15 :: 16 :: 35 :: 36 :: 37 :: 38 :: 39 :: 40 :: 41 :: 42 :: 43 :: 44 :: 45 :: 46 :: 47 :: 48 :: 49 :: 50 :: 51 :: 54 :: 55 :: 56 :: 57 :: 58 :: 59 :: 60 :: 61 :: 62 :: 63 :: 64 :: 65 :: 66 :: 69 :: 70 :: 71 :: 72 :: 73 :: ([] : List Nat)), pp' i = pp i) ∧ (∀ i ∈ [0, 1, 2, 3, 4, 5, 6, 7, 15, 20, 21, 22, 24, 25, 26, 27, 28, 29, 30, 31, 32, 33, 34, 35, 36, 37], ff' i = ff i) ∧ (∀ i ∈ [0, 1, 2, 3], gg' i = gg i) ∧ (r = (F_k_X9_count_0 a1 (pp 0) (pp 1) (pp 2) (pp 3) (pp 4) (pp 5) (pp 6) (pp 7) (pp 35))) ∧ KN D9 (ff' 15) → va_P V.1 vwCl (wx ++ wz) H → va_D (AAs s) (wx ++ wz) → va_S (AAs s) s.heap H locs → W p l e room_1 s m #[Value.ref b] below meth c H locs cells slots (lw_Z below #[Value.ref b] s) (F0 m 1532 ls [.int r]))) : W p l e room_1 s m #[Value.ref b] below meth c H locs cells slots (lw_Z below #[Value.ref b] s) (F0 m 1529 ls [.int a1, .ref (y 0)]) := by
  obtain ⟨o10, o11, rest, hp, ht_y1, ht_y20, ht_y27, ht_y28, ht_y32, hR, rfl⟩ := kx
  exact cx_43_s G _ hp ht_y1 ht_y20 ht_y27 ht_y28 ht_y32 hL9 hK9 hR hP hD hS hlz kk
