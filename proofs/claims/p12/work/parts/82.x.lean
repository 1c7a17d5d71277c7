theorem zT {l : List (Int × Int)} (h : (l.all fun q => decide (q.1 ≤ 0) && decide (0 ≤ q.2)) = true) : ivT (fun k => l.getD k (-2147483648, 2147483647)) (fun _ => 0) := fun j => by
  have z : (0 : Int32).toInt = 0 := by decide
  have e : l.getD j (-2147483648, 2147483647) = (l[j]?).getD (-2147483648, 2147483647) := List.getD_eq_getElem?_getD
  show (l.getD j (-2147483648, 2147483647)).1 ≤ (0 : Int32).toInt ∧ (0 : Int32).toInt ≤ (l.getD j (-2147483648, 2147483647)).2
  rw [e, z]
  cases hq : l[j]? with
  | none => exact ⟨by decide, by decide⟩
  | some q =>
    have h1 := List.all_eq_true.mp h q (List.mem_of_getElem? hq)
    rw [Bool.and_eq_true, decide_eq_true_eq, decide_eq_true_eq] at h1
    exact h1
def xW (V : GV) (y : Nat → Nat) : va_W := [(y 0, .inr (9, o9_rirrrrrrrrnniii (y 1) 0 (y 2) (y 10) (y 19) (y 25) (y 26) (y 30) (y 31) (y 32) 0 0 0)), (y 1, aB V 900 (fun _ => 0)), (y 2, .inr (1, o1_iiiiiirrrrrrriiiii 0 0 0 0 0 0 (y 3) (y 4) (y 5) (y 6) (y 7) (y 8) (y 9) 0 0 0 0 0)), (y 3, aI V 4 (fun _ => 0)), (y 4, aI V 4 (fun _ => 0)), (y 5, aI V 4 (fun _ => 0)), (y 6, aI V 8 (fun _ => 0)), (y 7, aI V 8 (fun _ => 0)), (y 8, aI V 8 (fun _ => 0)), (y 9, aI V 900 (fun _ => 0)), (y 10, .inr (6, o6_riiriiiii (y 11) 0 (-1) (y 1) 0 0 0 0 0)), (y 11, .inr (1, o1_iiiiiirrrrrrriiiii 0 0 0 0 0 0 (y 12) (y 13) (y 14) (y 15) (y 16) (y 17) (y 18) 0 0 0 0 0)), (y 12, aI V 4 (fun _ => 0)), (y 13, aI V 4 (fun _ => 0)), (y 14, aI V 4 (fun _ => 0)), (y 15, aI V 8 (fun _ => 0)), (y 16, aI V 8 (fun _ => 0)), (y 17, aI V 8 (fun _ => 0)), (y 18, aI V 900 (fun _ => 0)), (y 19, .inr (4, o4_rrrrrr (y 2) (y 20) (y 21) (y 22) (y 23) (y 24))), (y 20, aI V 2000 (fun _ => 0)), (y 21, aI V 6 (fun _ => 0)), (y 22, aI V 64 (fun _ => 0)), (y 23, aI V 10 (fun _ => 0)), (y 24, aI V 10 (fun _ => 0)), (y 25, .inr (0, [.int 0, .int 0])), (y 26, .inr (5, o5_rrri (y 27) (y 28) (y 29) 0)), (y 27, aI V 10 (fun _ => 0)), (y 28, aI V 10 (fun _ => 0)), (y 29, aI V 10 (fun _ => 0)), (y 30, aT V 4 (va_up (va_up (va_up (va_up (fun _ => none) 0 (some (y 33))) 1 (some (y 35))) 2 (some (y 37))) 3 (some (y 39)))), (y 31, aM V 2 (va_up (va_up (fun _ => none) 0 (some (y 41))) 1 (some (y 50)))), (y 32, aI V 10 (fun _ => 0)), (y 33, .inr (7, o7_rii (y 34) (-1) 0)), (y 34, aJ V 40 (fun _ => 0)), (y 35, .inr (7, o7_rii (y 36) (-1) 0)), (y 36, aJ V 40 (fun _ => 0)), (y 37, .inr (7, o7_rii (y 38) (-1) 0)), (y 38, aJ V 40 (fun _ => 0)), (y 39, .inr (7, o7_rii (y 40) (-1) 0)), (y 40, aJ V 40 (fun _ => 0)), (y 41, .inr (3, o3_riiii (y 42) 0 0 0 0)), (y 42, .inr (1, o1_iiiiiirrrrrrriiiii 0 0 0 0 0 0 (y 43) (y 44) (y 45) (y 46) (y 47) (y 48) (y 49) 0 0 0 0 0)), (y 43, aI V 4 (fun _ => 0)), (y 44, aI V 4 (fun _ => 0)), (y 45, aI V 4 (fun _ => 0)), (y 46, aI V 8 (fun _ => 0)), (y 47, aI V 8 (fun _ => 0)), (y 48, aI V 8 (fun _ => 0)), (y 49, aI V 900 (fun _ => 0)), (y 50, .inr (3, o3_riiii (y 51) 0 0 0 0)), (y 51, .inr (1, o1_iiiiiirrrrrrriiiii 0 0 0 0 0 0 (y 52) (y 53) (y 54) (y 55) (y 56) (y 57) (y 58) 0 0 0 0 0)), (y 52, aI V 4 (fun _ => 0)), (y 53, aI V 4 (fun _ => 0)), (y 54, aI V 4 (fun _ => 0)), (y 55, aI V 8 (fun _ => 0)), (y 56, aI V 8 (fun _ => 0)), (y 57, aI V 8 (fun _ => 0)), (y 58, aI V 900 (fun _ => 0))]
def mW (V : GV) (z : Nat → Nat) : va_W := [(z 0, .inr (10, mo z 0 0 0 0 0 0 0 0 0 0 (-1) 0 0 0 0 0)), (z 2, aZ V 2 (fun _ => 0)), (z 3, aI V 900 (fun _ => 0)), (z 4, aI V 1025 (fun _ => 0)), (z 15, aI V 900 (fun _ => 0)), (z 16, aI V 6 (fun _ => 0)), (z 17, aI V 7 (fun _ => 0)), (z 20, aI V 10001 (fun _ => 0)), (z 21, aI V 10000 (fun _ => 0)), (z 24, aI V 10000 (fun _ => 0)), (z 25, aI V 40000 (fun _ => 0)), (z 26, aI V 10000 (fun _ => 0)), (z 27, aI V 10000 (fun _ => 0)), (z 28, aZ V 10000 (fun _ => 0)), (z 30, aJ V 10000 (fun _ => 0)), (z 31, aJ V 10000 (fun _ => 0)), (z 32, aI V 100 (fun _ => 0)), (z 33, aI V 10 (fun _ => 0)), (z 34, aI V 10 (fun _ => 0)), (z 35, aJ V 90000 (fun _ => 0)), (z 36, aI V 10 (fun _ => 0)), (z 37, aI V 4 (upd (upd (upd (upd (fun _ => 0) 0 (-1)) 1 (-1)) 2 (-1)) 3 (-1))), (z 38, aI V 4 (fun _ => 0)), (z 39, aJ V 160 (fun _ => 0)), (z 1, aI V 3075 (fun _ => 0))]
theorem zX : ivT tX (up9 (up9 (up9 (up9 (up9 (fun _ => 0) 16 (-1)) 36 (-1)) 38 (-1)) 40 (-1)) 42 (-1)) := (ivUp 42 (ivUp 40 (ivUp 38 (ivUp 36 (ivUp 16 (zT (l := [(0, 900), (0, 9999), (0, 9), (-2147483648, 2147483647), (-2147483648, 2147483647), (0, 4), (0, 4), (0, 8), (0, 9999), (0, 9), (0, 900), (0, 900), (0, 900), (0, 900), (0, 900), (-2147483648, 2147483647), (-2147483648, 2147483647), (0, 900), (-2147483648, 2147483647), (0, 900), (0, 900), (0, 999), (-2147483648, 2147483647), (0, 4), (0, 4), (0, 8), (0, 9999), (0, 9), (0, 900), (0, 900), (0, 900), (0, 900), (0, 900), (-2147483648, 2147483647), (-2147483648, 2147483647), (0, 10), (-1, 40), (-2147483648, 2147483647), (-1, 40), (-2147483648, 2147483647), (-1, 40), (-2147483648, 2147483647), (-1, 40), (-2147483648, 2147483647), (0, 9999), (0, 9), (-2147483648, 2147483647), (-2147483648, 2147483647), (-2147483648, 2147483647), (0, 4), (0, 4), (0, 8), (0, 9999), (0, 9), (0, 900), (0, 900), (0, 900), (0, 900), (0, 900), (0, 9999), (0, 9), (-2147483648, 2147483647), (-2147483648, 2147483647), (-2147483648, 2147483647), (0, 4), (0, 4), (0, 8), (0, 9999), (0, 9), (0, 900), (0, 900), (0, 900), (0, 900), (0, 900)]) (by decide)) (iv_c ((-1) : Int32) (by decide))) (iv_c ((-1) : Int32) (by decide))) (iv_c ((-1) : Int32) (by decide))) (iv_c ((-1) : Int32) (by decide))) (iv_c ((-1) : Int32) (by decide)))
theorem zZ : ivT tZ (up9 (fun _ => 0) 14 (-1)) := (ivUp 14 (zT (l := [(-2147483648, 2147483647), (-2147483648, 2147483647), (-2147483648, 2147483647), (-2147483648, 2147483647), (-2147483648, 2147483647), (0, 900), (0, 900), (0, 900), (0, 900), (-2147483648, 2147483647), (0, 999), (0, 4), (0, 900), (0, 4), (-1, 900), (-2147483648, 2147483647), (-2147483648, 2147483647), (-2147483648, 2147483647), (0, 2), (-2147483648, 2147483647), (-2147483648, 2147483647), (-2147483648, 2147483647), (0, 9999), (-2147483648, 2147483647), (-2147483648, 2147483647), (-2147483648, 2147483647), (-2147483648, 2147483647), (-2147483648, 2147483647), (-2147483648, 2147483647), (0, 10000)]) (by decide)) (iv_c ((-1) : Int32) (by decide)))
theorem k0Z (V : GV) (z : Nat → Nat) : KZ V z (up9 (fun _ => 0) 14 (-1)) (up9 (fun _ _ => 0) 18 (upd (upd (upd (upd (fun _ => 0) 0 (-1)) 1 (-1)) 2 (-1)) 3 (-1))) (fun _ _ => 0) (wZ V z (up9 (fun _ => 0) 14 (-1)) (up9 (fun _ _ => 0) 18 (upd (upd (upd (upd (fun _ => 0) 0 (-1)) 1 (-1)) 2 (-1)) 3 (-1))) (fun _ _ => 0)) := ⟨zZ, tA_0, (fun _ => iv_w (iv_c (0 : Int32) (a := 0) (b := 0) (by decide)) (by decide)), tF_0, tW_0, tS_0, (fun _ => iv_w (iv_c (0 : Int32) (a := 0) (b := 0) (by decide)) (by decide)), (fun _ => iv_w (iv_c (0 : Int32) (a := 0) (b := 0) (by decide)) (by decide)), (fun _ => iv_w (iv_c (0 : Int32) (a := 0) (b := 0) (by decide)) (by decide)), (fun _ => iv_w (iv_c (0 : Int32) (a := 0) (b := 0) (by decide)) (by decide)), (fun _ => iv_w (iv_c (0 : Int32) (a := 0) (b := 0) (by decide)) (by decide)), (fun _ => iv_w (iv_c (0 : Int32) (a := 0) (b := 0) (by decide)) (by decide)), (fun _ => iv_w (iv_c (0 : Int32) (a := 0) (b := 0) (by decide)) (by decide)), (fun _ => iv_w (iv_c (0 : Int32) (a := 0) (b := 0) (by decide)) (by decide)), (ivU (ivU (ivU (ivU (fun _ => iv_w (iv_c (0 : Int32) (a := 0) (b := 0) (by decide)) (by decide)) 0 (iv_c (-1 : Int32) (by decide))) 1 (iv_c (-1 : Int32) (by decide))) 2 (iv_c (-1 : Int32) (by decide))) 3 (iv_c (-1 : Int32) (by decide))), (fun _ => iv_w (iv_c (0 : Int32) (a := 0) (b := 0) (by decide)) (by decide)), RW_0, rfl⟩
theorem k0X (V : GV) (y : Nat → Nat) : KX V y 84 223324 (up9 (up9 (up9 (up9 (up9 (fun _ => 0) 16 (-1)) 36 (-1)) 38 (-1)) 40 (-1)) 42 (-1)) (fun _ _ => 0) (fun _ _ => 0) (wB V y (up9 (up9 (up9 (up9 (up9 (fun _ => 0) 16 (-1)) 36 (-1)) 38 (-1)) 40 (-1)) 42 (-1)) (fun _ _ => 0) (fun _ _ => 0) .null .null ++ []) := ⟨.null, .null, [], zX, (fun _ => iv_w (iv_c (0 : Int32) (a := 0) (b := 0) (by decide)) (by decide)), (fun _ => iv_w (iv_c (0 : Int32) (a := 0) (b := 0) (by decide)) (by decide)), (fun _ => iv_w (iv_c (0 : Int32) (a := 0) (b := 0) (by decide)) (by decide)), (fun _ => iv_w (iv_c (0 : Int32) (a := 0) (b := 0) (by decide)) (by decide)), (fun _ => iv_w (iv_c (0 : Int32) (a := 0) (b := 0) (by decide)) (by decide)), Or.inl ⟨rfl, rfl, rfl, Nat.le_of_ble_eq_true rfl, Nat.le_of_ble_eq_true rfl⟩, rfl⟩
theorem SnR_0 : SnR 0 0 0 0 (fun _ => 0) 46 := ⟨fun _ => 0, fun _ => 0, ⟨by decide, fun k => ⟨fun h => absurd h (Nat.not_lt_zero _), fun _ => ⟨rfl, rfl⟩⟩⟩, by unfold SC; decide, fun k h => absurd h (Nat.not_lt_zero _), by decide, rfl, by unfold iv; decide, rfl⟩
theorem PaR_0 : PaR 0 0 (fun _ => 0) (fun _ => 0) (fun _ => 0) (fun _ => 0) := ⟨0, by decide, nI_0.symm, nI_0.symm, fun i h => absurd h (Nat.not_lt_zero _)⟩
theorem BTs_0 : BTs (fun _ => 0) (fun _ => 0) := fun j _ => Or.inl ⟨rfl, (show (0 : Int) ≤ (0 : Int32).toInt from by decide), (show (0 : Int32).toInt ≤ (127 : Int) from by decide)⟩
theorem SR_00 : SR9 (up9 (up9 (up9 (up9 (up9 (fun _ => 0) 16 (-1)) 36 (-1)) 38 (-1)) 40 (-1)) 42 (-1)) (fun _ _ => 0) (fun _ _ => 0) (up9 (fun _ => 0) 14 (-1)) (up9 (fun _ _ => 0) 18 (upd (upd (upd (upd (fun _ => 0) 0 (-1)) 1 (-1)) 2 (-1)) 3 (-1))) (fun _ _ => 0) := ⟨⟨BTs_0, rfl⟩, ⟨rfl, rfl⟩, CoR_0, SnR_0, PaR_0, ⟨Or.inl ⟨rfl, rfl⟩, Or.inl ⟨rfl, rfl⟩, Or.inl ⟨rfl, rfl⟩, Or.inl ⟨rfl, rfl⟩⟩, Or.inl ⟨rfl, rfl⟩, Or.inl ⟨rfl, rfl⟩, KN_0 (fun _ _ => rfl)⟩

theorem q_1_21 : Cond.classLink "BeaconDelayLaw" 7 "BeaconDelay" ∈ gw := gw_1 (i := 21) (by decide +kernel) rfl
theorem dL_law_0 : decode cL_law 0 = .ok (.new 7, 3) := by decide +kernel
theorem dL_law_3 : decode cL_law 3 = .ok (.dup, 1) := by decide +kernel
theorem q_1_25 : Cond.code yX9_init prog_1_method_1_code 2 none ∈ gw := gw_1 (i := 25) (rfl) rfl
theorem q_1_24 : Cond.instanceMethod yX9_init ∈ gw := gw_1 (i := 24) (by decide +kernel) rfl
theorem mt_X9_init : MtI yX9_init cX9_init 2 none 0 := ⟨⟨q_1_25, q_1_1, by decide +kernel, by decide +kernel, by decide +kernel⟩, rfl, q_1_24⟩
theorem q_1_23 : Cond.methodLink "BeaconDelayLaw" 9 yX9_init ∈ gw := gw_1 (i := 23) (by decide +kernel) rfl
theorem dL_law_4 : decode cL_law 4 = .ok (.invokespecial 9, 3) := by decide +kernel
theorem dL_law_7 : decode cL_law 7 = .ok (.astore_n 1, 1) := by decide +kernel
theorem q_5_213 : Cond.classLink "BeaconDelayLaw" 10 "BeaconDelayModel" ∈ gw := gw_5 (i := 213) (by decide +kernel) rfl
theorem dL_law_8 : decode cL_law 8 = .ok (.new 10, 3) := by decide +kernel
theorem dL_law_11 : decode cL_law 11 = .ok (.dup, 1) := by decide +kernel
theorem q_5_217 : Cond.code yX10_init prog_12_method_3_code 1 none ∈ gw := gw_5 (i := 217) (rfl) rfl
theorem q_5_216 : Cond.instanceMethod yX10_init ∈ gw := gw_5 (i := 216) (by decide +kernel) rfl
theorem mt_X10_init : MtI yX10_init cX10_init 1 none 0 := ⟨⟨q_5_217, q_1_9, by decide +kernel, by decide +kernel, by decide +kernel⟩, rfl, q_5_216⟩
theorem q_5_215 : Cond.methodLink "BeaconDelayLaw" 12 yX10_init ∈ gw := gw_5 (i := 215) (by decide +kernel) rfl
theorem dL_law_12 : decode cL_law 12 = .ok (.invokespecial 12, 3) := by decide +kernel
theorem dL_law_15 : decode cL_law 15 = .ok (.astore_n 2, 1) := by decide +kernel
theorem dL_law_16 : decode cL_law 16 = .ok (.iconst 0, 1) := by decide +kernel
theorem dL_law_17 : decode cL_law 17 = .ok (.istore_n 3, 1) := by decide +kernel
set_option maxHeartbeats 4000000 in
set_option maxRecDepth 100000 in
theorem whole_start {p : Program} {e : Env} {s : State} {m : MethodId} {below : List Frame} {meth : Method} {c : Code} (l : Launch) (hflags : l.flags = flags0) {b L : Nat} {xs : Nat → Int32} (hL : L ≤ 3072) (C0 : lw_At p s m meth c b L xs) : W p l e room_1 s m #[Value.ref b] below meth c s.heap [] 0 0 (lw_Z below #[Value.ref b] s) (entryFrame m ([Value.ref b] : List Value).toArray 4) := by
  obtain ⟨hx, hb, hr, hml, hown, hts, hX, hbl, hlocks, hgv⟩ := id C0
  have hg : ∀ w ∈ gw, w.before #[Value.ref b] s = true := fun w h => hts w (gw_lw w h)
  obtain ⟨V, hK, hE⟩ := env_of hts hgv
  have hA : ∀ q : Nat, s.heap.size ≤ q → (AAs s) q := fun _ h => h
  have hbA : ¬ (AAs s) b := Nat.not_le.mpr hbl
  have hS : va_S (AAs s) s.heap s.heap [] := va_S.rf
  have hP : va_P V.1 vwCl [] s.heap := fun k q h => by simp at h
  have hD : va_D (AAs s) [] := ⟨fun i j p q h => by simp at h, fun k q h => by simp at h⟩
  have hl := lv_entry ([.ref b]) (n := 4) (Nat.le_of_ble_eq_true rfl)
  rw [lg_entry_eq]
  generalize (lg_sl ([.ref b]) ++ List.replicate (4 - (lg_sl ([.ref b])).length) Slot.unset).toArray = ls at hl ⊢
  have hl : lv_has ls 4 [(0, .ref b)] := hl
  refine va_new (ci := 9) (fs := [.null, .int 0, .null, .null, .null, .null, .null, .null, .null, .null, .null, .null, .int 0, .int 0, .int 0]) (C := RX9) (T := TX9) (N := 15) hx hb hg inX9 tyX9 tyX9_ok hown (hg _ q_1_21) (hg _ q_1_22) (hg _ q_1_1) hK hP hD hS hA rfl dfX9 (Nat.le_of_ble_eq_true rfl) (Nat.le_of_ble_eq_true rfl) dL_law_0 (fun q0 H hP hD hS => ?_)
  refine W.widen (k := 1) (n := 15) (Nat.le_of_ble_eq_true rfl) (Nat.le_of_ble_eq_true rfl) ?_
  have hP : va_P V.1 vwCl ([(q0, .inr (9, [.null, .int 0, .null, .null, .null, .null, .null, .null, .null, .null, .null, .null, .int 0, .int 0, .int 0]))]) H := hP
  have hD : va_D (AAs s) ([(q0, .inr (9, [.null, .int 0, .null, .null, .null, .null, .null, .null, .null, .null, .null, .null, .int 0, .int 0, .int 0]))]) := hD
  refine lv_dup hx hb dL_law_3 rfl ?_
  refine jnV (wr := []) (rnI (rest := [.ref q0]) ⟨hx, hb, hml, hown, hg⟩ (c_X9_init_0 l V q0) mt_X9_init q_1_23 ⟨Nat.le_of_ble_eq_true rfl, Nat.le_of_ble_eq_true rfl⟩ hK hP hD hS hA hE [0] rfl rfl rfl hl.1 rfl (Nat.le_of_ble_eq_true rfl) dL_law_4 ⟨Nat.le_of_ble_eq_true rfl, Nat.le_of_ble_eq_true rfl⟩) hP hD hS hA [0] [] rfl rfl rfl (by decide) (fun w H locs hw hP hD hS => ?_)
  refine W.widen (k := 59) (n := 7070) (Nat.le_of_ble_eq_true rfl) (Nat.le_of_ble_eq_true rfl) ?_
  obtain ⟨y, ew, eq0⟩ : ∃ y : Nat → Nat, w = xW V y ∧ q0 = y 0 := by
    obtain ⟨q_1, q_2, q_3, q_4, q_5, q_6, q_7, q_8, q_9, q_10, q_11, q_12, q_13, q_14, q_15, q_16, q_17, q_18, q_19, q_20, q_21, q_22, q_23, q_24, q_25, q_26, q_27, q_28, q_29, q_30, q_31, q_32, q_34, q_35, q_37, q_38, q_40, q_41, q_43, q_44, q_47, q_48, q_49, q_50, q_51, q_52, q_53, q_54, q_55, q_57, q_58, q_59, q_60, q_61, q_62, q_63, q_64, q_65, ew⟩ := hw
    exact ⟨fun k => [q0, q_1, q_2, q_3, q_4, q_5, q_6, q_7, q_8, q_9, q_10, q_11, q_12, q_13, q_14, q_15, q_16, q_17, q_18, q_19, q_20, q_21, q_22, q_23, q_24, q_25, q_26, q_27, q_28, q_29, q_30, q_31, q_32, q_34, q_35, q_37, q_38, q_40, q_41, q_43, q_44, q_47, q_48, q_49, q_50, q_51, q_52, q_53, q_54, q_55, q_57, q_58, q_59, q_60, q_61, q_62, q_63, q_64, q_65].getD k 0, ew, rfl⟩
  subst ew
  rw [eq0]
  refine lv_astore_n (lv' := [(1, .ref (y 0)), (0, .ref b)]) hx hb dL_law_7 rfl hl (by decide) rfl (fun ls hl => ?_)
  have hP : va_P V.1 vwCl (xW V y) H := hP
  have hD : va_D (AAs s) (xW V y) := hD
  refine va_new (ci := 10) (fs := [.int 0, .null, .null, .null, .null, .int 0, .int 0, .int 0, .int 0, .int 0, .int 0, .int 0, .int 0, .int 0, .int 0, .null, .null, .null, .int 0, .int 0, .null, .null, .int 0, .int 0, .null, .null, .null, .null, .null, .int 0, .null, .null, .null, .null, .null, .null, .null, .null, .null, .null]) (C := RX10) (T := TX10) (N := 40) hx hb hg inX10 tyX10 tyX10_ok hown (hg _ q_5_213) (hg _ q_5_214) (hg _ q_1_9) hK hP hD hS hA rfl dfX10 (Nat.le_of_ble_eq_true rfl) (Nat.le_of_ble_eq_true rfl) dL_law_8 (fun q1 H hP hD hS => ?_)
  refine W.widen (k := 60) (n := 7110) (Nat.le_of_ble_eq_true rfl) (Nat.le_of_ble_eq_true rfl) ?_
  have hP : va_P V.1 vwCl (xW V y ++ [(q1, .inr (10, [.int 0, .null, .null, .null, .null, .int 0, .int 0, .int 0, .int 0, .int 0, .int 0, .int 0, .int 0, .int 0, .int 0, .null, .null, .null, .int 0, .int 0, .null, .null, .int 0, .int 0, .null, .null, .null, .null, .null, .int 0, .null, .null, .null, .null, .null, .null, .null, .null, .null, .null]))]) H := hP
  have hD : va_D (AAs s) (xW V y ++ [(q1, .inr (10, [.int 0, .null, .null, .null, .null, .int 0, .int 0, .int 0, .int 0, .int 0, .int 0, .int 0, .int 0, .int 0, .int 0, .null, .null, .null, .int 0, .int 0, .null, .null, .int 0, .int 0, .null, .null, .null, .null, .null, .int 0, .null, .null, .null, .null, .null, .null, .null, .null, .null, .null]))]) := hD
  refine lv_dup hx hb dL_law_11 rfl ?_
  refine jnV (wr := xW V y) (rnI (rest := [.ref q1]) ⟨hx, hb, hml, hown, hg⟩ (c_X10_init_0 l V q1) mt_X10_init q_5_215 ⟨Nat.le_of_ble_eq_true rfl, Nat.le_of_ble_eq_true rfl⟩ hK hP hD hS hA hE [59] rfl rfl rfl hl.1 rfl (Nat.le_of_ble_eq_true rfl) dL_law_12 ⟨Nat.le_of_ble_eq_true rfl, Nat.le_of_ble_eq_true rfl⟩) hP hD hS hA [59] [0, 1, 2, 3, 4, 5, 6, 7, 8, 9, 10, 11, 12, 13, 14, 15, 16, 17, 18, 19, 20, 21, 22, 23, 24, 25, 26, 27, 28, 29, 30, 31, 32, 33, 34, 35, 36, 37, 38, 39, 40, 41, 42, 43, 44, 45, 46, 47, 48, 49, 50, 51, 52, 53, 54, 55, 56, 57, 58] rfl rfl rfl (by decide) (fun w H locs hw hP hD hS => ?_)
  refine W.widen (k := 84) (n := 223324) (Nat.le_of_ble_eq_true rfl) (Nat.le_of_ble_eq_true rfl) ?_
  obtain ⟨z, ew, eq0⟩ : ∃ z : Nat → Nat, w = mW V z ∧ q1 = z 0 := by
    obtain ⟨q_1, q_2, q_3, q_4, q_5, q_6, q_7, q_8, q_9, q_10, q_11, q_12, q_13, q_14, q_15, q_16, q_17, q_18, q_19, q_20, q_21, q_22, q_23, q_24, ew⟩ := hw
    exact ⟨fun k => [q1, q_1, q_2, q_3, q_4, 0, 0, 0, 0, 0, 0, 0, 0, 0, 0, q_5, q_6, q_7, 0, 0, q_8, q_9, 0, 0, q_10, q_11, q_12, q_13, q_14, 0, q_15, q_16, q_17, q_18, q_19, q_20, q_21, q_22, q_23, q_24].getD k 0, ew, rfl⟩
  subst ew
  rw [eq0]
  refine lv_astore_n (lv' := [(2, .ref (z 0)), (1, .ref (y 0)), (0, .ref b)]) hx hb dL_law_15 rfl hl (by decide) rfl (fun ls hl => ?_)
  refine lv_iconst (v := 0) hx hb dL_law_16 (by decide) ?_
  refine lv_istore_n (lv' := [(3, .int 0), (2, .ref (z 0)), (1, .ref (y 0)), (0, .ref b)]) hx hb dL_law_17 rfl hl (by decide) rfl (fun ls hl => ?_)
  have hP : va_P V.1 vwCl ((wB V y (up9 (up9 (up9 (up9 (up9 (fun _ => 0) 16 (-1)) 36 (-1)) 38 (-1)) 40 (-1)) 42 (-1)) (fun _ _ => 0) (fun _ _ => 0) .null .null ++ []) ++ mW V z) H := hP
  have hD : va_D (AAs s) ((wB V y (up9 (up9 (up9 (up9 (up9 (fun _ => 0) 16 (-1)) 36 (-1)) 38 (-1)) 40 (-1)) 42 (-1)) (fun _ _ => 0) (fun _ _ => 0) .null .null ++ []) ++ mW V z) := hD
  have hP := swP (ptP (ws' := wZ V z (up9 (fun _ => 0) 14 (-1)) (up9 (fun _ _ => 0) 18 (upd (upd (upd (upd (fun _ => 0) 0 (-1)) 1 (-1)) 2 (-1)) 3 (-1))) (fun _ _ => 0)) (swP hP) [0, 24, 1, 2, 3, 4, 5, 6, 7, 8, 9, 10, 11, 12, 13, 14, 15, 16, 17, 18, 19, 20, 21, 22, 23] rfl)
  have hD := swD ((swD hD).part (cx := wZ V z (up9 (fun _ => 0) 14 (-1)) (up9 (fun _ _ => 0) 18 (upd (upd (upd (upd (fun _ => 0) 0 (-1)) 1 (-1)) 2 (-1)) 3 (-1))) (fun _ _ => 0)) [0, 24, 1, 2, 3, 4, 5, 6, 7, 8, 9, 10, 11, 12, 13, 14, 15, 16, 17, 18, 19, 20, 21, 22, 23] (by decide +kernel) rfl)
  exact law_loop ⟨C0, hg, hK, hE⟩ hL (L + 6) 0 (by omega) (by omega) ⟨_, _, _, _, _, _, k0X V y, k0Z V z, SR_00⟩ hP hD hS (lv_sub hl [3, 2, 1, 0] rfl)
-- ===== YOUR PART ENDS =====
set_option maxHeartbeats 4000000 in
theorem lw_walk (l : Launch) (hflags : l.flags = flags0) (b : Addr) (xs : List Int32) : MetFree l x (headSpec (Jvm.Cond.code x code maxLocals ret :: tables_1) room_1) (lw_P b xs) (fun _ _ _ _ _ => True) lw_Q := by
  refine MetFree.of_bodyS (code := code) (maxLocals := maxLocals) (ret := ret) (by decide) ?_ ?_
  · intro args s m h hn
    obtain ⟨meth, c, h1, h2, h3, h4, h5, h6, -, -⟩ := Cond.code_spec hn (atoms_spec (ws := Jvm.Cond.code x code maxLocals ret :: tables_1) h _ List.mem_cons_self)
    exact ⟨meth, c, h1, h2, h3, h4, h5, h6⟩
  · intro p e s m args below meth c s₁ B hml0 hP _
    obtain ⟨rfl, hx, hbd, hgv⟩ := hP
    obtain ⟨scr, harrAt, hlist, hof, hsmall⟩ := hx
    obtain ⟨hcb, hkn, -, -⟩ := State.arrayAt?_spec harrAt
    have hown : s.vm.findClass R_law = some m.cls := findClass_of_methodNamed B.named
    have hts0 : ∀ c ∈ (Jvm.Cond.code x code maxLocals ret :: tables_1), c.before #[Value.ref b] s = true := atoms_spec (ws := Jvm.Cond.code x code maxLocals ret :: tables_1) B.pre
    have hts : ∀ w ∈ lw_tbl, w.before #[Value.ref b] s = true := k2_hts_sels lw_privs (fun w hw => hts0 w (List.mem_cons_of_mem _ hw)) lw_privs_ok
    have hml : c.maxLocals = 4 := B.maxLocals_eq (hts0 _ List.mem_cons_self)
    have X₀ : Stand p l e room_1 s m #[Value.ref b] below meth c s₁ [] 0 0 := Stand.of_body B
    have hh0 : s₁.heap = s.heap := by rw [B.state]; rfl
    have hsz : scr.slots.size = xs.length := by rw [← Array.length_toList, hlist, List.length_map]
    have hval : ∀ j : Nat, j < xs.length → scr.slots[j]? = some (.int (xs.getD j 0)) := fun j hj => by
      rw [← Array.getElem?_toList, hlist]
      simp [hj]
    have hbl : b < s.heap.size := (Array.getElem?_eq_some_iff.mp hcb).1
    have hX : va_X b xs.length (fun j => xs.getD j 0) s s.heap := ⟨scr, hcb, hof, hkn, hsz, hval⟩
    have K : W p l e room_1 s m #[Value.ref b] below meth c s₁.heap [] 0 0 (lw_Z below #[Value.ref b] s) (entryFrame m ([Value.ref b] : List Value).toArray 4) := by
      rw [hh0]
      exact whole_start l hflags hbd ⟨B.exec, B.bytes, B.returns, hml, hown, hts, hX, hbl, B.notSynchronized, hgv⟩
    obtain ⟨t, a1, o, b1, b2, b3⟩ := K s₁ rfl X₀
    exact ⟨t, o, a1, b1, b2, b3⟩
theorem lw_pre_spec {args : Array Value} {s : State} (h : (Jvm.Cond.and given_1 narrow_1).before args s = true) (hr : rest_1_c.before args s = true) : ∃ (b : Addr) (xs : List Int32), lw_P b xs args s := by
  have hs := flat_of_before _ h
  have hq := flat_of_before _ hr
  have hc : (Cond.count 1).before args s = true := hs _ (by decide +kernel)
  have harr : (Cond.arrayOf (.arg 0) .int).before args s = true := hs _ (by decide +kernel)
  have hle : (Cond.le (.length (.arg 0)) (.int 3072)).before args s = true := hs _ (by decide +kernel)
  have hlen : (Cond.isInt (.length (.arg 0))).before args s = true := hq _ (by decide +kernel)
  have hall : (Cond.all (.arg 0) (.isInt (.elem (.arg 0) (.index 0)))).before args s = true := hq _ (by decide +kernel)
  obtain ⟨b, xs, hb, hx⟩ := State.ints_of_pre rfl harr hlen hall
  have hsm : xs.length < 2 ^ 31 := hx.choose_spec.2.2.2
  have hev : (Term.length (.arg 0)).eval args s none [] s = some (.int xs.length.toInt32) := hx.length_eval hb
  have hv := Cond.le_ints hev (show (Term.int 3072).eval args s none [] s = some (.int 3072) from rfl)
  have hd : xs.length.toInt32 ≤ 3072 := by
    simpa [Cond.before, Cond.holds, hv] using hle
  have hN : xs.length ≤ 3072 := (Int32.ofNat_le_ofNat hsm (by decide)).mp (show Int32.ofNat xs.length ≤ Int32.ofNat 3072 from hd)
  exact ⟨b, xs, Cond.one_arg hc (show args[0]? = some (.ref b) from hb), hx, hN, h⟩
theorem lw_comes (l : Launch) (hflags : l.flags = flags0) : Comes l x (Jvm.Cond.code x code maxLocals ret :: tables_1) room_1 (fun tb e args s => Calls_1 tb e args s ∧ rest_1 tb e args s ∧ Pre_1 tb e args s)
    (fun _ _ args s o t => lw_Q args s o t) := by
  intro p e ha hc hk s m args below hf hfit hheap happ hpre
  obtain ⟨b, xs, hP⟩ := lw_pre_spec hpre.2.2 hpre.2.1
  obtain ⟨k, o, h1, h2, h3, hQ⟩ := lw_walk l hflags b xs p e ha hc hk s m args below hf ((Spec.applies_iff_loose hf).mp happ).1 hP trivial
  exact ⟨k, o, h1, h2, h3, hQ⟩
theorem lw_frame {s t : State} {o : Outcome} {args : Array Value} (h : Framed s o t [] 600000 7302250) :
    Framed s o t (fieldLocs frame_1_writes args s ++ arrayLocs frame_1_arrays args s ++ staticLocs frame_1_statics s) 600000 7302250 := h
theorem lw_limb (L : Cond) (hL : ∀ (args : Array Value) (s t : State), L.after args s (.returned (some (.int 1))) t = true) :
    ArmFor flags0 classFile x code maxLocals ret World_1 tables_1 room_1 Calls_1 rest_1 Pre_1
      (fun tb e a s o t => postC L tb e a s o t ∧ Framed s o t (fieldLocs frame_1_writes a s ++ arrayLocs frame_1_arrays a s ++ staticLocs frame_1_statics s) 600000 7302250) := by
  intro l hflags _ _ p e ha hc hk s m args below hf hfit hheap happ hpre
  obtain ⟨k, o, h1, h2, h3, rfl, hF⟩ := lw_comes l hflags p e ha hc hk s m args below hf hfit hheap happ hpre
  exact ⟨k, _, h1, h2, h3, hL args s _, lw_frame hF⟩
theorem i_vc : Claimed_1_1 ∧ Claimed_1_2 := ⟨lw_limb limb_1_1 (fun args s t => by simp [limb_1_1, Cond.after, Cond.holds, Cond.value]), lw_limb limb_1_2 (fun args s t => Cond.after_iff.mpr (by
  first | (rw [show limb_1_2 = Cond.eq .result (.int 1) from rfl, Cond.eq_ints (x := 1) (y := 1) rfl rfl]; simp; done) | (simp [limb_1_2, Cond.value, Term.eval]; done)))⟩

