def xW (V : GV) (y : Nat → Nat) : va_W := [(y 0, .inr (9, [.ref (y 1), .int 0, .ref (y 2), .ref (y 10), .ref (y 19), .ref (y 25), .ref (y 26), .ref (y 30), .ref (y 31), .ref (y 32), .null, .null, .int 0, .int 0, .int 0])), (y 1, aB V 900 (fun _ => 0)), (y 2, .inr (1, [.int 0, .int 0, .int 0, .int 0, .int 0, .int 0, .ref (y 3), .ref (y 4), .ref (y 5), .ref (y 6), .ref (y 7), .ref (y 8), .ref (y 9), .int 0, .int 0, .int 0, .int 0, .int 0])), (y 3, aI V 4 (fun _ => 0)), (y 4, aI V 4 (fun _ => 0)), (y 5, aI V 4 (fun _ => 0)), (y 6, aI V 8 (fun _ => 0)), (y 7, aI V 8 (fun _ => 0)), (y 8, aI V 8 (fun _ => 0)), (y 9, aI V 900 (fun _ => 0)), (y 10, .inr (6, [.ref (y 11), .int 0, .int (-1), .ref (y 1), .int 0, .int 0, .int 0, .int 0, .int 0])), (y 11, .inr (1, [.int 0, .int 0, .int 0, .int 0, .int 0, .int 0, .ref (y 12), .ref (y 13), .ref (y 14), .ref (y 15), .ref (y 16), .ref (y 17), .ref (y 18), .int 0, .int 0, .int 0, .int 0, .int 0])), (y 12, aI V 4 (fun _ => 0)), (y 13, aI V 4 (fun _ => 0)), (y 14, aI V 4 (fun _ => 0)), (y 15, aI V 8 (fun _ => 0)), (y 16, aI V 8 (fun _ => 0)), (y 17, aI V 8 (fun _ => 0)), (y 18, aI V 900 (fun _ => 0)), (y 19, .inr (4, [.ref (y 2), .ref (y 20), .ref (y 21), .ref (y 22), .ref (y 23), .ref (y 24)])), (y 20, aI V 2000 (fun _ => 0)), (y 21, aI V 6 (fun _ => 0)), (y 22, aI V 64 (fun _ => 0)), (y 23, aI V 10 (fun _ => 0)), (y 24, aI V 10 (fun _ => 0)), (y 25, .inr (0, [.int 0, .int 0])), (y 26, .inr (5, [.ref (y 27), .ref (y 28), .ref (y 29), .int 0])), (y 27, aI V 10 (fun _ => 0)), (y 28, aI V 10 (fun _ => 0)), (y 29, aI V 10 (fun _ => 0)), (y 30, aT V 4 (va_up (va_up (va_up (va_up (fun _ => none) 0 (some (y 33))) 1 (some (y 35))) 2 (some (y 37))) 3 (some (y 39)))), (y 31, aM V 2 (va_up (va_up (fun _ => none) 0 (some (y 41))) 1 (some (y 50)))), (y 32, aI V 10 (fun _ => 0)), (y 33, .inr (7, [.ref (y 34), .int (-1), .int 0])), (y 34, aJ V 40 (fun _ => 0)), (y 35, .inr (7, [.ref (y 36), .int (-1), .int 0])), (y 36, aJ V 40 (fun _ => 0)), (y 37, .inr (7, [.ref (y 38), .int (-1), .int 0])), (y 38, aJ V 40 (fun _ => 0)), (y 39, .inr (7, [.ref (y 40), .int (-1), .int 0])), (y 40, aJ V 40 (fun _ => 0)), (y 41, .inr (3, [.ref (y 42), .int 0, .int 0, .int 0, .int 0])), (y 42, .inr (1, [.int 0, .int 0, .int 0, .int 0, .int 0, .int 0, .ref (y 43), .ref (y 44), .ref (y 45), .ref (y 46), .ref (y 47), .ref (y 48), .ref (y 49), .int 0, .int 0, .int 0, .int 0, .int 0])), (y 43, aI V 4 (fun _ => 0)), (y 44, aI V 4 (fun _ => 0)), (y 45, aI V 4 (fun _ => 0)), (y 46, aI V 8 (fun _ => 0)), (y 47, aI V 8 (fun _ => 0)), (y 48, aI V 8 (fun _ => 0)), (y 49, aI V 900 (fun _ => 0)), (y 50, .inr (3, [.ref (y 51), .int 0, .int 0, .int 0, .int 0])), (y 51, .inr (1, [.int 0, .int 0, .int 0, .int 0, .int 0, .int 0, .ref (y 52), .ref (y 53), .ref (y 54), .ref (y 55), .ref (y 56), .ref (y 57), .ref (y 58), .int 0, .int 0, .int 0, .int 0, .int 0])), (y 52, aI V 4 (fun _ => 0)), (y 53, aI V 4 (fun _ => 0)), (y 54, aI V 4 (fun _ => 0)), (y 55, aI V 8 (fun _ => 0)), (y 56, aI V 8 (fun _ => 0)), (y 57, aI V 8 (fun _ => 0)), (y 58, aI V 900 (fun _ => 0))]
def mW (V : GV) (z : Nat → Nat) : va_W := [(z 0, .inr (10, mo z 0 0 0 0 0 0 0 0 0 0 (-1) 0 0 0 0 0)), (z 2, aZ V 2 (fun _ => 0)), (z 3, aI V 900 (fun _ => 0)), (z 4, aI V 1025 (fun _ => 0)), (z 15, aI V 900 (fun _ => 0)), (z 16, aI V 6 (fun _ => 0)), (z 17, aI V 7 (fun _ => 0)), (z 20, aI V 10001 (fun _ => 0)), (z 21, aI V 10000 (fun _ => 0)), (z 24, aI V 10000 (fun _ => 0)), (z 25, aI V 40000 (fun _ => 0)), (z 26, aI V 10000 (fun _ => 0)), (z 27, aI V 10000 (fun _ => 0)), (z 28, aZ V 10000 (fun _ => 0)), (z 30, aJ V 10000 (fun _ => 0)), (z 31, aJ V 10000 (fun _ => 0)), (z 32, aI V 100 (fun _ => 0)), (z 33, aI V 10 (fun _ => 0)), (z 34, aI V 10 (fun _ => 0)), (z 35, aJ V 90000 (fun _ => 0)), (z 36, aI V 10 (fun _ => 0)), (z 37, aI V 4 (upd (upd (upd (upd (fun _ => 0) 0 (-1)) 1 (-1)) 2 (-1)) 3 (-1))), (z 38, aI V 4 (fun _ => 0)), (z 39, aJ V 160 (fun _ => 0)), (z 1, aI V 3075 (fun _ => 0))]

theorem tb_1 {i : Nat} {w : Cond} (h : tables_1_1[i]? = some w) : w ∈ lw_tbl := List.mem_append_right _ (List.mem_append_left _ (List.mem_of_getElem? h))
theorem tb_2 {i : Nat} {w : Cond} (h : tables_1_2[i]? = some w) : w ∈ lw_tbl := List.mem_append_right _ (List.mem_append_right _ (List.mem_append_left _ (List.mem_of_getElem? h)))
theorem tb_3 {i : Nat} {w : Cond} (h : tables_1_3[i]? = some w) : w ∈ lw_tbl := List.mem_append_right _ (List.mem_append_right _ (List.mem_append_right _ (List.mem_append_left _ (List.mem_of_getElem? h))))
theorem tb_4 {i : Nat} {w : Cond} (h : tables_1_4[i]? = some w) : w ∈ lw_tbl := List.mem_append_right _ (List.mem_append_right _ (List.mem_append_right _ (List.mem_append_right _ (List.mem_append_left _ (List.mem_of_getElem? h)))))
theorem tb_5 {i : Nat} {w : Cond} (h : tables_1_5[i]? = some w) : w ∈ lw_tbl := List.mem_append_right _ (List.mem_append_right _ (List.mem_append_right _ (List.mem_append_right _ (List.mem_append_right _ (List.mem_append_left _ (List.mem_of_getElem? h))))))
theorem tb_6 {i : Nat} {w : Cond} (h : tables_1_6[i]? = some w) : w ∈ lw_tbl := List.mem_append_right _ (List.mem_append_right _ (List.mem_append_right _ (List.mem_append_right _ (List.mem_append_right _ (List.mem_append_right _ (List.mem_append_left _ (List.mem_of_getElem? h)))))))
theorem tb_7 {i : Nat} {w : Cond} (h : tables_1_7[i]? = some w) : w ∈ lw_tbl := List.mem_append_right _ (List.mem_append_right _ (List.mem_append_right _ (List.mem_append_right _ (List.mem_append_right _ (List.mem_append_right _ (List.mem_append_right _ (List.mem_append_left _ (List.mem_of_getElem? h))))))))
theorem tb_8 {i : Nat} {w : Cond} (h : tables_1_8[i]? = some w) : w ∈ lw_tbl := List.mem_append_right _ (List.mem_append_right _ (List.mem_append_right _ (List.mem_append_right _ (List.mem_append_right _ (List.mem_append_right _ (List.mem_append_right _ (List.mem_append_right _ ((List.mem_of_getElem? h)))))))))

theorem takeP {D : va_G} {cl : List vw_C} {a b : va_W} {H : Heap} (h : va_P D cl (a ++ b) H) : va_P D cl a H := fun k q hk => h k q (by rw [List.getElem?_append_left (List.getElem?_eq_some_iff.mp hk).1]; exact hk)
theorem takeD {A : Nat → Prop} {a b : va_W} (h : va_D A (a ++ b)) : va_D A a := ⟨fun i j p q hi hj e => h.1 i j p q (by rw [List.getElem?_append_left (List.getElem?_eq_some_iff.mp hi).1]; exact hi) (by rw [List.getElem?_append_left (List.getElem?_eq_some_iff.mp hj).1]; exact hj) e, fun k q hk => h.2 k q (by rw [List.getElem?_append_left (List.getElem?_eq_some_iff.mp hk).1]; exact hk)⟩

theorem q_5_95 : Cond.instantiable "BeaconDelay$Forcing" 7 ∈ gw := gw_5 (i := 95) (by decide +kernel) rfl
theorem q_1_22 : Cond.instantiable "BeaconDelay" 15 ∈ gw := gw_1 (i := 22) (by decide +kernel) rfl
theorem q_5_214 : Cond.instantiable "BeaconDelayModel" 40 ∈ gw := gw_5 (i := 214) (by decide +kernel) rfl
set_option maxHeartbeats 4000000 in
set_option maxRecDepth 100000 in
theorem env_of {s : State} {b : Nat} (hts : ∀ w ∈ lw_tbl, w.before #[Value.ref b] s = true) (hgv : (Jvm.Cond.and given_1 narrow_1).before #[Value.ref b] s = true) : ∃ V : GV, va_K V.1 vwCl (tyV V) s ∧ En V (fun q : Nat => s.heap.size ≤ q) s s.heap := by
  have hg : ∀ w ∈ gw, w.before #[Value.ref b] s = true := fun w h => hts w (gw_lw w h)
  have hs := flat_of_before _ hgv
  have hA : ∀ a : Nat, a < s.heap.size → ¬ (fun q : Nat => s.heap.size ≤ q) a := fun a h => Nat.not_le.mpr h
  obtain ⟨c0, i0, k0⟩ := u_known (C := RX0) (T := TX0) (N := 2) (n := 2) hg inX0 (hg _ q_1_191)
  obtain ⟨c1, i1, k1⟩ := u_known (C := RX1) (T := TX1) (N := 18) (n := 18) hg inX1 (hg _ q_1_30)
  obtain ⟨c2, i2, k2⟩ := u_known (C := RX2) (T := TX2) (N := 7) (n := 7) hg inX2 (hg _ q_5_95)
  obtain ⟨c3, i3, k3⟩ := u_known (C := RX3) (T := TX3) (N := 5) (n := 5) hg inX3 (hg _ q_2_12)
  obtain ⟨c4, i4, k4⟩ := u_known (C := RX4) (T := TX4) (N := 6) (n := 6) hg inX4 (hg _ q_1_166)
  obtain ⟨c5, i5, k5⟩ := u_known (C := RX5) (T := TX5) (N := 4) (n := 4) hg inX5 (hg _ q_1_206)
  obtain ⟨c6, i6, k6⟩ := u_known (C := RX6) (T := TX6) (N := 9) (n := 9) hg inX6 (hg _ q_1_127)
  obtain ⟨c7, i7, k7⟩ := u_known (C := RX7) (T := TX7) (N := 3) (n := 3) hg inX7 (hg _ q_1_232)
  obtain ⟨c8, i8, k8⟩ := u_known (C := RX8) (T := TX8) (N := 17) (n := 17) hg inX8 (hg _ q_4_57)
  obtain ⟨c9, i9, k9⟩ := u_known (C := RX9) (T := TX9) (N := 15) (n := 15) hg inX9 (hg _ q_1_22)
  obtain ⟨c10, i10, k10⟩ := u_known (C := RX10) (T := TX10) (N := 40) (n := 40) hg inX10 (hg _ q_5_214)
  obtain ⟨dC, dI, hKc⟩ : ∃ (dC : Nat → ClassId) (dI : Nat → Nat → Nat), ∀ (k : Nat) (q : vw_C), vwCl[k]? = some q → u_Kn s q.1 q.2.1 q.2.2 (dC k) (dI k) := by
    refine ⟨fun k => [c0, c1, c2, c3, c4, c5, c6, c7, c8, c9, c10].getD k c0, fun k => [i0, i1, i2, i3, i4, i5, i6, i7, i8, i9, i10].getD k i0, ?_⟩
    intro k q hq
    match k, hq with
    | 0, hq => cases hq; exact k0
    | 1, hq => cases hq; exact k1
    | 2, hq => cases hq; exact k2
    | 3, hq => cases hq; exact k3
    | 4, hq => cases hq; exact k4
    | 5, hq => cases hq; exact k5
    | 6, hq => cases hq; exact k6
    | 7, hq => cases hq; exact k7
    | 8, hq => cases hq; exact k8
    | 9, hq => cases hq; exact k9
    | 10, hq => cases hq; exact k10
    | k + 11, hq => simp [vwCl] at hq
  obtain ⟨cI, kI, pI, aI1, aI2, aI3⟩ := Cond.arrayClass_spec (hg _ q_1_125)
  obtain ⟨cB, kB, pB, aB1, aB2, aB3⟩ := Cond.arrayClass_spec (hg _ q_1_124)
  obtain ⟨cJ, kJ, pJ, aJ1, aJ2, aJ3⟩ := Cond.arrayClass_spec (hg _ q_2_11)
  obtain ⟨cZ, kZ, pZ, aZ1, aZ2, aZ3⟩ := Cond.arrayClass_spec (hg _ q_6_105)
  have hT := (hts (Cond.arrayOver (FieldType.object "BeaconDelay$Tray")) (tb_1 (i := 229) (by decide +kernel)))
  obtain ⟨pT, cT, kT, tT1, tT2, tT3, tT4, tT5⟩ := Cond.arrayOver_spec hT
  have hM := (hts (Cond.arrayOver (FieldType.object "BeaconDelay$Image")) (tb_1 (i := 231) (by decide +kernel)))
  obtain ⟨pM, cM, kM, tM1, tM2, tM3, tM4, tM5⟩ := Cond.arrayOver_spec hM
  obtain ⟨tp, etp, htp⟩ := va_Tof (tm := (.static "BeaconDelay" "POWER" "[I")) (ty := .int) (N := 5) (f := fun j => .int (pw j)) (A := fun q : Nat => s.heap.size ≤ q) (by decide) (hs (Cond.arrayOf (.static "BeaconDelay" "POWER" "[I") .int) (by decide +kernel)) (va_eqt (hs (Cond.eq (.length (.static "BeaconDelay" "POWER" "[I")) (.int 5)) (by decide +kernel))) (fun j hj => match j, hj with | 0, _ => va_eqt (hs (Cond.eq (.elem (.static "BeaconDelay" "POWER" "[I") (.int 0)) (.int 1)) (by decide +kernel)) | 1, _ => va_eqt (hs (Cond.eq (.elem (.static "BeaconDelay" "POWER" "[I") (.int 1)) (.int 10)) (by decide +kernel)) | 2, _ => va_eqt (hs (Cond.eq (.elem (.static "BeaconDelay" "POWER" "[I") (.int 2)) (.int 100)) (by decide +kernel)) | 3, _ => va_eqt (hs (Cond.eq (.elem (.static "BeaconDelay" "POWER" "[I") (.int 3)) (.int 1000)) (by decide +kernel)) | 4, _ => va_eqt (hs (Cond.eq (.elem (.static "BeaconDelay" "POWER" "[I") (.int 4)) (.int 10000)) (by decide +kernel)) | n + 5, h => absurd h (by omega)) hA
  obtain ⟨tm, etm, htm⟩ := va_Tof (tm := (.static "BeaconDelay" "MOST_MET" "[I")) (ty := .int) (N := 5) (f := fun j => .int (mmt j)) (A := fun q : Nat => s.heap.size ≤ q) (by decide) (hs (Cond.arrayOf (.static "BeaconDelay" "MOST_MET" "[I") .int) (by decide +kernel)) (va_eqt (hs (Cond.eq (.length (.static "BeaconDelay" "MOST_MET" "[I")) (.int 5)) (by decide +kernel))) (fun j hj => match j, hj with | 0, _ => va_eqt (hs (Cond.eq (.elem (.static "BeaconDelay" "MOST_MET" "[I") (.int 0)) (.int 1)) (by decide +kernel)) | 1, _ => va_eqt (hs (Cond.eq (.elem (.static "BeaconDelay" "MOST_MET" "[I") (.int 1)) (.int 6)) (by decide +kernel)) | 2, _ => va_eqt (hs (Cond.eq (.elem (.static "BeaconDelay" "MOST_MET" "[I") (.int 2)) (.int 46)) (by decide +kernel)) | 3, _ => va_eqt (hs (Cond.eq (.elem (.static "BeaconDelay" "MOST_MET" "[I") (.int 3)) (.int 406)) (by decide +kernel)) | 4, _ => va_eqt (hs (Cond.eq (.elem (.static "BeaconDelay" "MOST_MET" "[I") (.int 4)) (.int 3646)) (by decide +kernel)) | n + 5, h => absurd h (by omega)) hA
  obtain ⟨s53, -, -, -, hs53, -⟩ := Cond.exactly_spec (args := #[Value.ref b]) (first := s) (o := none) (s := s) (idx := []) (t := .string "BeaconDelay$Reader" 53) (cls := "java/lang/String") (hs (Cond.exactly (.string "BeaconDelay$Reader" 53) "java/lang/String") (by decide +kernel))
  obtain ⟨s59, -, -, -, hs59, -⟩ := Cond.exactly_spec (args := #[Value.ref b]) (first := s) (o := none) (s := s) (idx := []) (t := .string "BeaconDelay$Reader" 59) (cls := "java/lang/String") (hs (Cond.exactly (.string "BeaconDelay$Reader" 59) "java/lang/String") (by decide +kernel))
  obtain ⟨s68, -, -, -, hs68, -⟩ := Cond.exactly_spec (args := #[Value.ref b]) (first := s) (o := none) (s := s) (idx := []) (t := .string "BeaconDelay$Reader" 68) (cls := "java/lang/String") (hs (Cond.exactly (.string "BeaconDelay$Reader" 68) "java/lang/String") (by decide +kernel))
  refine ⟨((dC, dI), fun k => [cI, cB, cJ, cZ, cT, cM].getD k cI, tp, tm), ⟨hKc, ?_⟩, ?_⟩
  · intro k q hq
    match k, hq with
    | 0, hq => have e9 := Option.some.inj (hq : some (cI, FieldType.int) = some q); subst e9; exact ⟨fun n z => ⟨fun k h => (by cases h), kI, aI2, pI, aI3⟩, aI1⟩
    | 1, hq => have e9 := Option.some.inj (hq : some (cB, FieldType.byte) = some q); subst e9; exact ⟨fun n z => ⟨fun k h => (by cases h), kB, aB2, pB, aB3⟩, aB1⟩
    | 2, hq => have e9 := Option.some.inj (hq : some (cJ, FieldType.long) = some q); subst e9; exact ⟨fun n z => ⟨fun k h => (by cases h), kJ, aJ2, pJ, aJ3⟩, aJ1⟩
    | 3, hq => have e9 := Option.some.inj (hq : some (cZ, FieldType.boolean) = some q); subst e9; exact ⟨fun n z => ⟨fun k h => (by cases h), kZ, aZ2, pZ, aZ3⟩, aZ1⟩
    | 4, hq => have e9 := Option.some.inj (hq : some (cT, FieldType.object "BeaconDelay$Tray") = some q); subst e9; exact ⟨fun n z => ⟨fun k h => (by cases h), kT, tT3, pT, tT4⟩, kT, pT, tT3, tT4, tT1, tT5⟩
    | 5, hq => have e9 := Option.some.inj (hq : some (cM, FieldType.object "BeaconDelay$Image") = some q); subst e9; exact ⟨fun n z => ⟨fun k h => (by cases h), kM, tM3, pM, tM4⟩, kM, pM, tM3, tM4, tM1, tM5⟩
    | k + 6, hq => simp [tyV] at hq
  · exact ⟨⟨va_Zof (hts (Cond.laysStatic "BeaconDelay" "POWER" "[I") (tb_3 (i := 17) (by decide +kernel))) (hg _ q_1_1) etp hA, htp⟩, ⟨va_Zof (hts (Cond.laysStatic "BeaconDelay" "MOST_MET" "[I") (tb_4 (i := 63) (by decide +kernel))) (hg _ q_1_1) etm hA, htm⟩, ⟨va_AO.of hT, va_AO.of hM⟩, List.forall_mem_cons.mpr ⟨va_Nw.of rfl (hts (Cond.methodLinkNest "BeaconDelay" 15 yX1_init "BeaconDelay") (tb_1 (i := 31) (by decide +kernel))), List.forall_mem_cons.mpr ⟨va_Nw.of rfl (hts (Cond.methodLinkNest "BeaconDelay$Reader" 11 yX1_init "BeaconDelay") (tb_1 (i := 133) (by decide +kernel))), List.forall_mem_cons.mpr ⟨va_Nw.of rfl (hts (Cond.methodLinkNest "BeaconDelay" 40 yX0_init "BeaconDelay") (tb_1 (i := 192) (by decide +kernel))), List.forall_mem_cons.mpr ⟨va_Nw.of rfl (hts (Cond.methodLinkNest "BeaconDelay" 47 yX5_init "BeaconDelay") (tb_1 (i := 207) (by decide +kernel))), List.forall_mem_cons.mpr ⟨va_Nw.of rfl (hts (Cond.methodLinkNest "BeaconDelay" 68 yX7_init "BeaconDelay") (tb_1 (i := 233) (by decide +kernel))), List.forall_mem_cons.mpr ⟨va_Nw.of rfl (hts (Cond.methodLinkNest "BeaconDelay" 69 yX3_init "BeaconDelay") (tb_2 (i := 13) (by decide +kernel))), List.forall_mem_cons.mpr ⟨va_Nw.of rfl (hts (Cond.methodLinkNest "BeaconDelay$Image" 9 yX1_init "BeaconDelay") (tb_2 (i := 18) (by decide +kernel))), List.forall_mem_cons.mpr ⟨va_Nw.of rfl (hts (Cond.methodLinkNest "BeaconDelay$Ways" 94 yX9_stackIn "BeaconDelay") (tb_4 (i := 149) (by decide +kernel))), List.forall_mem_cons.mpr ⟨va_Nw.of rfl (hts (Cond.methodLinkNest "BeaconDelay$Forcing" 67 yX9_stackIn "BeaconDelay") (tb_5 (i := 137) (by decide +kernel))), fun _ h => absurd h List.not_mem_nil⟩⟩⟩⟩⟩⟩⟩⟩⟩, List.forall_mem_cons.mpr ⟨va_Nw.of rfl (hts (Cond.fieldLinkNest "BeaconDelay$Reader" 128 "BeaconDelay" "POWER" "[I" "BeaconDelay") (tb_3 (i := 16) (by decide +kernel))), List.forall_mem_cons.mpr ⟨va_Nw.of rfl (hts (Cond.fieldLinkNest "BeaconDelay$Laws" 43 "BeaconDelay" "POWER" "[I" "BeaconDelay") (tb_3 (i := 149) (by decide +kernel))), List.forall_mem_cons.mpr ⟨va_Nw.of rfl (hts (Cond.fieldLinkNest "BeaconDelay$Ways" 23 "BeaconDelay" "MOST_MET" "[I" "BeaconDelay") (tb_4 (i := 62) (by decide +kernel))), List.forall_mem_cons.mpr ⟨va_Nw.of rfl (hts (Cond.fieldLinkNest "BeaconDelay$Ways" 35 "BeaconDelay" "POWER" "[I" "BeaconDelay") (tb_4 (i := 64) (by decide +kernel))), fun _ h => absurd h List.not_mem_nil⟩⟩⟩⟩, List.forall_mem_cons.mpr ⟨⟨s53, vk_R.of (hts (Cond.stringRef "BeaconDelay$Reader" 53 "coast") (tb_2 (i := 207) (by decide +kernel))) hs53⟩, List.forall_mem_cons.mpr ⟨⟨s59, vk_R.of (hts (Cond.stringRef "BeaconDelay$Reader" 59 "weather") (tb_2 (i := 237) (by decide +kernel))) hs59⟩, List.forall_mem_cons.mpr ⟨⟨s68, vk_R.of (hts (Cond.stringRef "BeaconDelay$Reader" 68 ";") (tb_3 (i := 2) (by decide +kernel))) hs68⟩, fun _ h => absurd h List.not_mem_nil⟩⟩⟩⟩
def R_law : String := "BeaconDelayLaw"
def lw_P (b : Addr) (xs : List Int32) (args : Array Value) (s : State) : Prop := args = #[.ref b] ∧ s.IntsAt b xs ∧ xs.length ≤ 6 ∧ (Jvm.Cond.and given_1 narrow_1).before args s = true
def lw_Q (_ : Array Value) (s : State) (o : Outcome) (t : State) : Prop := o = .returned (some (.int 1)) ∧ Framed s o t [] 600000 7302250
def lw_Z (below : List Frame) (a : Array Value) (s : State) : State → Prop := fun t => ∃ o, t.status = .running ∧ Ended t below o ∧ lw_Q a s o t
/-- the law's own end, with 1 on the stack, nothing written that was there before, its room as the claim has it -/
theorem lw_ret {p : Program} {l : Launch} {e : Env} {s : State} {m : MethodId} {below : List Frame} {meth : Method} {c : Code} {b : Nat} (hx : p.tables.exec = Jvm.exec) (hb : c.code = code) (hr : meth.sig.returnType = ret) (hlocks : meth.locks = false) {pc : Nat} {H : Heap} {ls : Array Slot} (hdg : decode code pc = .ok (.ireturn, 1)) : W p l e room_1 s m #[Value.ref b] below meth c H [] 600000 7302250 (lw_Z below #[Value.ref b] s) (F0 m pc ls [.int 1]) := by
  intro T hT X
  obtain ⟨fs, hret, hrun, hended, hW, hframe⟩ := X.leave (v := some (.int 1)) (hlocks := hlocks) (fun h => by rw [hr] at h; cases h)
  have hmeth' : T.vm.method? m = some meth := X.method'
  refine ⟨T.setFrames fs, ?_, .returned (some (.int 1)), hrun, hended, rfl, ⟨_, rfl⟩, hW, hframe⟩
  jvm_step X.here [X.here.top, hx, hb, hdg, hmeth', hr, ret, narrow_b1]
  (try refine ⟨rfl, ?_⟩); (try refine ⟨rfl, ?_⟩)
  first | (intro acts; rw [hret _ acts rfl rfl rfl]) | rw [hret _ _ rfl rfl rfl]
  exact Steps.refl _
/-- what holds at the law's entry: the machine, the code, the tables' words (any of lw_tbl by 'hts w (by decide +kernel)'), the script of L ints xs at the cell b, what the Statement gives of the start (any of its parts by flat_of_before) -/
def lw_At (p : Program) (s : State) (m : MethodId) (meth : Method) (c : Code) (b L : Nat) (xs : Nat → Int32) : Prop :=
  p.tables.exec = Jvm.exec ∧ c.code = code ∧ meth.sig.returnType = ret ∧ c.maxLocals = 4 ∧ s.vm.findClass R_law = some m.cls ∧ (∀ w ∈ lw_tbl, w.before #[Value.ref b] s = true) ∧ va_X b L xs s s.heap ∧ b < s.heap.size ∧ meth.locks = false ∧ (Jvm.Cond.and given_1 narrow_1).before #[Value.ref b] s = true

theorem dL_law_1549 : decode cL_law 1549 = .ok (.iinc 3 6, 3) := by decide +kernel
theorem dL_law_1552 : decode cL_law 1552 = .ok (.goto (-1534), 3) := by decide +kernel
theorem dL_law_18 : decode cL_law 18 = .ok (.iload_n 3, 1) := by decide +kernel
theorem dL_law_19 : decode cL_law 19 = .ok (.aload_n 0, 1) := by decide +kernel
theorem dL_law_20 : decode cL_law 20 = .ok (.arraylength, 1) := by decide +kernel
theorem dL_law_21 : decode cL_law 21 = .ok (.bipush 6, 2) := by decide +kernel
theorem dL_law_23 : decode cL_law 23 = .ok (.isub, 1) := by decide +kernel
theorem dL_law_24 : decode cL_law 24 = .ok (.if_icmp .gt 1531, 3) := by decide +kernel
theorem dL_law_1555 : decode cL_law 1555 = .ok (.iconst 1, 1) := by decide +kernel
theorem dL_law_1556 : decode cL_law 1556 = .ok (.ireturn, 1) := by decide +kernel
set_option maxHeartbeats 4000000 in
set_option maxRecDepth 100000 in
theorem law_end {p : Program} {e : Env} {s : State} {m : MethodId} {below : List Frame} {meth : Method} {c : Code} {l : Launch} {b : Nat} {xs : Nat → Int32} (C0 : lw_At p s m meth c b 6 xs) {H : Heap} {locs : List Loc} {cells slots : Nat} (hc : cells ≤ 600000) (hs : slots ≤ 7302250) (hS : va_S (fun q : Nat => s.heap.size ≤ q) s.heap H locs) {ls : Array Slot} (hl : lv_has ls 4 [(0, .ref b), (3, .int 0)]) : W p l e room_1 s m #[Value.ref b] below meth c H locs cells slots (lw_Z below #[Value.ref b] s) (F0 m 1549 ls []) := by
  obtain ⟨hx, hb, hr, hml, hown, hts, hX, hbl, hlocks, hgv⟩ := id C0
  have hA : ∀ q : Nat, s.heap.size ≤ q → (fun q : Nat => s.heap.size ≤ q) q := fun _ h => h
  have hbA : ¬ (fun q : Nat => s.heap.size ≤ q) b := Nat.not_le.mpr hbl
  refine lv_iinc (v := 6) (lv' := [(3, .int 6), (0, .ref b)]) hx hb dL_law_1549 hl (k := 1) rfl (by decide +kernel) (by decide) rfl (fun ls hl => ?_)
  refine lv_goto (tgt := 18) hx hb dL_law_1552 (by decide) ?_
  refine lv_iload_n hx hb dL_law_18 rfl (lv_at hl 0 rfl) ?_
  refine lv_aload_n hx hb dL_law_19 rfl (lv_at hl 1 rfl) ?_
  refine va_slen hx hb hX hbl hbA hS dL_law_20 ?_
  refine lv_bipush (v := 6) hx hb dL_law_21 (by decide) ?_
  refine lv_isub hx hb dL_law_23 ?_
  refine tpi (y := 0) (by decide +kernel) ?_
  refine lv_icmp_gt (tgt := 1555) hx hb dL_law_24 (by decide) (fun _ => ?_) (fun c_1 => absurd (by decide) c_1)
  refine lv_iconst (v := 1) hx hb dL_law_1555 (by decide) ?_
  refine va_forget hS.2.2 ?_
  refine W.widen (k := 600000) (n := 7302250) hc hs ?_
  exact lw_ret hx hb hr hlocks dL_law_1556
theorem dL_law_224 : decode cL_law 224 = .ok (.aload_n 1, 1) := by decide +kernel
theorem dL_law_225 : decode cL_law 225 = .ok (.aload_n 0, 1) := by decide +kernel
theorem dL_law_226 : decode cL_law 226 = .ok (.iload_n 3, 1) := by decide +kernel
theorem dL_law_227 : decode cL_law 227 = .ok (.iconst 1, 1) := by decide +kernel
theorem dL_law_228 : decode cL_law 228 = .ok (.iadd, 1) := by decide +kernel
theorem dL_law_229 : decode cL_law 229 = .ok (.iaload, 1) := by decide +kernel
theorem dL_law_230 : decode cL_law 230 = .ok (.aload_n 0, 1) := by decide +kernel
theorem dL_law_231 : decode cL_law 231 = .ok (.iload_n 3, 1) := by decide +kernel
theorem dL_law_232 : decode cL_law 232 = .ok (.iconst 2, 1) := by decide +kernel
theorem dL_law_233 : decode cL_law 233 = .ok (.iadd, 1) := by decide +kernel
theorem dL_law_234 : decode cL_law 234 = .ok (.iaload, 1) := by decide +kernel
theorem dL_law_235 : decode cL_law 235 = .ok (.aload_n 0, 1) := by decide +kernel
theorem dL_law_236 : decode cL_law 236 = .ok (.iload_n 3, 1) := by decide +kernel
theorem dL_law_237 : decode cL_law 237 = .ok (.iconst 3, 1) := by decide +kernel
theorem dL_law_238 : decode cL_law 238 = .ok (.iadd, 1) := by decide +kernel
theorem dL_law_239 : decode cL_law 239 = .ok (.iaload, 1) := by decide +kernel
theorem dL_law_240 : decode cL_law 240 = .ok (.aload_n 0, 1) := by decide +kernel
theorem dL_law_241 : decode cL_law 241 = .ok (.iload_n 3, 1) := by decide +kernel
theorem dL_law_242 : decode cL_law 242 = .ok (.iconst 4, 1) := by decide +kernel
theorem dL_law_243 : decode cL_law 243 = .ok (.iadd, 1) := by decide +kernel
theorem dL_law_244 : decode cL_law 244 = .ok (.iaload, 1) := by decide +kernel
theorem dL_law_245 : decode cL_law 245 = .ok (.aload_n 0, 1) := by decide +kernel
theorem dL_law_246 : decode cL_law 246 = .ok (.iload_n 3, 1) := by decide +kernel
theorem dL_law_247 : decode cL_law 247 = .ok (.iconst 5, 1) := by decide +kernel
theorem dL_law_248 : decode cL_law 248 = .ok (.iadd, 1) := by decide +kernel
theorem dL_law_249 : decode cL_law 249 = .ok (.iaload, 1) := by decide +kernel
theorem q_2_85 : Cond.code yX9_feed prog_1_method_2_code 6 (some FieldType.int) ∈ gw := gw_2 (i := 85) (rfl) rfl
theorem q_2_83 : Cond.instanceMethod yX9_feed ∈ gw := gw_2 (i := 83) (by decide +kernel) rfl
theorem q_2_84 : Cond.selects "BeaconDelay" yX9_feed yX9_feed ∈ gw := gw_2 (i := 84) (by decide +kernel) rfl
theorem mt_X9_feed : MtV yX9_feed cX9_feed 6 (some .int) 5 := ⟨⟨q_2_85, q_1_1, by decide +kernel, by decide +kernel, by decide +kernel⟩, q_2_83, q_2_84⟩
theorem q_2_82 : Cond.methodLink "BeaconDelayLaw" 13 yX9_feed ∈ gw := gw_2 (i := 82) (by decide +kernel) rfl
theorem dL_law_250 : decode cL_law 250 = .ok (.invokevirtual 13, 3) := by decide +kernel
theorem dL_law_253 : decode cL_law 253 = .ok (.aload_n 2, 1) := by decide +kernel
theorem dL_law_254 : decode cL_law 254 = .ok (.aload_n 0, 1) := by decide +kernel
theorem dL_law_255 : decode cL_law 255 = .ok (.iload_n 3, 1) := by decide +kernel
theorem dL_law_256 : decode cL_law 256 = .ok (.iconst 1, 1) := by decide +kernel
theorem dL_law_257 : decode cL_law 257 = .ok (.iadd, 1) := by decide +kernel
theorem dL_law_258 : decode cL_law 258 = .ok (.iaload, 1) := by decide +kernel
theorem dL_law_259 : decode cL_law 259 = .ok (.aload_n 0, 1) := by decide +kernel
theorem dL_law_260 : decode cL_law 260 = .ok (.iload_n 3, 1) := by decide +kernel
theorem dL_law_261 : decode cL_law 261 = .ok (.iconst 2, 1) := by decide +kernel
theorem dL_law_262 : decode cL_law 262 = .ok (.iadd, 1) := by decide +kernel
theorem dL_law_263 : decode cL_law 263 = .ok (.iaload, 1) := by decide +kernel
theorem dL_law_264 : decode cL_law 264 = .ok (.aload_n 0, 1) := by decide +kernel
theorem dL_law_265 : decode cL_law 265 = .ok (.iload_n 3, 1) := by decide +kernel
theorem dL_law_266 : decode cL_law 266 = .ok (.iconst 3, 1) := by decide +kernel
theorem dL_law_267 : decode cL_law 267 = .ok (.iadd, 1) := by decide +kernel
theorem dL_law_268 : decode cL_law 268 = .ok (.iaload, 1) := by decide +kernel
theorem dL_law_269 : decode cL_law 269 = .ok (.aload_n 0, 1) := by decide +kernel
theorem dL_law_270 : decode cL_law 270 = .ok (.iload_n 3, 1) := by decide +kernel
theorem dL_law_271 : decode cL_law 271 = .ok (.iconst 4, 1) := by decide +kernel
theorem dL_law_272 : decode cL_law 272 = .ok (.iadd, 1) := by decide +kernel
theorem dL_law_273 : decode cL_law 273 = .ok (.iaload, 1) := by decide +kernel
theorem dL_law_274 : decode cL_law 274 = .ok (.aload_n 0, 1) := by decide +kernel
theorem dL_law_275 : decode cL_law 275 = .ok (.iload_n 3, 1) := by decide +kernel
theorem dL_law_276 : decode cL_law 276 = .ok (.iconst 5, 1) := by decide +kernel
theorem dL_law_277 : decode cL_law 277 = .ok (.iadd, 1) := by decide +kernel
theorem dL_law_278 : decode cL_law 278 = .ok (.iaload, 1) := by decide +kernel
theorem q_6_109 : Cond.code yX10_feed prog_12_method_5_code 8 (some FieldType.int) ∈ gw := gw_6 (i := 109) (rfl) rfl
theorem q_6_107 : Cond.instanceMethod yX10_feed ∈ gw := gw_6 (i := 107) (by decide +kernel) rfl
theorem q_6_108 : Cond.selects "BeaconDelayModel" yX10_feed yX10_feed ∈ gw := gw_6 (i := 108) (by decide +kernel) rfl
theorem mt_X10_feed : MtV yX10_feed cX10_feed 8 (some .int) 5 := ⟨⟨q_6_109, q_1_9, by decide +kernel, by decide +kernel, by decide +kernel⟩, q_6_107, q_6_108⟩
theorem q_6_106 : Cond.methodLink "BeaconDelayLaw" 17 yX10_feed ∈ gw := gw_6 (i := 106) (by decide +kernel) rfl
theorem dL_law_279 : decode cL_law 279 = .ok (.invokevirtual 17, 3) := by decide +kernel
theorem dL_law_282 : decode cL_law 282 = .ok (.if_icmp .eq 1267, 3) := by decide +kernel
-- feed
set_option maxHeartbeats 4000000 in
set_option maxRecDepth 100000 in
theorem lc_0 {p : Program} {e : Env} {s : State} {m : MethodId} {below : List Frame} {meth : Method} {c : Code} {l : Launch} {b : Nat} {xs : Nat → Int32} {V : GV} {y z : Nat → Nat} (C0 : lw_At p s m meth c b 6 xs) (hg : ∀ w ∈ gw, w.before #[Value.ref b] s = true) (hK : va_K V.1 vwCl (tyV V) s) (hE : En V (fun q : Nat => s.heap.size ≤ q) s s.heap) {H : Heap} {locs : List Loc} (hP : va_P V.1 vwCl (xW V y ++ mW V z) H) (hD : va_D (fun q : Nat => s.heap.size ≤ q) (xW V y ++ mW V z)) (hS : va_S (fun q : Nat => s.heap.size ≤ q) s.heap H locs) {ls : Array Slot} (hl : lv_has ls 4 [(0, .ref b), (1, .ref (y 0)), (2, .ref (z 0)), (3, .int 0)]) : W p l e room_1 s m #[Value.ref b] below meth c H locs 84 223324 (lw_Z below #[Value.ref b] s) (F0 m 224 ls []) := by
  obtain ⟨hx, hb, hr, hml, hown, hts, hX, hbl, hlocks, hgv⟩ := id C0
  have hA : ∀ q : Nat, s.heap.size ≤ q → (fun q : Nat => s.heap.size ≤ q) q := fun _ h => h
  have hbA : ¬ (fun q : Nat => s.heap.size ≤ q) b := Nat.not_le.mpr hbl
  refine lv_aload_n hx hb dL_law_224 rfl (lv_at hl 1 rfl) ?_
  refine lv_aload_n hx hb dL_law_225 rfl (lv_at hl 0 rfl) ?_
  refine lv_iload_n hx hb dL_law_226 rfl (lv_at hl 3 rfl) ?_
  refine lv_iconst (v := 1) hx hb dL_law_227 (by decide) ?_
  refine lv_iadd hx hb dL_law_228 ?_
  refine tpi (y := 1) (by decide +kernel) ?_
  refine va_sld hx hb hX hbl hbA hS (vin (by decide +kernel)) dL_law_229 ?_
  refine tpi (y := xs 1) rfl ?_
  refine lv_aload_n hx hb dL_law_230 rfl (lv_at hl 0 rfl) ?_
  refine lv_iload_n hx hb dL_law_231 rfl (lv_at hl 3 rfl) ?_
  refine lv_iconst (v := 2) hx hb dL_law_232 (by decide) ?_
  refine lv_iadd hx hb dL_law_233 ?_
  refine tpi (y := 2) (by decide +kernel) ?_
  refine va_sld hx hb hX hbl hbA hS (vin (by decide +kernel)) dL_law_234 ?_
  refine tpi (y := xs 2) rfl ?_
  refine lv_aload_n hx hb dL_law_235 rfl (lv_at hl 0 rfl) ?_
  refine lv_iload_n hx hb dL_law_236 rfl (lv_at hl 3 rfl) ?_
  refine lv_iconst (v := 3) hx hb dL_law_237 (by decide) ?_
  refine lv_iadd hx hb dL_law_238 ?_
  refine tpi (y := 3) (by decide +kernel) ?_
  refine va_sld hx hb hX hbl hbA hS (vin (by decide +kernel)) dL_law_239 ?_
  refine tpi (y := xs 3) rfl ?_
  refine lv_aload_n hx hb dL_law_240 rfl (lv_at hl 0 rfl) ?_
  refine lv_iload_n hx hb dL_law_241 rfl (lv_at hl 3 rfl) ?_
  refine lv_iconst (v := 4) hx hb dL_law_242 (by decide) ?_
  refine lv_iadd hx hb dL_law_243 ?_
  refine tpi (y := 4) (by decide +kernel) ?_
  refine va_sld hx hb hX hbl hbA hS (vin (by decide +kernel)) dL_law_244 ?_
  refine tpi (y := xs 4) rfl ?_
  refine lv_aload_n hx hb dL_law_245 rfl (lv_at hl 0 rfl) ?_
  refine lv_iload_n hx hb dL_law_246 rfl (lv_at hl 3 rfl) ?_
  refine lv_iconst (v := 5) hx hb dL_law_247 (by decide) ?_
  refine lv_iadd hx hb dL_law_248 ?_
  refine tpi (y := 5) (by decide +kernel) ?_
  refine va_sld hx hb hX hbl hbA hS (vin (by decide +kernel)) dL_law_249 ?_
  refine tpi (y := xs 5) rfl ?_
  refine jnI (wr := mW V z) (rnV (rest := []) ⟨hx, hb, hml, hown, hg⟩ (c_X9_feed_0 l V y ((xs 1)) ((xs 2)) ((xs 3)) ((xs 4)) ((xs 5))) mt_X9_feed q_2_82 ⟨Nat.le_of_ble_eq_true rfl, Nat.le_of_ble_eq_true rfl⟩ hK hP hD hS hA hE [0, 1] rfl rfl 0 rfl rfl rfl rfl hl.1 rfl (Nat.le_of_ble_eq_true rfl) dL_law_250 ⟨Nat.le_of_ble_eq_true rfl, Nat.le_of_ble_eq_true rfl⟩) hP hD hS hA [0, 1] [59, 60, 61, 62, 63, 64, 65, 66, 67, 68, 69, 70, 71, 72, 73, 74, 75, 76, 77, 78, 79, 80, 81, 82, 83] rfl rfl rfl (by decide) (fun r w H locs hw hP hD hS => ?_)
  refine W.widen (k := 84) (n := 223324) (Nat.le_of_ble_eq_true rfl) (Nat.le_of_ble_eq_true rfl) ?_
  have hP : va_P V.1 vwCl (mW V z) H := takeP hP
  have hD : va_D (fun q : Nat => s.heap.size ≤ q) (mW V z) := takeD hD
  refine lv_aload_n hx hb dL_law_253 rfl (lv_at hl 2 rfl) ?_
  refine lv_aload_n hx hb dL_law_254 rfl (lv_at hl 0 rfl) ?_
  refine lv_iload_n hx hb dL_law_255 rfl (lv_at hl 3 rfl) ?_
  refine lv_iconst (v := 1) hx hb dL_law_256 (by decide) ?_
  refine lv_iadd hx hb dL_law_257 ?_
  refine tpi (y := 1) (by decide +kernel) ?_
  refine va_sld hx hb hX hbl hbA hS (vin (by decide +kernel)) dL_law_258 ?_
  refine tpi (y := xs 1) rfl ?_
  refine lv_aload_n hx hb dL_law_259 rfl (lv_at hl 0 rfl) ?_
  refine lv_iload_n hx hb dL_law_260 rfl (lv_at hl 3 rfl) ?_
  refine lv_iconst (v := 2) hx hb dL_law_261 (by decide) ?_
  refine lv_iadd hx hb dL_law_262 ?_
  refine tpi (y := 2) (by decide +kernel) ?_
  refine va_sld hx hb hX hbl hbA hS (vin (by decide +kernel)) dL_law_263 ?_
  refine tpi (y := xs 2) rfl ?_
  refine lv_aload_n hx hb dL_law_264 rfl (lv_at hl 0 rfl) ?_
  refine lv_iload_n hx hb dL_law_265 rfl (lv_at hl 3 rfl) ?_
  refine lv_iconst (v := 3) hx hb dL_law_266 (by decide) ?_
  refine lv_iadd hx hb dL_law_267 ?_
  refine tpi (y := 3) (by decide +kernel) ?_
  refine va_sld hx hb hX hbl hbA hS (vin (by decide +kernel)) dL_law_268 ?_
  refine tpi (y := xs 3) rfl ?_
  refine lv_aload_n hx hb dL_law_269 rfl (lv_at hl 0 rfl) ?_
  refine lv_iload_n hx hb dL_law_270 rfl (lv_at hl 3 rfl) ?_
  refine lv_iconst (v := 4) hx hb dL_law_271 (by decide) ?_
  refine lv_iadd hx hb dL_law_272 ?_
  refine tpi (y := 4) (by decide +kernel) ?_
  refine va_sld hx hb hX hbl hbA hS (vin (by decide +kernel)) dL_law_273 ?_
  refine tpi (y := xs 4) rfl ?_
  refine lv_aload_n hx hb dL_law_274 rfl (lv_at hl 0 rfl) ?_
  refine lv_iload_n hx hb dL_law_275 rfl (lv_at hl 3 rfl) ?_
  refine lv_iconst (v := 5) hx hb dL_law_276 (by decide) ?_
  refine lv_iadd hx hb dL_law_277 ?_
  refine tpi (y := 5) (by decide +kernel) ?_
  refine va_sld hx hb hX hbl hbA hS (vin (by decide +kernel)) dL_law_278 ?_
  refine tpi (y := xs 5) rfl ?_
  refine jnI (wr := []) (rnV (rest := [.int r]) ⟨hx, hb, hml, hown, hg⟩ (c_X10_feed_0 l V z ((xs 1)) ((xs 2)) ((xs 3)) ((xs 4)) ((xs 5))) mt_X10_feed q_6_106 ⟨Nat.le_of_ble_eq_true rfl, Nat.le_of_ble_eq_true rfl⟩ hK hP hD hS hA hE [0, 2] rfl rfl 0 rfl rfl rfl rfl hl.1 rfl (Nat.le_of_ble_eq_true rfl) dL_law_279 ⟨Nat.le_of_ble_eq_true rfl, Nat.le_of_ble_eq_true rfl⟩) hP hD hS hA [0, 2] [] rfl rfl rfl (by decide) (fun r2 w2 H locs hw2 hP hD hS => ?_)
  refine W.widen (k := 84) (n := 223324) (Nat.le_of_ble_eq_true rfl) (Nat.le_of_ble_eq_true rfl) ?_
  have e9 : r = r2 := by
    obtain ⟨_, _, _, _, _, _, _, _, _, _, _, _, _, _, _, _, _, _, _, _, ex, -⟩ := hw
    obtain ⟨_, _, _, _, _, _, _, _, _, _, _, _, _, _, _, _, _, _, _, _, em, -⟩ := hw2
    exact ex.trans em.symm
  refine lv_icmp_eq (tgt := 1549) hx hb dL_law_282 (by decide) (fun _ => ?_) (fun c_1 => absurd e9 c_1)
  exact law_end C0 (Nat.le_of_ble_eq_true rfl) (Nat.le_of_ble_eq_true rfl) hS (lv_sub hl [0, 3] rfl)
theorem dL_law_287 : decode cL_law 287 = .ok (.aload_n 1, 1) := by decide +kernel
theorem dL_law_288 : decode cL_law 288 = .ok (.aload_n 0, 1) := by decide +kernel
theorem dL_law_289 : decode cL_law 289 = .ok (.iload_n 3, 1) := by decide +kernel
theorem dL_law_290 : decode cL_law 290 = .ok (.iconst 1, 1) := by decide +kernel
theorem dL_law_291 : decode cL_law 291 = .ok (.iadd, 1) := by decide +kernel
theorem dL_law_292 : decode cL_law 292 = .ok (.iaload, 1) := by decide +kernel
theorem q_2_93 : Cond.code yX9_coast prog_1_method_4_code 3 (some FieldType.int) ∈ gw := gw_2 (i := 93) (rfl) rfl
theorem q_2_91 : Cond.instanceMethod yX9_coast ∈ gw := gw_2 (i := 91) (by decide +kernel) rfl
theorem q_2_92 : Cond.selects "BeaconDelay" yX9_coast yX9_coast ∈ gw := gw_2 (i := 92) (by decide +kernel) rfl
theorem mt_X9_coast : MtV yX9_coast cX9_coast 3 (some .int) 1 := ⟨⟨q_2_93, q_1_1, by decide +kernel, by decide +kernel, by decide +kernel⟩, q_2_91, q_2_92⟩
theorem q_2_90 : Cond.methodLink "BeaconDelayLaw" 18 yX9_coast ∈ gw := gw_2 (i := 90) (by decide +kernel) rfl
theorem dL_law_293 : decode cL_law 293 = .ok (.invokevirtual 18, 3) := by decide +kernel
theorem dL_law_296 : decode cL_law 296 = .ok (.aload_n 2, 1) := by decide +kernel
theorem dL_law_297 : decode cL_law 297 = .ok (.aload_n 0, 1) := by decide +kernel
theorem dL_law_298 : decode cL_law 298 = .ok (.iload_n 3, 1) := by decide +kernel
theorem dL_law_299 : decode cL_law 299 = .ok (.iconst 1, 1) := by decide +kernel
theorem dL_law_300 : decode cL_law 300 = .ok (.iadd, 1) := by decide +kernel
theorem dL_law_301 : decode cL_law 301 = .ok (.iaload, 1) := by decide +kernel
theorem q_6_113 : Cond.code yX10_coast prog_12_method_34_code 3 (some FieldType.int) ∈ gw := gw_6 (i := 113) (rfl) rfl
theorem q_6_111 : Cond.instanceMethod yX10_coast ∈ gw := gw_6 (i := 111) (by decide +kernel) rfl
theorem q_6_112 : Cond.selects "BeaconDelayModel" yX10_coast yX10_coast ∈ gw := gw_6 (i := 112) (by decide +kernel) rfl
theorem mt_X10_coast : MtV yX10_coast cX10_coast 3 (some .int) 1 := ⟨⟨q_6_113, q_1_9, by decide +kernel, by decide +kernel, by decide +kernel⟩, q_6_111, q_6_112⟩
theorem q_6_110 : Cond.methodLink "BeaconDelayLaw" 22 yX10_coast ∈ gw := gw_6 (i := 110) (by decide +kernel) rfl
theorem dL_law_302 : decode cL_law 302 = .ok (.invokevirtual 22, 3) := by decide +kernel
theorem dL_law_305 : decode cL_law 305 = .ok (.if_icmp .eq 1244, 3) := by decide +kernel
-- coast
set_option maxHeartbeats 4000000 in
set_option maxRecDepth 100000 in
theorem lc_1 {p : Program} {e : Env} {s : State} {m : MethodId} {below : List Frame} {meth : Method} {c : Code} {l : Launch} {b : Nat} {xs : Nat → Int32} {V : GV} {y z : Nat → Nat} (C0 : lw_At p s m meth c b 6 xs) (hg : ∀ w ∈ gw, w.before #[Value.ref b] s = true) (hK : va_K V.1 vwCl (tyV V) s) (hE : En V (fun q : Nat => s.heap.size ≤ q) s s.heap) {H : Heap} {locs : List Loc} (hP : va_P V.1 vwCl (xW V y ++ mW V z) H) (hD : va_D (fun q : Nat => s.heap.size ≤ q) (xW V y ++ mW V z)) (hS : va_S (fun q : Nat => s.heap.size ≤ q) s.heap H locs) {ls : Array Slot} (hl : lv_has ls 4 [(0, .ref b), (1, .ref (y 0)), (2, .ref (z 0)), (3, .int 0)]) : W p l e room_1 s m #[Value.ref b] below meth c H locs 84 223324 (lw_Z below #[Value.ref b] s) (F0 m 287 ls []) := by
  obtain ⟨hx, hb, hr, hml, hown, hts, hX, hbl, hlocks, hgv⟩ := id C0
  have hA : ∀ q : Nat, s.heap.size ≤ q → (fun q : Nat => s.heap.size ≤ q) q := fun _ h => h
  have hbA : ¬ (fun q : Nat => s.heap.size ≤ q) b := Nat.not_le.mpr hbl
  refine lv_aload_n hx hb dL_law_287 rfl (lv_at hl 1 rfl) ?_
  refine lv_aload_n hx hb dL_law_288 rfl (lv_at hl 0 rfl) ?_
  refine lv_iload_n hx hb dL_law_289 rfl (lv_at hl 3 rfl) ?_
  refine lv_iconst (v := 1) hx hb dL_law_290 (by decide) ?_
  refine lv_iadd hx hb dL_law_291 ?_
  refine tpi (y := 1) (by decide +kernel) ?_
  refine va_sld hx hb hX hbl hbA hS (vin (by decide +kernel)) dL_law_292 ?_
  refine tpi (y := xs 1) rfl ?_
  refine jnI (wr := mW V z) (rnV (rest := []) ⟨hx, hb, hml, hown, hg⟩ (c_X9_coast_0 l V y ((xs 1))) mt_X9_coast q_2_90 ⟨Nat.le_of_ble_eq_true rfl, Nat.le_of_ble_eq_true rfl⟩ hK hP hD hS hA hE [0, 1, 10, 11] rfl rfl 0 rfl rfl rfl rfl hl.1 rfl (Nat.le_of_ble_eq_true rfl) dL_law_293 ⟨Nat.le_of_ble_eq_true rfl, Nat.le_of_ble_eq_true rfl⟩) hP hD hS hA [0, 1, 10, 11] [59, 60, 61, 62, 63, 64, 65, 66, 67, 68, 69, 70, 71, 72, 73, 74, 75, 76, 77, 78, 79, 80, 81, 82, 83] rfl rfl rfl (by decide) (fun r w H locs hw hP hD hS => ?_)
  refine W.widen (k := 84) (n := 223324) (Nat.le_of_ble_eq_true rfl) (Nat.le_of_ble_eq_true rfl) ?_
  have hP : va_P V.1 vwCl (mW V z) H := takeP hP
  have hD : va_D (fun q : Nat => s.heap.size ≤ q) (mW V z) := takeD hD
  refine lv_aload_n hx hb dL_law_296 rfl (lv_at hl 2 rfl) ?_
  refine lv_aload_n hx hb dL_law_297 rfl (lv_at hl 0 rfl) ?_
  refine lv_iload_n hx hb dL_law_298 rfl (lv_at hl 3 rfl) ?_
  refine lv_iconst (v := 1) hx hb dL_law_299 (by decide) ?_
  refine lv_iadd hx hb dL_law_300 ?_
  refine tpi (y := 1) (by decide +kernel) ?_
  refine va_sld hx hb hX hbl hbA hS (vin (by decide +kernel)) dL_law_301 ?_
  refine tpi (y := xs 1) rfl ?_
  refine jnI (wr := []) (rnV (rest := [.int r]) ⟨hx, hb, hml, hown, hg⟩ (c_X10_coast_0 l V z ((xs 1))) mt_X10_coast q_6_110 ⟨Nat.le_of_ble_eq_true rfl, Nat.le_of_ble_eq_true rfl⟩ hK hP hD hS hA hE [0, 3] rfl rfl 0 rfl rfl rfl rfl hl.1 rfl (Nat.le_of_ble_eq_true rfl) dL_law_302 ⟨Nat.le_of_ble_eq_true rfl, Nat.le_of_ble_eq_true rfl⟩) hP hD hS hA [0, 3] [] rfl rfl rfl (by decide) (fun r2 w2 H locs hw2 hP hD hS => ?_)
  refine W.widen (k := 84) (n := 223324) (Nat.le_of_ble_eq_true rfl) (Nat.le_of_ble_eq_true rfl) ?_
  have e9 : r = r2 := by
    rcases hw with ⟨f_1, ex, -⟩ | ⟨f_2, f_3, ex, -⟩ | ⟨f_4, f_5, f_6, ex, -⟩
    · rcases hw2 with ⟨f_7, em, -⟩ | ⟨f_8, f_9, em, -⟩ | ⟨f_10, f_11, f_12, em, -⟩
      · exact ex.trans em.symm
      · exact ex.trans em.symm
      · exact False.elim (by simp only [tI_lt, tI_le, tI_eq, tL_lt, tL_le, tL_eq, tWx, (by decide : (0 : Int32).toInt = 0), (by decide : (0 : Int64).toInt = 0), (by decide : (1 : Int32).toInt = 1), (by decide : (1 : Int64).toInt = 1)] at f_1 f_10 f_11 f_12; omega)
    · rcases hw2 with ⟨f_7, em, -⟩ | ⟨f_8, f_9, em, -⟩ | ⟨f_10, f_11, f_12, em, -⟩
      · exact ex.trans em.symm
      · exact ex.trans em.symm
      · exact False.elim (by simp only [tI_lt, tI_le, tI_eq, tL_lt, tL_le, tL_eq, tWx, (by decide : (0 : Int32).toInt = 0), (by decide : (0 : Int64).toInt = 0), (by decide : (1 : Int32).toInt = 1), (by decide : (1 : Int64).toInt = 1)] at f_2 f_3 f_10 f_11 f_12; omega)
    · rcases hw2 with ⟨f_7, em, -⟩ | ⟨f_8, f_9, em, -⟩ | ⟨f_10, f_11, f_12, em, -⟩
      · exact False.elim (by simp only [tI_lt, tI_le, tI_eq, tL_lt, tL_le, tL_eq, tWx, (by decide : (0 : Int32).toInt = 0), (by decide : (0 : Int64).toInt = 0), (by decide : (1 : Int32).toInt = 1), (by decide : (1 : Int64).toInt = 1)] at f_4 f_5 f_6 f_7; omega)
      · exact False.elim (by simp only [tI_lt, tI_le, tI_eq, tL_lt, tL_le, tL_eq, tWx, (by decide : (0 : Int32).toInt = 0), (by decide : (0 : Int64).toInt = 0), (by decide : (1 : Int32).toInt = 1), (by decide : (1 : Int64).toInt = 1)] at f_4 f_5 f_6 f_8 f_9; omega)
      · exact ex.trans em.symm
  refine lv_icmp_eq (tgt := 1549) hx hb dL_law_305 (by decide) (fun _ => ?_) (fun c_1 => absurd e9 c_1)
  exact law_end C0 (Nat.le_of_ble_eq_true rfl) (Nat.le_of_ble_eq_true rfl) hS (lv_sub hl [0, 3] rfl)
theorem dL_law_310 : decode cL_law 310 = .ok (.aload_n 1, 1) := by decide +kernel
theorem dL_law_311 : decode cL_law 311 = .ok (.aload_n 0, 1) := by decide +kernel
theorem dL_law_312 : decode cL_law 312 = .ok (.iload_n 3, 1) := by decide +kernel
theorem dL_law_313 : decode cL_law 313 = .ok (.iconst 1, 1) := by decide +kernel
theorem dL_law_314 : decode cL_law 314 = .ok (.iadd, 1) := by decide +kernel
theorem dL_law_315 : decode cL_law 315 = .ok (.iaload, 1) := by decide +kernel
theorem q_3_117 : Cond.code yX9_fault prog_1_method_6_code 2 (some FieldType.int) ∈ gw := gw_3 (i := 117) (rfl) rfl
theorem q_3_115 : Cond.instanceMethod yX9_fault ∈ gw := gw_3 (i := 115) (by decide +kernel) rfl
theorem q_3_116 : Cond.selects "BeaconDelay" yX9_fault yX9_fault ∈ gw := gw_3 (i := 116) (by decide +kernel) rfl
theorem mt_X9_fault : MtV yX9_fault cX9_fault 2 (some .int) 1 := ⟨⟨q_3_117, q_1_1, by decide +kernel, by decide +kernel, by decide +kernel⟩, q_3_115, q_3_116⟩
theorem q_3_114 : Cond.methodLink "BeaconDelayLaw" 23 yX9_fault ∈ gw := gw_3 (i := 114) (by decide +kernel) rfl
theorem dL_law_316 : decode cL_law 316 = .ok (.invokevirtual 23, 3) := by decide +kernel
theorem dL_law_319 : decode cL_law 319 = .ok (.aload_n 2, 1) := by decide +kernel
theorem dL_law_320 : decode cL_law 320 = .ok (.aload_n 0, 1) := by decide +kernel
theorem dL_law_321 : decode cL_law 321 = .ok (.iload_n 3, 1) := by decide +kernel
theorem dL_law_322 : decode cL_law 322 = .ok (.iconst 1, 1) := by decide +kernel
theorem dL_law_323 : decode cL_law 323 = .ok (.iadd, 1) := by decide +kernel
theorem dL_law_324 : decode cL_law 324 = .ok (.iaload, 1) := by decide +kernel
theorem q_6_230 : Cond.code yX10_fault prog_12_method_35_code 2 (some FieldType.int) ∈ gw := gw_6 (i := 230) (rfl) rfl
theorem q_6_228 : Cond.instanceMethod yX10_fault ∈ gw := gw_6 (i := 228) (by decide +kernel) rfl
theorem q_6_229 : Cond.selects "BeaconDelayModel" yX10_fault yX10_fault ∈ gw := gw_6 (i := 229) (by decide +kernel) rfl
theorem mt_X10_fault : MtV yX10_fault cX10_fault 2 (some .int) 1 := ⟨⟨q_6_230, q_1_9, by decide +kernel, by decide +kernel, by decide +kernel⟩, q_6_228, q_6_229⟩
theorem q_6_227 : Cond.methodLink "BeaconDelayLaw" 26 yX10_fault ∈ gw := gw_6 (i := 227) (by decide +kernel) rfl
theorem dL_law_325 : decode cL_law 325 = .ok (.invokevirtual 26, 3) := by decide +kernel
theorem dL_law_328 : decode cL_law 328 = .ok (.if_icmp .eq 1221, 3) := by decide +kernel
-- fault
set_option maxHeartbeats 4000000 in
set_option maxRecDepth 100000 in
theorem lc_2 {p : Program} {e : Env} {s : State} {m : MethodId} {below : List Frame} {meth : Method} {c : Code} {l : Launch} {b : Nat} {xs : Nat → Int32} {V : GV} {y z : Nat → Nat} (C0 : lw_At p s m meth c b 6 xs) (hg : ∀ w ∈ gw, w.before #[Value.ref b] s = true) (hK : va_K V.1 vwCl (tyV V) s) (hE : En V (fun q : Nat => s.heap.size ≤ q) s s.heap) {H : Heap} {locs : List Loc} (hP : va_P V.1 vwCl (xW V y ++ mW V z) H) (hD : va_D (fun q : Nat => s.heap.size ≤ q) (xW V y ++ mW V z)) (hS : va_S (fun q : Nat => s.heap.size ≤ q) s.heap H locs) {ls : Array Slot} (hl : lv_has ls 4 [(0, .ref b), (1, .ref (y 0)), (2, .ref (z 0)), (3, .int 0)]) : W p l e room_1 s m #[Value.ref b] below meth c H locs 84 223324 (lw_Z below #[Value.ref b] s) (F0 m 310 ls []) := by
  obtain ⟨hx, hb, hr, hml, hown, hts, hX, hbl, hlocks, hgv⟩ := id C0
  have hA : ∀ q : Nat, s.heap.size ≤ q → (fun q : Nat => s.heap.size ≤ q) q := fun _ h => h
  have hbA : ¬ (fun q : Nat => s.heap.size ≤ q) b := Nat.not_le.mpr hbl
  refine lv_aload_n hx hb dL_law_310 rfl (lv_at hl 1 rfl) ?_
  refine lv_aload_n hx hb dL_law_311 rfl (lv_at hl 0 rfl) ?_
  refine lv_iload_n hx hb dL_law_312 rfl (lv_at hl 3 rfl) ?_
  refine lv_iconst (v := 1) hx hb dL_law_313 (by decide) ?_
  refine lv_iadd hx hb dL_law_314 ?_
  refine tpi (y := 1) (by decide +kernel) ?_
  refine va_sld hx hb hX hbl hbA hS (vin (by decide +kernel)) dL_law_315 ?_
  refine tpi (y := xs 1) rfl ?_
  refine jnI (wr := mW V z) (rnV (rest := []) ⟨hx, hb, hml, hown, hg⟩ (c_X9_fault_0 l V y ((xs 1))) mt_X9_fault q_3_114 ⟨Nat.le_of_ble_eq_true rfl, Nat.le_of_ble_eq_true rfl⟩ hK hP hD hS hA hE [0, 10] rfl rfl 0 rfl rfl rfl rfl hl.1 rfl (Nat.le_of_ble_eq_true rfl) dL_law_316 ⟨Nat.le_of_ble_eq_true rfl, Nat.le_of_ble_eq_true rfl⟩) hP hD hS hA [0, 10] [59, 60, 61, 62, 63, 64, 65, 66, 67, 68, 69, 70, 71, 72, 73, 74, 75, 76, 77, 78, 79, 80, 81, 82, 83] rfl rfl rfl (by decide) (fun r w H locs hw hP hD hS => ?_)
  refine W.widen (k := 84) (n := 223324) (Nat.le_of_ble_eq_true rfl) (Nat.le_of_ble_eq_true rfl) ?_
  have hP : va_P V.1 vwCl (mW V z) H := takeP hP
  have hD : va_D (fun q : Nat => s.heap.size ≤ q) (mW V z) := takeD hD
  refine lv_aload_n hx hb dL_law_319 rfl (lv_at hl 2 rfl) ?_
  refine lv_aload_n hx hb dL_law_320 rfl (lv_at hl 0 rfl) ?_
  refine lv_iload_n hx hb dL_law_321 rfl (lv_at hl 3 rfl) ?_
  refine lv_iconst (v := 1) hx hb dL_law_322 (by decide) ?_
  refine lv_iadd hx hb dL_law_323 ?_
  refine tpi (y := 1) (by decide +kernel) ?_
  refine va_sld hx hb hX hbl hbA hS (vin (by decide +kernel)) dL_law_324 ?_
  refine tpi (y := xs 1) rfl ?_
  refine jnI (wr := []) (rnV (rest := [.int r]) ⟨hx, hb, hml, hown, hg⟩ (c_X10_fault_0 l V z ((xs 1))) mt_X10_fault q_6_227 ⟨Nat.le_of_ble_eq_true rfl, Nat.le_of_ble_eq_true rfl⟩ hK hP hD hS hA hE [0] rfl rfl 0 rfl rfl rfl rfl hl.1 rfl (Nat.le_of_ble_eq_true rfl) dL_law_325 ⟨Nat.le_of_ble_eq_true rfl, Nat.le_of_ble_eq_true rfl⟩) hP hD hS hA [0] [] rfl rfl rfl (by decide) (fun r2 w2 H locs hw2 hP hD hS => ?_)
  refine W.widen (k := 84) (n := 223324) (Nat.le_of_ble_eq_true rfl) (Nat.le_of_ble_eq_true rfl) ?_
  have e9 : r = r2 := by
    rcases hw with ⟨f_1, f_2, ex, -⟩ | ⟨f_3, f_4, ex, -⟩ | ⟨f_5, ex, -⟩
    · rcases hw2 with ⟨f_6, f_7, em, -⟩ | ⟨f_8, f_9, em, -⟩ | ⟨f_10, em, -⟩
      · exact ex.trans em.symm
      · exact ex.trans em.symm
      · exact False.elim (by simp only [tI_lt, tI_le, tI_eq, tL_lt, tL_le, tL_eq, tWx, (by decide : (0 : Int32).toInt = 0), (by decide : (1 : Int32).toInt = 1)] at f_1 f_2 f_10; omega)
    · rcases hw2 with ⟨f_6, f_7, em, -⟩ | ⟨f_8, f_9, em, -⟩ | ⟨f_10, em, -⟩
      · exact ex.trans em.symm
      · exact ex.trans em.symm
      · exact False.elim (by simp only [tI_lt, tI_le, tI_eq, tL_lt, tL_le, tL_eq, tWx, (by decide : (0 : Int32).toInt = 0), (by decide : (1 : Int32).toInt = 1)] at f_3 f_4 f_10; omega)
    · rcases hw2 with ⟨f_6, f_7, em, -⟩ | ⟨f_8, f_9, em, -⟩ | ⟨f_10, em, -⟩
      · exact False.elim (by simp only [tI_lt, tI_le, tI_eq, tL_lt, tL_le, tL_eq, tWx, (by decide : (0 : Int32).toInt = 0), (by decide : (1 : Int32).toInt = 1)] at f_5 f_6 f_7; omega)
      · exact False.elim (by simp only [tI_lt, tI_le, tI_eq, tL_lt, tL_le, tL_eq, tWx, (by decide : (0 : Int32).toInt = 0), (by decide : (1 : Int32).toInt = 1)] at f_5 f_8 f_9; omega)
      · exact ex.trans em.symm
  refine lv_icmp_eq (tgt := 1549) hx hb dL_law_328 (by decide) (fun _ => ?_) (fun c_1 => absurd e9 c_1)
  exact law_end C0 (Nat.le_of_ble_eq_true rfl) (Nat.le_of_ble_eq_true rfl) hS (lv_sub hl [0, 3] rfl)
theorem dL_law_333 : decode cL_law 333 = .ok (.aload_n 1, 1) := by decide +kernel
theorem dL_law_334 : decode cL_law 334 = .ok (.aload_n 0, 1) := by decide +kernel
theorem dL_law_335 : decode cL_law 335 = .ok (.iload_n 3, 1) := by decide +kernel
theorem dL_law_336 : decode cL_law 336 = .ok (.iconst 1, 1) := by decide +kernel
theorem dL_law_337 : decode cL_law 337 = .ok (.iadd, 1) := by decide +kernel
theorem dL_law_338 : decode cL_law 338 = .ok (.iaload, 1) := by decide +kernel
theorem dL_law_339 : decode cL_law 339 = .ok (.aload_n 0, 1) := by decide +kernel
theorem dL_law_340 : decode cL_law 340 = .ok (.iload_n 3, 1) := by decide +kernel
theorem dL_law_341 : decode cL_law 341 = .ok (.iconst 2, 1) := by decide +kernel
theorem dL_law_342 : decode cL_law 342 = .ok (.iadd, 1) := by decide +kernel
theorem dL_law_343 : decode cL_law 343 = .ok (.iaload, 1) := by decide +kernel
theorem q_3_121 : Cond.code yX9_hill prog_1_method_7_code 3 (some FieldType.int) ∈ gw := gw_3 (i := 121) (rfl) rfl
theorem q_3_119 : Cond.instanceMethod yX9_hill ∈ gw := gw_3 (i := 119) (by decide +kernel) rfl
theorem q_3_120 : Cond.selects "BeaconDelay" yX9_hill yX9_hill ∈ gw := gw_3 (i := 120) (by decide +kernel) rfl
theorem mt_X9_hill : MtV yX9_hill cX9_hill 3 (some .int) 2 := ⟨⟨q_3_121, q_1_1, by decide +kernel, by decide +kernel, by decide +kernel⟩, q_3_119, q_3_120⟩
theorem q_3_118 : Cond.methodLink "BeaconDelayLaw" 27 yX9_hill ∈ gw := gw_3 (i := 118) (by decide +kernel) rfl
theorem dL_law_344 : decode cL_law 344 = .ok (.invokevirtual 27, 3) := by decide +kernel
theorem dL_law_347 : decode cL_law 347 = .ok (.aload_n 2, 1) := by decide +kernel
theorem dL_law_348 : decode cL_law 348 = .ok (.aload_n 0, 1) := by decide +kernel
theorem dL_law_349 : decode cL_law 349 = .ok (.iload_n 3, 1) := by decide +kernel
theorem dL_law_350 : decode cL_law 350 = .ok (.iconst 1, 1) := by decide +kernel
theorem dL_law_351 : decode cL_law 351 = .ok (.iadd, 1) := by decide +kernel
theorem dL_law_352 : decode cL_law 352 = .ok (.iaload, 1) := by decide +kernel
theorem dL_law_353 : decode cL_law 353 = .ok (.aload_n 0, 1) := by decide +kernel
theorem dL_law_354 : decode cL_law 354 = .ok (.iload_n 3, 1) := by decide +kernel
theorem dL_law_355 : decode cL_law 355 = .ok (.iconst 2, 1) := by decide +kernel
theorem dL_law_356 : decode cL_law 356 = .ok (.iadd, 1) := by decide +kernel
theorem dL_law_357 : decode cL_law 357 = .ok (.iaload, 1) := by decide +kernel
theorem q_6_234 : Cond.code yX10_hill prog_12_method_52_code 3 (some FieldType.int) ∈ gw := gw_6 (i := 234) (rfl) rfl
theorem q_6_232 : Cond.instanceMethod yX10_hill ∈ gw := gw_6 (i := 232) (by decide +kernel) rfl
theorem q_6_233 : Cond.selects "BeaconDelayModel" yX10_hill yX10_hill ∈ gw := gw_6 (i := 233) (by decide +kernel) rfl
theorem mt_X10_hill : MtV yX10_hill cX10_hill 3 (some .int) 2 := ⟨⟨q_6_234, q_1_9, by decide +kernel, by decide +kernel, by decide +kernel⟩, q_6_232, q_6_233⟩
theorem q_6_231 : Cond.methodLink "BeaconDelayLaw" 31 yX10_hill ∈ gw := gw_6 (i := 231) (by decide +kernel) rfl
theorem dL_law_358 : decode cL_law 358 = .ok (.invokevirtual 31, 3) := by decide +kernel
theorem dL_law_361 : decode cL_law 361 = .ok (.if_icmp .eq 1188, 3) := by decide +kernel
-- hill
set_option maxHeartbeats 4000000 in
set_option maxRecDepth 100000 in
theorem lc_3 {p : Program} {e : Env} {s : State} {m : MethodId} {below : List Frame} {meth : Method} {c : Code} {l : Launch} {b : Nat} {xs : Nat → Int32} {V : GV} {y z : Nat → Nat} (C0 : lw_At p s m meth c b 6 xs) (hg : ∀ w ∈ gw, w.before #[Value.ref b] s = true) (hK : va_K V.1 vwCl (tyV V) s) (hE : En V (fun q : Nat => s.heap.size ≤ q) s s.heap) {H : Heap} {locs : List Loc} (hP : va_P V.1 vwCl (xW V y ++ mW V z) H) (hD : va_D (fun q : Nat => s.heap.size ≤ q) (xW V y ++ mW V z)) (hS : va_S (fun q : Nat => s.heap.size ≤ q) s.heap H locs) {ls : Array Slot} (hl : lv_has ls 4 [(0, .ref b), (1, .ref (y 0)), (2, .ref (z 0)), (3, .int 0)]) : W p l e room_1 s m #[Value.ref b] below meth c H locs 84 223324 (lw_Z below #[Value.ref b] s) (F0 m 333 ls []) := by
  obtain ⟨hx, hb, hr, hml, hown, hts, hX, hbl, hlocks, hgv⟩ := id C0
  have hA : ∀ q : Nat, s.heap.size ≤ q → (fun q : Nat => s.heap.size ≤ q) q := fun _ h => h
  have hbA : ¬ (fun q : Nat => s.heap.size ≤ q) b := Nat.not_le.mpr hbl
  refine lv_aload_n hx hb dL_law_333 rfl (lv_at hl 1 rfl) ?_
  refine lv_aload_n hx hb dL_law_334 rfl (lv_at hl 0 rfl) ?_
  refine lv_iload_n hx hb dL_law_335 rfl (lv_at hl 3 rfl) ?_
  refine lv_iconst (v := 1) hx hb dL_law_336 (by decide) ?_
  refine lv_iadd hx hb dL_law_337 ?_
  refine tpi (y := 1) (by decide +kernel) ?_
  refine va_sld hx hb hX hbl hbA hS (vin (by decide +kernel)) dL_law_338 ?_
  refine tpi (y := xs 1) rfl ?_
  refine lv_aload_n hx hb dL_law_339 rfl (lv_at hl 0 rfl) ?_
  refine lv_iload_n hx hb dL_law_340 rfl (lv_at hl 3 rfl) ?_
  refine lv_iconst (v := 2) hx hb dL_law_341 (by decide) ?_
  refine lv_iadd hx hb dL_law_342 ?_
  refine tpi (y := 2) (by decide +kernel) ?_
  refine va_sld hx hb hX hbl hbA hS (vin (by decide +kernel)) dL_law_343 ?_
  refine tpi (y := xs 2) rfl ?_
  refine jnI (wr := mW V z) (rnV (rest := []) ⟨hx, hb, hml, hown, hg⟩ (c_X9_hill_0 l V y ((xs 1)) ((xs 2))) mt_X9_hill q_3_118 ⟨Nat.le_of_ble_eq_true rfl, Nat.le_of_ble_eq_true rfl⟩ hK hP hD hS hA hE [0, 2] rfl rfl 0 rfl rfl rfl rfl hl.1 rfl (Nat.le_of_ble_eq_true rfl) dL_law_344 ⟨Nat.le_of_ble_eq_true rfl, Nat.le_of_ble_eq_true rfl⟩) hP hD hS hA [0, 2] [59, 60, 61, 62, 63, 64, 65, 66, 67, 68, 69, 70, 71, 72, 73, 74, 75, 76, 77, 78, 79, 80, 81, 82, 83] rfl rfl rfl (by decide) (fun r w H locs hw hP hD hS => ?_)
  refine W.widen (k := 84) (n := 223324) (Nat.le_of_ble_eq_true rfl) (Nat.le_of_ble_eq_true rfl) ?_
  have hP : va_P V.1 vwCl (mW V z) H := takeP hP
  have hD : va_D (fun q : Nat => s.heap.size ≤ q) (mW V z) := takeD hD
  refine lv_aload_n hx hb dL_law_347 rfl (lv_at hl 2 rfl) ?_
  refine lv_aload_n hx hb dL_law_348 rfl (lv_at hl 0 rfl) ?_
  refine lv_iload_n hx hb dL_law_349 rfl (lv_at hl 3 rfl) ?_
  refine lv_iconst (v := 1) hx hb dL_law_350 (by decide) ?_
  refine lv_iadd hx hb dL_law_351 ?_
  refine tpi (y := 1) (by decide +kernel) ?_
  refine va_sld hx hb hX hbl hbA hS (vin (by decide +kernel)) dL_law_352 ?_
  refine tpi (y := xs 1) rfl ?_
  refine lv_aload_n hx hb dL_law_353 rfl (lv_at hl 0 rfl) ?_
  refine lv_iload_n hx hb dL_law_354 rfl (lv_at hl 3 rfl) ?_
  refine lv_iconst (v := 2) hx hb dL_law_355 (by decide) ?_
  refine lv_iadd hx hb dL_law_356 ?_
  refine tpi (y := 2) (by decide +kernel) ?_
  refine va_sld hx hb hX hbl hbA hS (vin (by decide +kernel)) dL_law_357 ?_
  refine tpi (y := xs 2) rfl ?_
  refine jnI (wr := []) (rnV (rest := [.int r]) ⟨hx, hb, hml, hown, hg⟩ (c_X10_hill_0 l V z ((xs 1)) ((xs 2))) mt_X10_hill q_6_231 ⟨Nat.le_of_ble_eq_true rfl, Nat.le_of_ble_eq_true rfl⟩ hK hP hD hS hA hE [0, 24] rfl rfl 0 rfl rfl rfl rfl hl.1 rfl (Nat.le_of_ble_eq_true rfl) dL_law_358 ⟨Nat.le_of_ble_eq_true rfl, Nat.le_of_ble_eq_true rfl⟩) hP hD hS hA [0, 24] [] rfl rfl rfl (by decide) (fun r2 w2 H locs hw2 hP hD hS => ?_)
  refine W.widen (k := 84) (n := 223324) (Nat.le_of_ble_eq_true rfl) (Nat.le_of_ble_eq_true rfl) ?_
  have e9 : r = r2 := by
    obtain ⟨ex, -⟩ := hw
    obtain ⟨em, -⟩ := hw2
    exact ex.trans em.symm
  refine lv_icmp_eq (tgt := 1549) hx hb dL_law_361 (by decide) (fun _ => ?_) (fun c_1 => absurd e9 c_1)
  exact law_end C0 (Nat.le_of_ble_eq_true rfl) (Nat.le_of_ble_eq_true rfl) hS (lv_sub hl [0, 3] rfl)
theorem dL_law_366 : decode cL_law 366 = .ok (.aload_n 1, 1) := by decide +kernel
theorem dL_law_367 : decode cL_law 367 = .ok (.aload_n 0, 1) := by decide +kernel
theorem dL_law_368 : decode cL_law 368 = .ok (.iload_n 3, 1) := by decide +kernel
theorem dL_law_369 : decode cL_law 369 = .ok (.iconst 1, 1) := by decide +kernel
theorem dL_law_370 : decode cL_law 370 = .ok (.iadd, 1) := by decide +kernel
theorem dL_law_371 : decode cL_law 371 = .ok (.iaload, 1) := by decide +kernel
theorem q_3_136 : Cond.code yX9_village prog_1_method_8_code 2 (some FieldType.int) ∈ gw := gw_3 (i := 136) (rfl) rfl
theorem q_3_134 : Cond.instanceMethod yX9_village ∈ gw := gw_3 (i := 134) (by decide +kernel) rfl
theorem q_3_135 : Cond.selects "BeaconDelay" yX9_village yX9_village ∈ gw := gw_3 (i := 135) (by decide +kernel) rfl
theorem mt_X9_village : MtV yX9_village cX9_village 2 (some .int) 1 := ⟨⟨q_3_136, q_1_1, by decide +kernel, by decide +kernel, by decide +kernel⟩, q_3_134, q_3_135⟩
theorem q_3_133 : Cond.methodLink "BeaconDelayLaw" 32 yX9_village ∈ gw := gw_3 (i := 133) (by decide +kernel) rfl
theorem dL_law_372 : decode cL_law 372 = .ok (.invokevirtual 32, 3) := by decide +kernel
theorem dL_law_375 : decode cL_law 375 = .ok (.aload_n 2, 1) := by decide +kernel
theorem dL_law_376 : decode cL_law 376 = .ok (.aload_n 0, 1) := by decide +kernel
theorem dL_law_377 : decode cL_law 377 = .ok (.iload_n 3, 1) := by decide +kernel
theorem dL_law_378 : decode cL_law 378 = .ok (.iconst 1, 1) := by decide +kernel
theorem dL_law_379 : decode cL_law 379 = .ok (.iadd, 1) := by decide +kernel
theorem dL_law_380 : decode cL_law 380 = .ok (.iaload, 1) := by decide +kernel
theorem q_7_2 : Cond.code yX10_village prog_12_method_53_code 2 (some FieldType.int) ∈ gw := gw_7 (i := 2) (rfl) rfl
theorem q_7_0 : Cond.instanceMethod yX10_village ∈ gw := gw_7 (i := 0) (by decide +kernel) rfl
theorem q_7_1 : Cond.selects "BeaconDelayModel" yX10_village yX10_village ∈ gw := gw_7 (i := 1) (by decide +kernel) rfl
theorem mt_X10_village : MtV yX10_village cX10_village 2 (some .int) 1 := ⟨⟨q_7_2, q_1_9, by decide +kernel, by decide +kernel, by decide +kernel⟩, q_7_0, q_7_1⟩
theorem q_6_239 : Cond.methodLink "BeaconDelayLaw" 35 yX10_village ∈ gw := gw_6 (i := 239) (by decide +kernel) rfl
theorem dL_law_381 : decode cL_law 381 = .ok (.invokevirtual 35, 3) := by decide +kernel
theorem dL_law_384 : decode cL_law 384 = .ok (.if_icmp .eq 1165, 3) := by decide +kernel
-- village
set_option maxHeartbeats 4000000 in
set_option maxRecDepth 100000 in
theorem lc_4 {p : Program} {e : Env} {s : State} {m : MethodId} {below : List Frame} {meth : Method} {c : Code} {l : Launch} {b : Nat} {xs : Nat → Int32} {V : GV} {y z : Nat → Nat} (C0 : lw_At p s m meth c b 6 xs) (hg : ∀ w ∈ gw, w.before #[Value.ref b] s = true) (hK : va_K V.1 vwCl (tyV V) s) (hE : En V (fun q : Nat => s.heap.size ≤ q) s s.heap) {H : Heap} {locs : List Loc} (hP : va_P V.1 vwCl (xW V y ++ mW V z) H) (hD : va_D (fun q : Nat => s.heap.size ≤ q) (xW V y ++ mW V z)) (hS : va_S (fun q : Nat => s.heap.size ≤ q) s.heap H locs) {ls : Array Slot} (hl : lv_has ls 4 [(0, .ref b), (1, .ref (y 0)), (2, .ref (z 0)), (3, .int 0)]) : W p l e room_1 s m #[Value.ref b] below meth c H locs 84 223324 (lw_Z below #[Value.ref b] s) (F0 m 366 ls []) := by
  obtain ⟨hx, hb, hr, hml, hown, hts, hX, hbl, hlocks, hgv⟩ := id C0
  have hA : ∀ q : Nat, s.heap.size ≤ q → (fun q : Nat => s.heap.size ≤ q) q := fun _ h => h
  have hbA : ¬ (fun q : Nat => s.heap.size ≤ q) b := Nat.not_le.mpr hbl
  refine lv_aload_n hx hb dL_law_366 rfl (lv_at hl 1 rfl) ?_
  refine lv_aload_n hx hb dL_law_367 rfl (lv_at hl 0 rfl) ?_
  refine lv_iload_n hx hb dL_law_368 rfl (lv_at hl 3 rfl) ?_
  refine lv_iconst (v := 1) hx hb dL_law_369 (by decide) ?_
  refine lv_iadd hx hb dL_law_370 ?_
  refine tpi (y := 1) (by decide +kernel) ?_
  refine va_sld hx hb hX hbl hbA hS (vin (by decide +kernel)) dL_law_371 ?_
  refine tpi (y := xs 1) rfl ?_
  refine jnI (wr := mW V z) (rnV (rest := []) ⟨hx, hb, hml, hown, hg⟩ (c_X9_village_0 l V y ((xs 1))) mt_X9_village q_3_133 ⟨Nat.le_of_ble_eq_true rfl, Nat.le_of_ble_eq_true rfl⟩ hK hP hD hS hA hE [0, 2] rfl rfl 0 rfl rfl rfl rfl hl.1 rfl (Nat.le_of_ble_eq_true rfl) dL_law_372 ⟨Nat.le_of_ble_eq_true rfl, Nat.le_of_ble_eq_true rfl⟩) hP hD hS hA [0, 2] [59, 60, 61, 62, 63, 64, 65, 66, 67, 68, 69, 70, 71, 72, 73, 74, 75, 76, 77, 78, 79, 80, 81, 82, 83] rfl rfl rfl (by decide) (fun r w H locs hw hP hD hS => ?_)
  refine W.widen (k := 84) (n := 223324) (Nat.le_of_ble_eq_true rfl) (Nat.le_of_ble_eq_true rfl) ?_
  have hP : va_P V.1 vwCl (mW V z) H := takeP hP
  have hD : va_D (fun q : Nat => s.heap.size ≤ q) (mW V z) := takeD hD
  refine lv_aload_n hx hb dL_law_375 rfl (lv_at hl 2 rfl) ?_
  refine lv_aload_n hx hb dL_law_376 rfl (lv_at hl 0 rfl) ?_
  refine lv_iload_n hx hb dL_law_377 rfl (lv_at hl 3 rfl) ?_
  refine lv_iconst (v := 1) hx hb dL_law_378 (by decide) ?_
  refine lv_iadd hx hb dL_law_379 ?_
  refine tpi (y := 1) (by decide +kernel) ?_
  refine va_sld hx hb hX hbl hbA hS (vin (by decide +kernel)) dL_law_380 ?_
  refine tpi (y := xs 1) rfl ?_
  refine jnI (wr := []) (rnV (rest := [.int r]) ⟨hx, hb, hml, hown, hg⟩ (c_X10_village_0 l V z ((xs 1))) mt_X10_village q_6_239 ⟨Nat.le_of_ble_eq_true rfl, Nat.le_of_ble_eq_true rfl⟩ hK hP hD hS hA hE [0, 24] rfl rfl 0 rfl rfl rfl rfl hl.1 rfl (Nat.le_of_ble_eq_true rfl) dL_law_381 ⟨Nat.le_of_ble_eq_true rfl, Nat.le_of_ble_eq_true rfl⟩) hP hD hS hA [0, 24] [] rfl rfl rfl (by decide) (fun r2 w2 H locs hw2 hP hD hS => ?_)
  refine W.widen (k := 84) (n := 223324) (Nat.le_of_ble_eq_true rfl) (Nat.le_of_ble_eq_true rfl) ?_
  have e9 : r = r2 := by
    obtain ⟨ex, -⟩ := hw
    obtain ⟨em, -⟩ := hw2
    exact ex.trans em.symm
  refine lv_icmp_eq (tgt := 1549) hx hb dL_law_384 (by decide) (fun _ => ?_) (fun c_1 => absurd e9 c_1)
  exact law_end C0 (Nat.le_of_ble_eq_true rfl) (Nat.le_of_ble_eq_true rfl) hS (lv_sub hl [0, 3] rfl)
theorem dL_law_389 : decode cL_law 389 = .ok (.aload_n 1, 1) := by decide +kernel
theorem dL_law_390 : decode cL_law 390 = .ok (.aload_n 0, 1) := by decide +kernel
theorem dL_law_391 : decode cL_law 391 = .ok (.iload_n 3, 1) := by decide +kernel
theorem dL_law_392 : decode cL_law 392 = .ok (.iconst 1, 1) := by decide +kernel
theorem dL_law_393 : decode cL_law 393 = .ok (.iadd, 1) := by decide +kernel
theorem dL_law_394 : decode cL_law 394 = .ok (.iaload, 1) := by decide +kernel
theorem dL_law_395 : decode cL_law 395 = .ok (.aload_n 0, 1) := by decide +kernel
theorem dL_law_396 : decode cL_law 396 = .ok (.iload_n 3, 1) := by decide +kernel
theorem dL_law_397 : decode cL_law 397 = .ok (.iconst 2, 1) := by decide +kernel
theorem dL_law_398 : decode cL_law 398 = .ok (.iadd, 1) := by decide +kernel
theorem dL_law_399 : decode cL_law 399 = .ok (.iaload, 1) := by decide +kernel
theorem q_3_140 : Cond.code yX9_takes prog_1_method_9_code 3 (some FieldType.int) ∈ gw := gw_3 (i := 140) (rfl) rfl
theorem q_3_138 : Cond.instanceMethod yX9_takes ∈ gw := gw_3 (i := 138) (by decide +kernel) rfl
theorem q_3_139 : Cond.selects "BeaconDelay" yX9_takes yX9_takes ∈ gw := gw_3 (i := 139) (by decide +kernel) rfl
theorem mt_X9_takes : MtV yX9_takes cX9_takes 3 (some .int) 2 := ⟨⟨q_3_140, q_1_1, by decide +kernel, by decide +kernel, by decide +kernel⟩, q_3_138, q_3_139⟩
theorem q_3_137 : Cond.methodLink "BeaconDelayLaw" 36 yX9_takes ∈ gw := gw_3 (i := 137) (by decide +kernel) rfl
theorem dL_law_400 : decode cL_law 400 = .ok (.invokevirtual 36, 3) := by decide +kernel
theorem dL_law_403 : decode cL_law 403 = .ok (.aload_n 2, 1) := by decide +kernel
theorem dL_law_404 : decode cL_law 404 = .ok (.aload_n 0, 1) := by decide +kernel
theorem dL_law_405 : decode cL_law 405 = .ok (.iload_n 3, 1) := by decide +kernel
theorem dL_law_406 : decode cL_law 406 = .ok (.iconst 1, 1) := by decide +kernel
theorem dL_law_407 : decode cL_law 407 = .ok (.iadd, 1) := by decide +kernel
theorem dL_law_408 : decode cL_law 408 = .ok (.iaload, 1) := by decide +kernel
theorem dL_law_409 : decode cL_law 409 = .ok (.aload_n 0, 1) := by decide +kernel
theorem dL_law_410 : decode cL_law 410 = .ok (.iload_n 3, 1) := by decide +kernel
theorem dL_law_411 : decode cL_law 411 = .ok (.iconst 2, 1) := by decide +kernel
theorem dL_law_412 : decode cL_law 412 = .ok (.iadd, 1) := by decide +kernel
theorem dL_law_413 : decode cL_law 413 = .ok (.iaload, 1) := by decide +kernel
theorem q_7_6 : Cond.code yX10_takes prog_12_method_54_code 3 (some FieldType.int) ∈ gw := gw_7 (i := 6) (rfl) rfl
theorem q_7_4 : Cond.instanceMethod yX10_takes ∈ gw := gw_7 (i := 4) (by decide +kernel) rfl
theorem q_7_5 : Cond.selects "BeaconDelayModel" yX10_takes yX10_takes ∈ gw := gw_7 (i := 5) (by decide +kernel) rfl
theorem mt_X10_takes : MtV yX10_takes cX10_takes 3 (some .int) 2 := ⟨⟨q_7_6, q_1_9, by decide +kernel, by decide +kernel, by decide +kernel⟩, q_7_4, q_7_5⟩
theorem q_7_3 : Cond.methodLink "BeaconDelayLaw" 39 yX10_takes ∈ gw := gw_7 (i := 3) (by decide +kernel) rfl
theorem dL_law_414 : decode cL_law 414 = .ok (.invokevirtual 39, 3) := by decide +kernel
theorem dL_law_417 : decode cL_law 417 = .ok (.if_icmp .eq 1132, 3) := by decide +kernel
-- takes
set_option maxHeartbeats 4000000 in
set_option maxRecDepth 100000 in
theorem lc_5 {p : Program} {e : Env} {s : State} {m : MethodId} {below : List Frame} {meth : Method} {c : Code} {l : Launch} {b : Nat} {xs : Nat → Int32} {V : GV} {y z : Nat → Nat} (C0 : lw_At p s m meth c b 6 xs) (hg : ∀ w ∈ gw, w.before #[Value.ref b] s = true) (hK : va_K V.1 vwCl (tyV V) s) (hE : En V (fun q : Nat => s.heap.size ≤ q) s s.heap) {H : Heap} {locs : List Loc} (hP : va_P V.1 vwCl (xW V y ++ mW V z) H) (hD : va_D (fun q : Nat => s.heap.size ≤ q) (xW V y ++ mW V z)) (hS : va_S (fun q : Nat => s.heap.size ≤ q) s.heap H locs) {ls : Array Slot} (hl : lv_has ls 4 [(0, .ref b), (1, .ref (y 0)), (2, .ref (z 0)), (3, .int 0)]) : W p l e room_1 s m #[Value.ref b] below meth c H locs 84 223324 (lw_Z below #[Value.ref b] s) (F0 m 389 ls []) := by
  obtain ⟨hx, hb, hr, hml, hown, hts, hX, hbl, hlocks, hgv⟩ := id C0
  have hA : ∀ q : Nat, s.heap.size ≤ q → (fun q : Nat => s.heap.size ≤ q) q := fun _ h => h
  have hbA : ¬ (fun q : Nat => s.heap.size ≤ q) b := Nat.not_le.mpr hbl
  refine lv_aload_n hx hb dL_law_389 rfl (lv_at hl 1 rfl) ?_
  refine lv_aload_n hx hb dL_law_390 rfl (lv_at hl 0 rfl) ?_
  refine lv_iload_n hx hb dL_law_391 rfl (lv_at hl 3 rfl) ?_
  refine lv_iconst (v := 1) hx hb dL_law_392 (by decide) ?_
  refine lv_iadd hx hb dL_law_393 ?_
  refine tpi (y := 1) (by decide +kernel) ?_
  refine va_sld hx hb hX hbl hbA hS (vin (by decide +kernel)) dL_law_394 ?_
  refine tpi (y := xs 1) rfl ?_
  refine lv_aload_n hx hb dL_law_395 rfl (lv_at hl 0 rfl) ?_
  refine lv_iload_n hx hb dL_law_396 rfl (lv_at hl 3 rfl) ?_
  refine lv_iconst (v := 2) hx hb dL_law_397 (by decide) ?_
  refine lv_iadd hx hb dL_law_398 ?_
  refine tpi (y := 2) (by decide +kernel) ?_
  refine va_sld hx hb hX hbl hbA hS (vin (by decide +kernel)) dL_law_399 ?_
  refine tpi (y := xs 2) rfl ?_
  refine jnI (wr := mW V z) (rnV (rest := []) ⟨hx, hb, hml, hown, hg⟩ (c_X9_takes_0 l V y ((xs 1)) ((xs 2))) mt_X9_takes q_3_137 ⟨Nat.le_of_ble_eq_true rfl, Nat.le_of_ble_eq_true rfl⟩ hK hP hD hS hA hE [0, 2] rfl rfl 0 rfl rfl rfl rfl hl.1 rfl (Nat.le_of_ble_eq_true rfl) dL_law_400 ⟨Nat.le_of_ble_eq_true rfl, Nat.le_of_ble_eq_true rfl⟩) hP hD hS hA [0, 2] [59, 60, 61, 62, 63, 64, 65, 66, 67, 68, 69, 70, 71, 72, 73, 74, 75, 76, 77, 78, 79, 80, 81, 82, 83] rfl rfl rfl (by decide) (fun r w H locs hw hP hD hS => ?_)
  refine W.widen (k := 84) (n := 223324) (Nat.le_of_ble_eq_true rfl) (Nat.le_of_ble_eq_true rfl) ?_
  have hP : va_P V.1 vwCl (mW V z) H := takeP hP
  have hD : va_D (fun q : Nat => s.heap.size ≤ q) (mW V z) := takeD hD
  refine lv_aload_n hx hb dL_law_403 rfl (lv_at hl 2 rfl) ?_
  refine lv_aload_n hx hb dL_law_404 rfl (lv_at hl 0 rfl) ?_
  refine lv_iload_n hx hb dL_law_405 rfl (lv_at hl 3 rfl) ?_
  refine lv_iconst (v := 1) hx hb dL_law_406 (by decide) ?_
  refine lv_iadd hx hb dL_law_407 ?_
  refine tpi (y := 1) (by decide +kernel) ?_
  refine va_sld hx hb hX hbl hbA hS (vin (by decide +kernel)) dL_law_408 ?_
  refine tpi (y := xs 1) rfl ?_
  refine lv_aload_n hx hb dL_law_409 rfl (lv_at hl 0 rfl) ?_
  refine lv_iload_n hx hb dL_law_410 rfl (lv_at hl 3 rfl) ?_
  refine lv_iconst (v := 2) hx hb dL_law_411 (by decide) ?_
  refine lv_iadd hx hb dL_law_412 ?_
  refine tpi (y := 2) (by decide +kernel) ?_
  refine va_sld hx hb hX hbl hbA hS (vin (by decide +kernel)) dL_law_413 ?_
  refine tpi (y := xs 2) rfl ?_
  refine jnI (wr := []) (rnV (rest := [.int r]) ⟨hx, hb, hml, hown, hg⟩ (c_X10_takes_0 l V z ((xs 1)) ((xs 2))) mt_X10_takes q_7_3 ⟨Nat.le_of_ble_eq_true rfl, Nat.le_of_ble_eq_true rfl⟩ hK hP hD hS hA hE [0, 24] rfl rfl 0 rfl rfl rfl rfl hl.1 rfl (Nat.le_of_ble_eq_true rfl) dL_law_414 ⟨Nat.le_of_ble_eq_true rfl, Nat.le_of_ble_eq_true rfl⟩) hP hD hS hA [0, 24] [] rfl rfl rfl (by decide) (fun r2 w2 H locs hw2 hP hD hS => ?_)
  refine W.widen (k := 84) (n := 223324) (Nat.le_of_ble_eq_true rfl) (Nat.le_of_ble_eq_true rfl) ?_
  have e9 : r = r2 := by
    obtain ⟨ex, -⟩ := hw
    obtain ⟨em, -⟩ := hw2
    exact ex.trans em.symm
  refine lv_icmp_eq (tgt := 1549) hx hb dL_law_417 (by decide) (fun _ => ?_) (fun c_1 => absurd e9 c_1)
  exact law_end C0 (Nat.le_of_ble_eq_true rfl) (Nat.le_of_ble_eq_true rfl) hS (lv_sub hl [0, 3] rfl)
theorem dL_law_422 : decode cL_law 422 = .ok (.aload_n 1, 1) := by decide +kernel
theorem dL_law_423 : decode cL_law 423 = .ok (.aload_n 0, 1) := by decide +kernel
theorem dL_law_424 : decode cL_law 424 = .ok (.iload_n 3, 1) := by decide +kernel
theorem dL_law_425 : decode cL_law 425 = .ok (.iconst 1, 1) := by decide +kernel
theorem dL_law_426 : decode cL_law 426 = .ok (.iadd, 1) := by decide +kernel
theorem dL_law_427 : decode cL_law 427 = .ok (.iaload, 1) := by decide +kernel
theorem dL_law_428 : decode cL_law 428 = .ok (.aload_n 0, 1) := by decide +kernel
theorem dL_law_429 : decode cL_law 429 = .ok (.iload_n 3, 1) := by decide +kernel
theorem dL_law_430 : decode cL_law 430 = .ok (.iconst 2, 1) := by decide +kernel
theorem dL_law_431 : decode cL_law 431 = .ok (.iadd, 1) := by decide +kernel
theorem dL_law_432 : decode cL_law 432 = .ok (.iaload, 1) := by decide +kernel
theorem q_3_172 : Cond.code yX9_by prog_1_method_10_code 3 (some FieldType.int) ∈ gw := gw_3 (i := 172) (rfl) rfl
theorem q_3_170 : Cond.instanceMethod yX9_by ∈ gw := gw_3 (i := 170) (by decide +kernel) rfl
theorem q_3_171 : Cond.selects "BeaconDelay" yX9_by yX9_by ∈ gw := gw_3 (i := 171) (by decide +kernel) rfl
theorem mt_X9_by : MtV yX9_by cX9_by 3 (some .int) 2 := ⟨⟨q_3_172, q_1_1, by decide +kernel, by decide +kernel, by decide +kernel⟩, q_3_170, q_3_171⟩
theorem q_3_169 : Cond.methodLink "BeaconDelayLaw" 40 yX9_by ∈ gw := gw_3 (i := 169) (by decide +kernel) rfl
theorem dL_law_433 : decode cL_law 433 = .ok (.invokevirtual 40, 3) := by decide +kernel
theorem dL_law_436 : decode cL_law 436 = .ok (.aload_n 2, 1) := by decide +kernel
theorem dL_law_437 : decode cL_law 437 = .ok (.aload_n 0, 1) := by decide +kernel
theorem dL_law_438 : decode cL_law 438 = .ok (.iload_n 3, 1) := by decide +kernel
theorem dL_law_439 : decode cL_law 439 = .ok (.iconst 1, 1) := by decide +kernel
theorem dL_law_440 : decode cL_law 440 = .ok (.iadd, 1) := by decide +kernel
theorem dL_law_441 : decode cL_law 441 = .ok (.iaload, 1) := by decide +kernel
theorem dL_law_442 : decode cL_law 442 = .ok (.aload_n 0, 1) := by decide +kernel
theorem dL_law_443 : decode cL_law 443 = .ok (.iload_n 3, 1) := by decide +kernel
theorem dL_law_444 : decode cL_law 444 = .ok (.iconst 2, 1) := by decide +kernel
theorem dL_law_445 : decode cL_law 445 = .ok (.iadd, 1) := by decide +kernel
theorem dL_law_446 : decode cL_law 446 = .ok (.iaload, 1) := by decide +kernel
theorem q_7_55 : Cond.code yX10_by prog_12_method_55_code 3 (some FieldType.int) ∈ gw := gw_7 (i := 55) (rfl) rfl
theorem q_7_53 : Cond.instanceMethod yX10_by ∈ gw := gw_7 (i := 53) (by decide +kernel) rfl
theorem q_7_54 : Cond.selects "BeaconDelayModel" yX10_by yX10_by ∈ gw := gw_7 (i := 54) (by decide +kernel) rfl
theorem mt_X10_by : MtV yX10_by cX10_by 3 (some .int) 2 := ⟨⟨q_7_55, q_1_9, by decide +kernel, by decide +kernel, by decide +kernel⟩, q_7_53, q_7_54⟩
theorem q_7_52 : Cond.methodLink "BeaconDelayLaw" 43 yX10_by ∈ gw := gw_7 (i := 52) (by decide +kernel) rfl
theorem dL_law_447 : decode cL_law 447 = .ok (.invokevirtual 43, 3) := by decide +kernel
theorem dL_law_450 : decode cL_law 450 = .ok (.if_icmp .eq 1099, 3) := by decide +kernel
-- by
set_option maxHeartbeats 4000000 in
set_option maxRecDepth 100000 in
theorem lc_6 {p : Program} {e : Env} {s : State} {m : MethodId} {below : List Frame} {meth : Method} {c : Code} {l : Launch} {b : Nat} {xs : Nat → Int32} {V : GV} {y z : Nat → Nat} (C0 : lw_At p s m meth c b 6 xs) (hg : ∀ w ∈ gw, w.before #[Value.ref b] s = true) (hK : va_K V.1 vwCl (tyV V) s) (hE : En V (fun q : Nat => s.heap.size ≤ q) s s.heap) {H : Heap} {locs : List Loc} (hP : va_P V.1 vwCl (xW V y ++ mW V z) H) (hD : va_D (fun q : Nat => s.heap.size ≤ q) (xW V y ++ mW V z)) (hS : va_S (fun q : Nat => s.heap.size ≤ q) s.heap H locs) {ls : Array Slot} (hl : lv_has ls 4 [(0, .ref b), (1, .ref (y 0)), (2, .ref (z 0)), (3, .int 0)]) : W p l e room_1 s m #[Value.ref b] below meth c H locs 84 223324 (lw_Z below #[Value.ref b] s) (F0 m 422 ls []) := by
  obtain ⟨hx, hb, hr, hml, hown, hts, hX, hbl, hlocks, hgv⟩ := id C0
  have hA : ∀ q : Nat, s.heap.size ≤ q → (fun q : Nat => s.heap.size ≤ q) q := fun _ h => h
  have hbA : ¬ (fun q : Nat => s.heap.size ≤ q) b := Nat.not_le.mpr hbl
  refine lv_aload_n hx hb dL_law_422 rfl (lv_at hl 1 rfl) ?_
  refine lv_aload_n hx hb dL_law_423 rfl (lv_at hl 0 rfl) ?_
  refine lv_iload_n hx hb dL_law_424 rfl (lv_at hl 3 rfl) ?_
  refine lv_iconst (v := 1) hx hb dL_law_425 (by decide) ?_
  refine lv_iadd hx hb dL_law_426 ?_
  refine tpi (y := 1) (by decide +kernel) ?_
  refine va_sld hx hb hX hbl hbA hS (vin (by decide +kernel)) dL_law_427 ?_
  refine tpi (y := xs 1) rfl ?_
  refine lv_aload_n hx hb dL_law_428 rfl (lv_at hl 0 rfl) ?_
  refine lv_iload_n hx hb dL_law_429 rfl (lv_at hl 3 rfl) ?_
  refine lv_iconst (v := 2) hx hb dL_law_430 (by decide) ?_
  refine lv_iadd hx hb dL_law_431 ?_
  refine tpi (y := 2) (by decide +kernel) ?_
  refine va_sld hx hb hX hbl hbA hS (vin (by decide +kernel)) dL_law_432 ?_
  refine tpi (y := xs 2) rfl ?_
  refine jnI (wr := mW V z) (rnV (rest := []) ⟨hx, hb, hml, hown, hg⟩ (c_X9_by_0 l V y ((xs 1)) ((xs 2))) mt_X9_by q_3_169 ⟨Nat.le_of_ble_eq_true rfl, Nat.le_of_ble_eq_true rfl⟩ hK hP hD hS hA hE [0, 2] rfl rfl 0 rfl rfl rfl rfl hl.1 rfl (Nat.le_of_ble_eq_true rfl) dL_law_433 ⟨Nat.le_of_ble_eq_true rfl, Nat.le_of_ble_eq_true rfl⟩) hP hD hS hA [0, 2] [59, 60, 61, 62, 63, 64, 65, 66, 67, 68, 69, 70, 71, 72, 73, 74, 75, 76, 77, 78, 79, 80, 81, 82, 83] rfl rfl rfl (by decide) (fun r w H locs hw hP hD hS => ?_)
  refine W.widen (k := 84) (n := 223324) (Nat.le_of_ble_eq_true rfl) (Nat.le_of_ble_eq_true rfl) ?_
  have hP : va_P V.1 vwCl (mW V z) H := takeP hP
  have hD : va_D (fun q : Nat => s.heap.size ≤ q) (mW V z) := takeD hD
  refine lv_aload_n hx hb dL_law_436 rfl (lv_at hl 2 rfl) ?_
  refine lv_aload_n hx hb dL_law_437 rfl (lv_at hl 0 rfl) ?_
  refine lv_iload_n hx hb dL_law_438 rfl (lv_at hl 3 rfl) ?_
  refine lv_iconst (v := 1) hx hb dL_law_439 (by decide) ?_
  refine lv_iadd hx hb dL_law_440 ?_
  refine tpi (y := 1) (by decide +kernel) ?_
  refine va_sld hx hb hX hbl hbA hS (vin (by decide +kernel)) dL_law_441 ?_
  refine tpi (y := xs 1) rfl ?_
  refine lv_aload_n hx hb dL_law_442 rfl (lv_at hl 0 rfl) ?_
  refine lv_iload_n hx hb dL_law_443 rfl (lv_at hl 3 rfl) ?_
  refine lv_iconst (v := 2) hx hb dL_law_444 (by decide) ?_
  refine lv_iadd hx hb dL_law_445 ?_
  refine tpi (y := 2) (by decide +kernel) ?_
  refine va_sld hx hb hX hbl hbA hS (vin (by decide +kernel)) dL_law_446 ?_
  refine tpi (y := xs 2) rfl ?_
  refine jnI (wr := []) (rnV (rest := [.int r]) ⟨hx, hb, hml, hown, hg⟩ (c_X10_by_0 l V z ((xs 1)) ((xs 2))) mt_X10_by q_7_52 ⟨Nat.le_of_ble_eq_true rfl, Nat.le_of_ble_eq_true rfl⟩ hK hP hD hS hA hE [0, 24] rfl rfl 0 rfl rfl rfl rfl hl.1 rfl (Nat.le_of_ble_eq_true rfl) dL_law_447 ⟨Nat.le_of_ble_eq_true rfl, Nat.le_of_ble_eq_true rfl⟩) hP hD hS hA [0, 24] [] rfl rfl rfl (by decide) (fun r2 w2 H locs hw2 hP hD hS => ?_)
  refine W.widen (k := 84) (n := 223324) (Nat.le_of_ble_eq_true rfl) (Nat.le_of_ble_eq_true rfl) ?_
  have e9 : r = r2 := by
    obtain ⟨ex, -⟩ := hw
    obtain ⟨em, -⟩ := hw2
    exact ex.trans em.symm
  refine lv_icmp_eq (tgt := 1549) hx hb dL_law_450 (by decide) (fun _ => ?_) (fun c_1 => absurd e9 c_1)
  exact law_end C0 (Nat.le_of_ble_eq_true rfl) (Nat.le_of_ble_eq_true rfl) hS (lv_sub hl [0, 3] rfl)
theorem dL_law_455 : decode cL_law 455 = .ok (.aload_n 1, 1) := by decide +kernel
theorem dL_law_456 : decode cL_law 456 = .ok (.aload_n 0, 1) := by decide +kernel
theorem dL_law_457 : decode cL_law 457 = .ok (.iload_n 3, 1) := by decide +kernel
theorem dL_law_458 : decode cL_law 458 = .ok (.iconst 1, 1) := by decide +kernel
theorem dL_law_459 : decode cL_law 459 = .ok (.iadd, 1) := by decide +kernel
theorem dL_law_460 : decode cL_law 460 = .ok (.iaload, 1) := by decide +kernel
theorem q_3_176 : Cond.code yX9_night prog_1_method_18_code 2 (some FieldType.int) ∈ gw := gw_3 (i := 176) (rfl) rfl
theorem q_3_174 : Cond.instanceMethod yX9_night ∈ gw := gw_3 (i := 174) (by decide +kernel) rfl
theorem q_3_175 : Cond.selects "BeaconDelay" yX9_night yX9_night ∈ gw := gw_3 (i := 175) (by decide +kernel) rfl
theorem mt_X9_night : MtV yX9_night cX9_night 2 (some .int) 1 := ⟨⟨q_3_176, q_1_1, by decide +kernel, by decide +kernel, by decide +kernel⟩, q_3_174, q_3_175⟩
theorem q_3_173 : Cond.methodLink "BeaconDelayLaw" 44 yX9_night ∈ gw := gw_3 (i := 173) (by decide +kernel) rfl
theorem dL_law_461 : decode cL_law 461 = .ok (.invokevirtual 44, 3) := by decide +kernel
theorem dL_law_464 : decode cL_law 464 = .ok (.aload_n 2, 1) := by decide +kernel
theorem dL_law_465 : decode cL_law 465 = .ok (.aload_n 0, 1) := by decide +kernel
theorem dL_law_466 : decode cL_law 466 = .ok (.iload_n 3, 1) := by decide +kernel
theorem dL_law_467 : decode cL_law 467 = .ok (.iconst 1, 1) := by decide +kernel
theorem dL_law_468 : decode cL_law 468 = .ok (.iadd, 1) := by decide +kernel
theorem dL_law_469 : decode cL_law 469 = .ok (.iaload, 1) := by decide +kernel
theorem q_7_59 : Cond.code yX10_night prog_12_method_60_code 2 (some FieldType.int) ∈ gw := gw_7 (i := 59) (rfl) rfl
theorem q_7_57 : Cond.instanceMethod yX10_night ∈ gw := gw_7 (i := 57) (by decide +kernel) rfl
theorem q_7_58 : Cond.selects "BeaconDelayModel" yX10_night yX10_night ∈ gw := gw_7 (i := 58) (by decide +kernel) rfl
theorem mt_X10_night : MtV yX10_night cX10_night 2 (some .int) 1 := ⟨⟨q_7_59, q_1_9, by decide +kernel, by decide +kernel, by decide +kernel⟩, q_7_57, q_7_58⟩
theorem q_7_56 : Cond.methodLink "BeaconDelayLaw" 47 yX10_night ∈ gw := gw_7 (i := 56) (by decide +kernel) rfl
theorem dL_law_470 : decode cL_law 470 = .ok (.invokevirtual 47, 3) := by decide +kernel
theorem dL_law_473 : decode cL_law 473 = .ok (.if_icmp .eq 1076, 3) := by decide +kernel
-- night
set_option maxHeartbeats 4000000 in
set_option maxRecDepth 100000 in
theorem lc_7 {p : Program} {e : Env} {s : State} {m : MethodId} {below : List Frame} {meth : Method} {c : Code} {l : Launch} {b : Nat} {xs : Nat → Int32} {V : GV} {y z : Nat → Nat} (C0 : lw_At p s m meth c b 6 xs) (hg : ∀ w ∈ gw, w.before #[Value.ref b] s = true) (hK : va_K V.1 vwCl (tyV V) s) (hE : En V (fun q : Nat => s.heap.size ≤ q) s s.heap) {H : Heap} {locs : List Loc} (hP : va_P V.1 vwCl (xW V y ++ mW V z) H) (hD : va_D (fun q : Nat => s.heap.size ≤ q) (xW V y ++ mW V z)) (hS : va_S (fun q : Nat => s.heap.size ≤ q) s.heap H locs) {ls : Array Slot} (hl : lv_has ls 4 [(0, .ref b), (1, .ref (y 0)), (2, .ref (z 0)), (3, .int 0)]) : W p l e room_1 s m #[Value.ref b] below meth c H locs 84 223324 (lw_Z below #[Value.ref b] s) (F0 m 455 ls []) := by
  obtain ⟨hx, hb, hr, hml, hown, hts, hX, hbl, hlocks, hgv⟩ := id C0
  have hA : ∀ q : Nat, s.heap.size ≤ q → (fun q : Nat => s.heap.size ≤ q) q := fun _ h => h
  have hbA : ¬ (fun q : Nat => s.heap.size ≤ q) b := Nat.not_le.mpr hbl
  refine lv_aload_n hx hb dL_law_455 rfl (lv_at hl 1 rfl) ?_
  refine lv_aload_n hx hb dL_law_456 rfl (lv_at hl 0 rfl) ?_
  refine lv_iload_n hx hb dL_law_457 rfl (lv_at hl 3 rfl) ?_
  refine lv_iconst (v := 1) hx hb dL_law_458 (by decide) ?_
  refine lv_iadd hx hb dL_law_459 ?_
  refine tpi (y := 1) (by decide +kernel) ?_
  refine va_sld hx hb hX hbl hbA hS (vin (by decide +kernel)) dL_law_460 ?_
  refine tpi (y := xs 1) rfl ?_
  refine jnI (wr := mW V z) (rnV (rest := []) ⟨hx, hb, hml, hown, hg⟩ (c_X9_night_0 l V y ((xs 1))) mt_X9_night q_3_173 ⟨Nat.le_of_ble_eq_true rfl, Nat.le_of_ble_eq_true rfl⟩ hK hP hD hS hA hE [0, 2, 19, 26, 27, 28, 29] rfl rfl 0 rfl rfl rfl rfl hl.1 rfl (Nat.le_of_ble_eq_true rfl) dL_law_461 ⟨Nat.le_of_ble_eq_true rfl, Nat.le_of_ble_eq_true rfl⟩) hP hD hS hA [0, 2, 19, 26, 27, 28, 29] [59, 60, 61, 62, 63, 64, 65, 66, 67, 68, 69, 70, 71, 72, 73, 74, 75, 76, 77, 78, 79, 80, 81, 82, 83] rfl rfl rfl (by decide) (fun r w H locs hw hP hD hS => ?_)
  refine W.widen (k := 84) (n := 223324) (Nat.le_of_ble_eq_true rfl) (Nat.le_of_ble_eq_true rfl) ?_
  have hP : va_P V.1 vwCl (mW V z) H := takeP hP
  have hD : va_D (fun q : Nat => s.heap.size ≤ q) (mW V z) := takeD hD
  refine lv_aload_n hx hb dL_law_464 rfl (lv_at hl 2 rfl) ?_
  refine lv_aload_n hx hb dL_law_465 rfl (lv_at hl 0 rfl) ?_
  refine lv_iload_n hx hb dL_law_466 rfl (lv_at hl 3 rfl) ?_
  refine lv_iconst (v := 1) hx hb dL_law_467 (by decide) ?_
  refine lv_iadd hx hb dL_law_468 ?_
  refine tpi (y := 1) (by decide +kernel) ?_
  refine va_sld hx hb hX hbl hbA hS (vin (by decide +kernel)) dL_law_469 ?_
  refine tpi (y := xs 1) rfl ?_
  refine jnI (wr := []) (rnV (rest := [.int r]) ⟨hx, hb, hml, hown, hg⟩ (c_X10_night_0 l V z ((xs 1))) mt_X10_night q_7_56 ⟨Nat.le_of_ble_eq_true rfl, Nat.le_of_ble_eq_true rfl⟩ hK hP hD hS hA hE [0, 6, 24] rfl rfl 0 rfl rfl rfl rfl hl.1 rfl (Nat.le_of_ble_eq_true rfl) dL_law_470 ⟨Nat.le_of_ble_eq_true rfl, Nat.le_of_ble_eq_true rfl⟩) hP hD hS hA [0, 6, 24] [] rfl rfl rfl (by decide) (fun r2 w2 H locs hw2 hP hD hS => ?_)
  refine W.widen (k := 84) (n := 223324) (Nat.le_of_ble_eq_true rfl) (Nat.le_of_ble_eq_true rfl) ?_
  have e9 : r = r2 := by
    rcases hw with ⟨f_1, f_2, f_3, ex, -⟩ | ⟨f_4, f_5, ex, -⟩ | ⟨f_6, f_7, ex, -⟩
    · rcases hw2 with ⟨f_8, em, -⟩ | ⟨f_9, f_10, em, -⟩ | ⟨f_11, f_12, f_13, em, -⟩
      · exact ex.trans em.symm
      · exact False.elim (by simp only [tI_lt, tI_le, tI_eq, tL_lt, tL_le, tL_eq, tWx, (by decide : (0 : Int64).toInt = 0), (by decide : (1 : Int64).toInt = 1), (by decide : (10 : Int64).toInt = 10)] at f_1 f_2 f_3 f_9 f_10; omega)
      · exact False.elim (by simp only [tI_lt, tI_le, tI_eq, tL_lt, tL_le, tL_eq, tWx, (by decide : ((-1) : Int64).toInt = -1), (by decide : (0 : Int64).toInt = 0), (by decide : (1 : Int64).toInt = 1), (by decide : (10 : Int64).toInt = 10)] at f_1 f_2 f_3 f_11 f_12 f_13; omega)
    · rcases hw2 with ⟨f_8, em, -⟩ | ⟨f_9, f_10, em, -⟩ | ⟨f_11, f_12, f_13, em, -⟩
      · exact False.elim (by simp only [tI_lt, tI_le, tI_eq, tL_lt, tL_le, tL_eq, tWx, (by decide : (0 : Int64).toInt = 0), (by decide : (1 : Int64).toInt = 1)] at f_4 f_5 f_8; omega)
      · exact ex.trans em.symm
      · exact ex.trans em.symm
    · rcases hw2 with ⟨f_8, em, -⟩ | ⟨f_9, f_10, em, -⟩ | ⟨f_11, f_12, f_13, em, -⟩
      · exact False.elim (by simp only [tI_lt, tI_le, tI_eq, tL_lt, tL_le, tL_eq, tWx, (by decide : (0 : Int64).toInt = 0), (by decide : (1 : Int64).toInt = 1)] at f_6 f_7 f_8; omega)
      · exact ex.trans em.symm
      · exact ex.trans em.symm
  refine lv_icmp_eq (tgt := 1549) hx hb dL_law_473 (by decide) (fun _ => ?_) (fun c_1 => absurd e9 c_1)
  exact law_end C0 (Nat.le_of_ble_eq_true rfl) (Nat.le_of_ble_eq_true rfl) hS (lv_sub hl [0, 3] rfl)
theorem dL_law_478 : decode cL_law 478 = .ok (.aload_n 1, 1) := by decide +kernel
theorem dL_law_479 : decode cL_law 479 = .ok (.aload_n 0, 1) := by decide +kernel
theorem dL_law_480 : decode cL_law 480 = .ok (.iload_n 3, 1) := by decide +kernel
theorem dL_law_481 : decode cL_law 481 = .ok (.iconst 1, 1) := by decide +kernel
theorem dL_law_482 : decode cL_law 482 = .ok (.iadd, 1) := by decide +kernel
theorem dL_law_483 : decode cL_law 483 = .ok (.iaload, 1) := by decide +kernel
theorem q_3_207 : Cond.code yX9_nights prog_1_method_19_code 3 (some FieldType.int) ∈ gw := gw_3 (i := 207) (rfl) rfl
theorem q_3_205 : Cond.instanceMethod yX9_nights ∈ gw := gw_3 (i := 205) (by decide +kernel) rfl
theorem q_3_206 : Cond.selects "BeaconDelay" yX9_nights yX9_nights ∈ gw := gw_3 (i := 206) (by decide +kernel) rfl
theorem mt_X9_nights : MtV yX9_nights cX9_nights 3 (some .int) 1 := ⟨⟨q_3_207, q_1_1, by decide +kernel, by decide +kernel, by decide +kernel⟩, q_3_205, q_3_206⟩
theorem q_3_204 : Cond.methodLink "BeaconDelayLaw" 48 yX9_nights ∈ gw := gw_3 (i := 204) (by decide +kernel) rfl
theorem dL_law_484 : decode cL_law 484 = .ok (.invokevirtual 48, 3) := by decide +kernel
theorem dL_law_487 : decode cL_law 487 = .ok (.aload_n 2, 1) := by decide +kernel
theorem dL_law_488 : decode cL_law 488 = .ok (.aload_n 0, 1) := by decide +kernel
theorem dL_law_489 : decode cL_law 489 = .ok (.iload_n 3, 1) := by decide +kernel
theorem dL_law_490 : decode cL_law 490 = .ok (.iconst 1, 1) := by decide +kernel
theorem dL_law_491 : decode cL_law 491 = .ok (.iadd, 1) := by decide +kernel
theorem dL_law_492 : decode cL_law 492 = .ok (.iaload, 1) := by decide +kernel
theorem q_7_79 : Cond.code yX10_nights prog_12_method_61_code 3 (some FieldType.int) ∈ gw := gw_7 (i := 79) (rfl) rfl
theorem q_7_77 : Cond.instanceMethod yX10_nights ∈ gw := gw_7 (i := 77) (by decide +kernel) rfl
theorem q_7_78 : Cond.selects "BeaconDelayModel" yX10_nights yX10_nights ∈ gw := gw_7 (i := 78) (by decide +kernel) rfl
theorem mt_X10_nights : MtV yX10_nights cX10_nights 3 (some .int) 1 := ⟨⟨q_7_79, q_1_9, by decide +kernel, by decide +kernel, by decide +kernel⟩, q_7_77, q_7_78⟩
theorem q_7_76 : Cond.methodLink "BeaconDelayLaw" 51 yX10_nights ∈ gw := gw_7 (i := 76) (by decide +kernel) rfl
theorem dL_law_493 : decode cL_law 493 = .ok (.invokevirtual 51, 3) := by decide +kernel
theorem dL_law_496 : decode cL_law 496 = .ok (.if_icmp .eq 1053, 3) := by decide +kernel
-- nights
set_option maxHeartbeats 4000000 in
set_option maxRecDepth 100000 in
theorem lc_8 {p : Program} {e : Env} {s : State} {m : MethodId} {below : List Frame} {meth : Method} {c : Code} {l : Launch} {b : Nat} {xs : Nat → Int32} {V : GV} {y z : Nat → Nat} (C0 : lw_At p s m meth c b 6 xs) (hg : ∀ w ∈ gw, w.before #[Value.ref b] s = true) (hK : va_K V.1 vwCl (tyV V) s) (hE : En V (fun q : Nat => s.heap.size ≤ q) s s.heap) {H : Heap} {locs : List Loc} (hP : va_P V.1 vwCl (xW V y ++ mW V z) H) (hD : va_D (fun q : Nat => s.heap.size ≤ q) (xW V y ++ mW V z)) (hS : va_S (fun q : Nat => s.heap.size ≤ q) s.heap H locs) {ls : Array Slot} (hl : lv_has ls 4 [(0, .ref b), (1, .ref (y 0)), (2, .ref (z 0)), (3, .int 0)]) : W p l e room_1 s m #[Value.ref b] below meth c H locs 84 223324 (lw_Z below #[Value.ref b] s) (F0 m 478 ls []) := by
  obtain ⟨hx, hb, hr, hml, hown, hts, hX, hbl, hlocks, hgv⟩ := id C0
  have hA : ∀ q : Nat, s.heap.size ≤ q → (fun q : Nat => s.heap.size ≤ q) q := fun _ h => h
  have hbA : ¬ (fun q : Nat => s.heap.size ≤ q) b := Nat.not_le.mpr hbl
  refine lv_aload_n hx hb dL_law_478 rfl (lv_at hl 1 rfl) ?_
  refine lv_aload_n hx hb dL_law_479 rfl (lv_at hl 0 rfl) ?_
  refine lv_iload_n hx hb dL_law_480 rfl (lv_at hl 3 rfl) ?_
  refine lv_iconst (v := 1) hx hb dL_law_481 (by decide) ?_
  refine lv_iadd hx hb dL_law_482 ?_
  refine tpi (y := 1) (by decide +kernel) ?_
  refine va_sld hx hb hX hbl hbA hS (vin (by decide +kernel)) dL_law_483 ?_
  refine tpi (y := xs 1) rfl ?_
  refine jnI (wr := mW V z) (rnV (rest := []) ⟨hx, hb, hml, hown, hg⟩ (c_X9_nights_0 l V y ((xs 1))) mt_X9_nights q_3_204 ⟨Nat.le_of_ble_eq_true rfl, Nat.le_of_ble_eq_true rfl⟩ hK hP hD hS hA hE [0, 2, 19, 26, 27, 28, 29] rfl rfl 0 rfl rfl rfl rfl hl.1 rfl (Nat.le_of_ble_eq_true rfl) dL_law_484 ⟨Nat.le_of_ble_eq_true rfl, Nat.le_of_ble_eq_true rfl⟩) hP hD hS hA [0, 2, 19, 26, 27, 28, 29] [59, 60, 61, 62, 63, 64, 65, 66, 67, 68, 69, 70, 71, 72, 73, 74, 75, 76, 77, 78, 79, 80, 81, 82, 83] rfl rfl rfl (by decide) (fun r w H locs hw hP hD hS => ?_)
  refine W.widen (k := 84) (n := 223324) (Nat.le_of_ble_eq_true rfl) (Nat.le_of_ble_eq_true rfl) ?_
  have hP : va_P V.1 vwCl (mW V z) H := takeP hP
  have hD : va_D (fun q : Nat => s.heap.size ≤ q) (mW V z) := takeD hD
  refine lv_aload_n hx hb dL_law_487 rfl (lv_at hl 2 rfl) ?_
  refine lv_aload_n hx hb dL_law_488 rfl (lv_at hl 0 rfl) ?_
  refine lv_iload_n hx hb dL_law_489 rfl (lv_at hl 3 rfl) ?_
  refine lv_iconst (v := 1) hx hb dL_law_490 (by decide) ?_
  refine lv_iadd hx hb dL_law_491 ?_
  refine tpi (y := 1) (by decide +kernel) ?_
  refine va_sld hx hb hX hbl hbA hS (vin (by decide +kernel)) dL_law_492 ?_
  refine tpi (y := xs 1) rfl ?_
  refine jnI (wr := []) (rnV (rest := [.int r]) ⟨hx, hb, hml, hown, hg⟩ (c_X10_nights_0 l V z ((xs 1))) mt_X10_nights q_7_76 ⟨Nat.le_of_ble_eq_true rfl, Nat.le_of_ble_eq_true rfl⟩ hK hP hD hS hA hE [0, 6, 24] rfl rfl 0 rfl rfl rfl rfl hl.1 rfl (Nat.le_of_ble_eq_true rfl) dL_law_493 ⟨Nat.le_of_ble_eq_true rfl, Nat.le_of_ble_eq_true rfl⟩) hP hD hS hA [0, 6, 24] [] rfl rfl rfl (by decide) (fun r2 w2 H locs hw2 hP hD hS => ?_)
  refine W.widen (k := 84) (n := 223324) (Nat.le_of_ble_eq_true rfl) (Nat.le_of_ble_eq_true rfl) ?_
  have e9 : r = r2 := by
    rcases hw with ⟨f_1, ex, -⟩ | ⟨f_2, f_3, ex, -⟩ | ⟨_, f_4, f_5, ex, -⟩
    · rcases hw2 with ⟨f_6, em, -⟩ | ⟨f_7, f_8, em, -⟩ | ⟨_, f_9, f_10, em, -⟩
      · exact ex.trans em.symm
      · exact ex.trans em.symm
      · exact False.elim (by simp only [tI_lt, tI_le, tI_eq, tL_lt, tL_le, tL_eq, tWx, (by decide : (1 : Int32).toInt = 1), (by decide : (1 : Int64).toInt = 1), (by decide : (99 : Int64).toInt = 99)] at f_1 f_9 f_10; omega)
    · rcases hw2 with ⟨f_6, em, -⟩ | ⟨f_7, f_8, em, -⟩ | ⟨_, f_9, f_10, em, -⟩
      · exact ex.trans em.symm
      · exact ex.trans em.symm
      · exact False.elim (by simp only [tI_lt, tI_le, tI_eq, tL_lt, tL_le, tL_eq, tWx, (by decide : (1 : Int32).toInt = 1), (by decide : (1 : Int64).toInt = 1), (by decide : (99 : Int32).toInt = 99), (by decide : (99 : Int64).toInt = 99)] at f_2 f_3 f_9 f_10; omega)
    · rcases hw2 with ⟨f_6, em, -⟩ | ⟨f_7, f_8, em, -⟩ | ⟨_, f_9, f_10, em, -⟩
      · exact False.elim (by simp only [tI_lt, tI_le, tI_eq, tL_lt, tL_le, tL_eq, tWx, (by decide : (1 : Int32).toInt = 1), (by decide : (1 : Int64).toInt = 1), (by decide : (99 : Int32).toInt = 99)] at f_4 f_5 f_6; omega)
      · exact False.elim (by simp only [tI_lt, tI_le, tI_eq, tL_lt, tL_le, tL_eq, tWx, (by decide : (1 : Int32).toInt = 1), (by decide : (1 : Int64).toInt = 1), (by decide : (99 : Int32).toInt = 99), (by decide : (99 : Int64).toInt = 99)] at f_4 f_5 f_7 f_8; omega)
      · exact ex.trans em.symm
  refine lv_icmp_eq (tgt := 1549) hx hb dL_law_496 (by decide) (fun _ => ?_) (fun c_1 => absurd e9 c_1)
  exact law_end C0 (Nat.le_of_ble_eq_true rfl) (Nat.le_of_ble_eq_true rfl) hS (lv_sub hl [0, 3] rfl)
theorem dL_law_501 : decode cL_law 501 = .ok (.aload_n 1, 1) := by decide +kernel
theorem dL_law_502 : decode cL_law 502 = .ok (.aload_n 0, 1) := by decide +kernel
theorem dL_law_503 : decode cL_law 503 = .ok (.iload_n 3, 1) := by decide +kernel
theorem dL_law_504 : decode cL_law 504 = .ok (.iconst 1, 1) := by decide +kernel
theorem dL_law_505 : decode cL_law 505 = .ok (.iadd, 1) := by decide +kernel
theorem dL_law_506 : decode cL_law 506 = .ok (.iaload, 1) := by decide +kernel
theorem q_3_211 : Cond.code yX9_steal prog_1_method_20_code 3 (some FieldType.int) ∈ gw := gw_3 (i := 211) (rfl) rfl
theorem q_3_209 : Cond.instanceMethod yX9_steal ∈ gw := gw_3 (i := 209) (by decide +kernel) rfl
theorem q_3_210 : Cond.selects "BeaconDelay" yX9_steal yX9_steal ∈ gw := gw_3 (i := 210) (by decide +kernel) rfl
theorem mt_X9_steal : MtV yX9_steal cX9_steal 3 (some .int) 1 := ⟨⟨q_3_211, q_1_1, by decide +kernel, by decide +kernel, by decide +kernel⟩, q_3_209, q_3_210⟩
theorem q_3_208 : Cond.methodLink "BeaconDelayLaw" 52 yX9_steal ∈ gw := gw_3 (i := 208) (by decide +kernel) rfl
theorem dL_law_507 : decode cL_law 507 = .ok (.invokevirtual 52, 3) := by decide +kernel
theorem dL_law_510 : decode cL_law 510 = .ok (.aload_n 2, 1) := by decide +kernel
theorem dL_law_511 : decode cL_law 511 = .ok (.aload_n 0, 1) := by decide +kernel
theorem dL_law_512 : decode cL_law 512 = .ok (.iload_n 3, 1) := by decide +kernel
theorem dL_law_513 : decode cL_law 513 = .ok (.iconst 1, 1) := by decide +kernel
theorem dL_law_514 : decode cL_law 514 = .ok (.iadd, 1) := by decide +kernel
theorem dL_law_515 : decode cL_law 515 = .ok (.iaload, 1) := by decide +kernel
theorem q_7_84 : Cond.code yX10_steal prog_12_method_64_code 3 (some FieldType.int) ∈ gw := gw_7 (i := 84) (rfl) rfl
theorem q_7_82 : Cond.instanceMethod yX10_steal ∈ gw := gw_7 (i := 82) (by decide +kernel) rfl
theorem q_7_83 : Cond.selects "BeaconDelayModel" yX10_steal yX10_steal ∈ gw := gw_7 (i := 83) (by decide +kernel) rfl
theorem mt_X10_steal : MtV yX10_steal cX10_steal 3 (some .int) 1 := ⟨⟨q_7_84, q_1_9, by decide +kernel, by decide +kernel, by decide +kernel⟩, q_7_82, q_7_83⟩
theorem q_7_81 : Cond.methodLink "BeaconDelayLaw" 55 yX10_steal ∈ gw := gw_7 (i := 81) (by decide +kernel) rfl
theorem dL_law_516 : decode cL_law 516 = .ok (.invokevirtual 55, 3) := by decide +kernel
theorem dL_law_519 : decode cL_law 519 = .ok (.if_icmp .eq 1030, 3) := by decide +kernel
-- steal
set_option maxHeartbeats 4000000 in
set_option maxRecDepth 100000 in
theorem lc_9 {p : Program} {e : Env} {s : State} {m : MethodId} {below : List Frame} {meth : Method} {c : Code} {l : Launch} {b : Nat} {xs : Nat → Int32} {V : GV} {y z : Nat → Nat} (C0 : lw_At p s m meth c b 6 xs) (hg : ∀ w ∈ gw, w.before #[Value.ref b] s = true) (hK : va_K V.1 vwCl (tyV V) s) (hE : En V (fun q : Nat => s.heap.size ≤ q) s s.heap) {H : Heap} {locs : List Loc} (hP : va_P V.1 vwCl (xW V y ++ mW V z) H) (hD : va_D (fun q : Nat => s.heap.size ≤ q) (xW V y ++ mW V z)) (hS : va_S (fun q : Nat => s.heap.size ≤ q) s.heap H locs) {ls : Array Slot} (hl : lv_has ls 4 [(0, .ref b), (1, .ref (y 0)), (2, .ref (z 0)), (3, .int 0)]) : W p l e room_1 s m #[Value.ref b] below meth c H locs 84 223324 (lw_Z below #[Value.ref b] s) (F0 m 501 ls []) := by
  obtain ⟨hx, hb, hr, hml, hown, hts, hX, hbl, hlocks, hgv⟩ := id C0
  have hA : ∀ q : Nat, s.heap.size ≤ q → (fun q : Nat => s.heap.size ≤ q) q := fun _ h => h
  have hbA : ¬ (fun q : Nat => s.heap.size ≤ q) b := Nat.not_le.mpr hbl
  refine lv_aload_n hx hb dL_law_501 rfl (lv_at hl 1 rfl) ?_
  refine lv_aload_n hx hb dL_law_502 rfl (lv_at hl 0 rfl) ?_
  refine lv_iload_n hx hb dL_law_503 rfl (lv_at hl 3 rfl) ?_
  refine lv_iconst (v := 1) hx hb dL_law_504 (by decide) ?_
  refine lv_iadd hx hb dL_law_505 ?_
  refine tpi (y := 1) (by decide +kernel) ?_
  refine va_sld hx hb hX hbl hbA hS (vin (by decide +kernel)) dL_law_506 ?_
  refine tpi (y := xs 1) rfl ?_
  refine jnI (wr := mW V z) (rnV (rest := []) ⟨hx, hb, hml, hown, hg⟩ (c_X9_steal_0 l V y ((xs 1))) mt_X9_steal q_3_208 ⟨Nat.le_of_ble_eq_true rfl, Nat.le_of_ble_eq_true rfl⟩ hK hP hD hS hA hE [0, 2] rfl rfl 0 rfl rfl rfl rfl hl.1 rfl (Nat.le_of_ble_eq_true rfl) dL_law_507 ⟨Nat.le_of_ble_eq_true rfl, Nat.le_of_ble_eq_true rfl⟩) hP hD hS hA [0, 2] [59, 60, 61, 62, 63, 64, 65, 66, 67, 68, 69, 70, 71, 72, 73, 74, 75, 76, 77, 78, 79, 80, 81, 82, 83] rfl rfl rfl (by decide) (fun r w H locs hw hP hD hS => ?_)
  refine W.widen (k := 84) (n := 223324) (Nat.le_of_ble_eq_true rfl) (Nat.le_of_ble_eq_true rfl) ?_
  have hP : va_P V.1 vwCl (mW V z) H := takeP hP
  have hD : va_D (fun q : Nat => s.heap.size ≤ q) (mW V z) := takeD hD
  refine lv_aload_n hx hb dL_law_510 rfl (lv_at hl 2 rfl) ?_
  refine lv_aload_n hx hb dL_law_511 rfl (lv_at hl 0 rfl) ?_
  refine lv_iload_n hx hb dL_law_512 rfl (lv_at hl 3 rfl) ?_
  refine lv_iconst (v := 1) hx hb dL_law_513 (by decide) ?_
  refine lv_iadd hx hb dL_law_514 ?_
  refine tpi (y := 1) (by decide +kernel) ?_
  refine va_sld hx hb hX hbl hbA hS (vin (by decide +kernel)) dL_law_515 ?_
  refine tpi (y := xs 1) rfl ?_
  refine jnI (wr := []) (rnV (rest := [.int r]) ⟨hx, hb, hml, hown, hg⟩ (c_X10_steal_0 l V z ((xs 1))) mt_X10_steal q_7_81 ⟨Nat.le_of_ble_eq_true rfl, Nat.le_of_ble_eq_true rfl⟩ hK hP hD hS hA hE [0, 24] rfl rfl 0 rfl rfl rfl rfl hl.1 rfl (Nat.le_of_ble_eq_true rfl) dL_law_516 ⟨Nat.le_of_ble_eq_true rfl, Nat.le_of_ble_eq_true rfl⟩) hP hD hS hA [0, 24] [] rfl rfl rfl (by decide) (fun r2 w2 H locs hw2 hP hD hS => ?_)
  refine W.widen (k := 84) (n := 223324) (Nat.le_of_ble_eq_true rfl) (Nat.le_of_ble_eq_true rfl) ?_
  have e9 : r = r2 := by
    obtain ⟨ex, -⟩ := hw
    obtain ⟨em, -⟩ := hw2
    exact ex.trans em.symm
  refine lv_icmp_eq (tgt := 1549) hx hb dL_law_519 (by decide) (fun _ => ?_) (fun c_1 => absurd e9 c_1)
  exact law_end C0 (Nat.le_of_ble_eq_true rfl) (Nat.le_of_ble_eq_true rfl) hS (lv_sub hl [0, 3] rfl)
theorem dL_law_524 : decode cL_law 524 = .ok (.aload_n 1, 1) := by decide +kernel
theorem dL_law_525 : decode cL_law 525 = .ok (.aload_n 0, 1) := by decide +kernel
theorem dL_law_526 : decode cL_law 526 = .ok (.iload_n 3, 1) := by decide +kernel
theorem dL_law_527 : decode cL_law 527 = .ok (.iconst 1, 1) := by decide +kernel
theorem dL_law_528 : decode cL_law 528 = .ok (.iadd, 1) := by decide +kernel
theorem dL_law_529 : decode cL_law 529 = .ok (.iaload, 1) := by decide +kernel
theorem q_3_215 : Cond.code yX9_weather prog_1_method_21_code 3 (some FieldType.int) ∈ gw := gw_3 (i := 215) (rfl) rfl
theorem q_3_213 : Cond.instanceMethod yX9_weather ∈ gw := gw_3 (i := 213) (by decide +kernel) rfl
theorem q_3_214 : Cond.selects "BeaconDelay" yX9_weather yX9_weather ∈ gw := gw_3 (i := 214) (by decide +kernel) rfl
theorem mt_X9_weather : MtV yX9_weather cX9_weather 3 (some .int) 1 := ⟨⟨q_3_215, q_1_1, by decide +kernel, by decide +kernel, by decide +kernel⟩, q_3_213, q_3_214⟩
theorem q_3_212 : Cond.methodLink "BeaconDelayLaw" 56 yX9_weather ∈ gw := gw_3 (i := 212) (by decide +kernel) rfl
theorem dL_law_530 : decode cL_law 530 = .ok (.invokevirtual 56, 3) := by decide +kernel
theorem dL_law_533 : decode cL_law 533 = .ok (.aload_n 2, 1) := by decide +kernel
theorem dL_law_534 : decode cL_law 534 = .ok (.aload_n 0, 1) := by decide +kernel
theorem dL_law_535 : decode cL_law 535 = .ok (.iload_n 3, 1) := by decide +kernel
theorem dL_law_536 : decode cL_law 536 = .ok (.iconst 1, 1) := by decide +kernel
theorem dL_law_537 : decode cL_law 537 = .ok (.iadd, 1) := by decide +kernel
theorem dL_law_538 : decode cL_law 538 = .ok (.iaload, 1) := by decide +kernel
theorem q_7_96 : Cond.code yX10_weather prog_12_method_65_code 2 (some FieldType.int) ∈ gw := gw_7 (i := 96) (rfl) rfl
theorem q_7_94 : Cond.instanceMethod yX10_weather ∈ gw := gw_7 (i := 94) (by decide +kernel) rfl
theorem q_7_95 : Cond.selects "BeaconDelayModel" yX10_weather yX10_weather ∈ gw := gw_7 (i := 95) (by decide +kernel) rfl
theorem mt_X10_weather : MtV yX10_weather cX10_weather 2 (some .int) 1 := ⟨⟨q_7_96, q_1_9, by decide +kernel, by decide +kernel, by decide +kernel⟩, q_7_94, q_7_95⟩
theorem q_7_93 : Cond.methodLink "BeaconDelayLaw" 59 yX10_weather ∈ gw := gw_7 (i := 93) (by decide +kernel) rfl
theorem dL_law_539 : decode cL_law 539 = .ok (.invokevirtual 59, 3) := by decide +kernel
theorem dL_law_542 : decode cL_law 542 = .ok (.if_icmp .eq 1007, 3) := by decide +kernel
-- weather
set_option maxHeartbeats 4000000 in
set_option maxRecDepth 100000 in
theorem lc_10 {p : Program} {e : Env} {s : State} {m : MethodId} {below : List Frame} {meth : Method} {c : Code} {l : Launch} {b : Nat} {xs : Nat → Int32} {V : GV} {y z : Nat → Nat} (C0 : lw_At p s m meth c b 6 xs) (hg : ∀ w ∈ gw, w.before #[Value.ref b] s = true) (hK : va_K V.1 vwCl (tyV V) s) (hE : En V (fun q : Nat => s.heap.size ≤ q) s s.heap) {H : Heap} {locs : List Loc} (hP : va_P V.1 vwCl (xW V y ++ mW V z) H) (hD : va_D (fun q : Nat => s.heap.size ≤ q) (xW V y ++ mW V z)) (hS : va_S (fun q : Nat => s.heap.size ≤ q) s.heap H locs) {ls : Array Slot} (hl : lv_has ls 4 [(0, .ref b), (1, .ref (y 0)), (2, .ref (z 0)), (3, .int 0)]) : W p l e room_1 s m #[Value.ref b] below meth c H locs 84 223324 (lw_Z below #[Value.ref b] s) (F0 m 524 ls []) := by
  obtain ⟨hx, hb, hr, hml, hown, hts, hX, hbl, hlocks, hgv⟩ := id C0
  have hA : ∀ q : Nat, s.heap.size ≤ q → (fun q : Nat => s.heap.size ≤ q) q := fun _ h => h
  have hbA : ¬ (fun q : Nat => s.heap.size ≤ q) b := Nat.not_le.mpr hbl
  refine lv_aload_n hx hb dL_law_524 rfl (lv_at hl 1 rfl) ?_
  refine lv_aload_n hx hb dL_law_525 rfl (lv_at hl 0 rfl) ?_
  refine lv_iload_n hx hb dL_law_526 rfl (lv_at hl 3 rfl) ?_
  refine lv_iconst (v := 1) hx hb dL_law_527 (by decide) ?_
  refine lv_iadd hx hb dL_law_528 ?_
  refine tpi (y := 1) (by decide +kernel) ?_
  refine va_sld hx hb hX hbl hbA hS (vin (by decide +kernel)) dL_law_529 ?_
  refine tpi (y := xs 1) rfl ?_
  refine jnI (wr := mW V z) (rnV (rest := []) ⟨hx, hb, hml, hown, hg⟩ (c_X9_weather_0 l V y ((xs 1))) mt_X9_weather q_3_212 ⟨Nat.le_of_ble_eq_true rfl, Nat.le_of_ble_eq_true rfl⟩ hK hP hD hS hA hE [0, 26, 27, 28, 29] rfl rfl 0 rfl rfl rfl rfl hl.1 rfl (Nat.le_of_ble_eq_true rfl) dL_law_530 ⟨Nat.le_of_ble_eq_true rfl, Nat.le_of_ble_eq_true rfl⟩) hP hD hS hA [0, 26, 27, 28, 29] [59, 60, 61, 62, 63, 64, 65, 66, 67, 68, 69, 70, 71, 72, 73, 74, 75, 76, 77, 78, 79, 80, 81, 82, 83] rfl rfl rfl (by decide) (fun r w H locs hw hP hD hS => ?_)
  refine W.widen (k := 84) (n := 223324) (Nat.le_of_ble_eq_true rfl) (Nat.le_of_ble_eq_true rfl) ?_
  have hP : va_P V.1 vwCl (mW V z) H := takeP hP
  have hD : va_D (fun q : Nat => s.heap.size ≤ q) (mW V z) := takeD hD
  refine lv_aload_n hx hb dL_law_533 rfl (lv_at hl 2 rfl) ?_
  refine lv_aload_n hx hb dL_law_534 rfl (lv_at hl 0 rfl) ?_
  refine lv_iload_n hx hb dL_law_535 rfl (lv_at hl 3 rfl) ?_
  refine lv_iconst (v := 1) hx hb dL_law_536 (by decide) ?_
  refine lv_iadd hx hb dL_law_537 ?_
  refine tpi (y := 1) (by decide +kernel) ?_
  refine va_sld hx hb hX hbl hbA hS (vin (by decide +kernel)) dL_law_538 ?_
  refine tpi (y := xs 1) rfl ?_
  refine jnI (wr := []) (rnV (rest := [.int r]) ⟨hx, hb, hml, hown, hg⟩ (c_X10_weather_0 l V z ((xs 1))) mt_X10_weather q_7_93 ⟨Nat.le_of_ble_eq_true rfl, Nat.le_of_ble_eq_true rfl⟩ hK hP hD hS hA hE [0, 6, 24] rfl rfl 0 rfl rfl rfl rfl hl.1 rfl (Nat.le_of_ble_eq_true rfl) dL_law_539 ⟨Nat.le_of_ble_eq_true rfl, Nat.le_of_ble_eq_true rfl⟩) hP hD hS hA [0, 6, 24] [] rfl rfl rfl (by decide) (fun r2 w2 H locs hw2 hP hD hS => ?_)
  refine W.widen (k := 84) (n := 223324) (Nat.le_of_ble_eq_true rfl) (Nat.le_of_ble_eq_true rfl) ?_
  have e9 : r = r2 := by
    rcases hw with ⟨f_1, ex, -⟩ | ⟨f_2, f_3, ex, -⟩ | ⟨f_4, f_5, ex, -⟩
    · rcases hw2 with ⟨f_6, em, -⟩ | ⟨f_7, f_8, em, -⟩ | ⟨f_9, f_10, em, -⟩
      · exact ex.trans em.symm
      · exact ex.trans em.symm
      · exact False.elim (by simp only [tI_lt, tI_le, tI_eq, tL_lt, tL_le, tL_eq, tWx, (by decide : (0 : Int32).toInt = 0), (by decide : (0 : Int64).toInt = 0), (by decide : (1 : Int32).toInt = 1), (by decide : (1 : Int64).toInt = 1), (by decide : (9 : Int64).toInt = 9)] at f_1 f_9 f_10; omega)
    · rcases hw2 with ⟨f_6, em, -⟩ | ⟨f_7, f_8, em, -⟩ | ⟨f_9, f_10, em, -⟩
      · exact ex.trans em.symm
      · exact ex.trans em.symm
      · exact False.elim (by simp only [tI_lt, tI_le, tI_eq, tL_lt, tL_le, tL_eq, tWx, (by decide : (0 : Int32).toInt = 0), (by decide : (0 : Int64).toInt = 0), (by decide : (1 : Int32).toInt = 1), (by decide : (1 : Int64).toInt = 1), (by decide : (9 : Int64).toInt = 9), (by decide : (10 : Int32).toInt = 10)] at f_2 f_3 f_9 f_10; omega)
    · rcases hw2 with ⟨f_6, em, -⟩ | ⟨f_7, f_8, em, -⟩ | ⟨f_9, f_10, em, -⟩
      · exact False.elim (by simp only [tI_lt, tI_le, tI_eq, tL_lt, tL_le, tL_eq, tWx, (by decide : (0 : Int32).toInt = 0), (by decide : (0 : Int64).toInt = 0), (by decide : (1 : Int32).toInt = 1), (by decide : (1 : Int64).toInt = 1), (by decide : (10 : Int32).toInt = 10)] at f_4 f_5 f_6; omega)
      · exact False.elim (by simp only [tI_lt, tI_le, tI_eq, tL_lt, tL_le, tL_eq, tWx, (by decide : (0 : Int32).toInt = 0), (by decide : (0 : Int64).toInt = 0), (by decide : (1 : Int32).toInt = 1), (by decide : (1 : Int64).toInt = 1), (by decide : (9 : Int64).toInt = 9), (by decide : (10 : Int32).toInt = 10)] at f_4 f_5 f_7 f_8; omega)
      · exact ex.trans em.symm
  refine lv_icmp_eq (tgt := 1549) hx hb dL_law_542 (by decide) (fun _ => ?_) (fun c_1 => absurd e9 c_1)
  exact law_end C0 (Nat.le_of_ble_eq_true rfl) (Nat.le_of_ble_eq_true rfl) hS (lv_sub hl [0, 3] rfl)
theorem dL_law_547 : decode cL_law 547 = .ok (.aload_n 1, 1) := by decide +kernel
theorem dL_law_548 : decode cL_law 548 = .ok (.aload_n 0, 1) := by decide +kernel
theorem dL_law_549 : decode cL_law 549 = .ok (.iload_n 3, 1) := by decide +kernel
theorem dL_law_550 : decode cL_law 550 = .ok (.iconst 1, 1) := by decide +kernel
theorem dL_law_551 : decode cL_law 551 = .ok (.iadd, 1) := by decide +kernel
theorem dL_law_552 : decode cL_law 552 = .ok (.iaload, 1) := by decide +kernel
theorem q_3_219 : Cond.code yX9_undo prog_1_method_22_code 2 (some FieldType.int) ∈ gw := gw_3 (i := 219) (rfl) rfl
theorem q_3_217 : Cond.instanceMethod yX9_undo ∈ gw := gw_3 (i := 217) (by decide +kernel) rfl
theorem q_3_218 : Cond.selects "BeaconDelay" yX9_undo yX9_undo ∈ gw := gw_3 (i := 218) (by decide +kernel) rfl
theorem mt_X9_undo : MtV yX9_undo cX9_undo 2 (some .int) 1 := ⟨⟨q_3_219, q_1_1, by decide +kernel, by decide +kernel, by decide +kernel⟩, q_3_217, q_3_218⟩
theorem q_3_216 : Cond.methodLink "BeaconDelayLaw" 60 yX9_undo ∈ gw := gw_3 (i := 216) (by decide +kernel) rfl
theorem dL_law_553 : decode cL_law 553 = .ok (.invokevirtual 60, 3) := by decide +kernel
theorem dL_law_556 : decode cL_law 556 = .ok (.aload_n 2, 1) := by decide +kernel
theorem dL_law_557 : decode cL_law 557 = .ok (.aload_n 0, 1) := by decide +kernel
theorem dL_law_558 : decode cL_law 558 = .ok (.iload_n 3, 1) := by decide +kernel
theorem dL_law_559 : decode cL_law 559 = .ok (.iconst 1, 1) := by decide +kernel
theorem dL_law_560 : decode cL_law 560 = .ok (.iadd, 1) := by decide +kernel
theorem dL_law_561 : decode cL_law 561 = .ok (.iaload, 1) := by decide +kernel
theorem q_7_101 : Cond.code yX10_undo prog_12_method_66_code 3 (some FieldType.int) ∈ gw := gw_7 (i := 101) (rfl) rfl
theorem q_7_99 : Cond.instanceMethod yX10_undo ∈ gw := gw_7 (i := 99) (by decide +kernel) rfl
theorem q_7_100 : Cond.selects "BeaconDelayModel" yX10_undo yX10_undo ∈ gw := gw_7 (i := 100) (by decide +kernel) rfl
theorem mt_X10_undo : MtV yX10_undo cX10_undo 3 (some .int) 1 := ⟨⟨q_7_101, q_1_9, by decide +kernel, by decide +kernel, by decide +kernel⟩, q_7_99, q_7_100⟩
theorem q_7_98 : Cond.methodLink "BeaconDelayLaw" 63 yX10_undo ∈ gw := gw_7 (i := 98) (by decide +kernel) rfl
theorem dL_law_562 : decode cL_law 562 = .ok (.invokevirtual 63, 3) := by decide +kernel
theorem dL_law_565 : decode cL_law 565 = .ok (.if_icmp .eq 984, 3) := by decide +kernel
-- undo
set_option maxHeartbeats 4000000 in
set_option maxRecDepth 100000 in
theorem lc_11 {p : Program} {e : Env} {s : State} {m : MethodId} {below : List Frame} {meth : Method} {c : Code} {l : Launch} {b : Nat} {xs : Nat → Int32} {V : GV} {y z : Nat → Nat} (C0 : lw_At p s m meth c b 6 xs) (hg : ∀ w ∈ gw, w.before #[Value.ref b] s = true) (hK : va_K V.1 vwCl (tyV V) s) (hE : En V (fun q : Nat => s.heap.size ≤ q) s s.heap) {H : Heap} {locs : List Loc} (hP : va_P V.1 vwCl (xW V y ++ mW V z) H) (hD : va_D (fun q : Nat => s.heap.size ≤ q) (xW V y ++ mW V z)) (hS : va_S (fun q : Nat => s.heap.size ≤ q) s.heap H locs) {ls : Array Slot} (hl : lv_has ls 4 [(0, .ref b), (1, .ref (y 0)), (2, .ref (z 0)), (3, .int 0)]) : W p l e room_1 s m #[Value.ref b] below meth c H locs 84 223324 (lw_Z below #[Value.ref b] s) (F0 m 547 ls []) := by
  obtain ⟨hx, hb, hr, hml, hown, hts, hX, hbl, hlocks, hgv⟩ := id C0
  have hA : ∀ q : Nat, s.heap.size ≤ q → (fun q : Nat => s.heap.size ≤ q) q := fun _ h => h
  have hbA : ¬ (fun q : Nat => s.heap.size ≤ q) b := Nat.not_le.mpr hbl
  refine lv_aload_n hx hb dL_law_547 rfl (lv_at hl 1 rfl) ?_
  refine lv_aload_n hx hb dL_law_548 rfl (lv_at hl 0 rfl) ?_
  refine lv_iload_n hx hb dL_law_549 rfl (lv_at hl 3 rfl) ?_
  refine lv_iconst (v := 1) hx hb dL_law_550 (by decide) ?_
  refine lv_iadd hx hb dL_law_551 ?_
  refine tpi (y := 1) (by decide +kernel) ?_
  refine va_sld hx hb hX hbl hbA hS (vin (by decide +kernel)) dL_law_552 ?_
  refine tpi (y := xs 1) rfl ?_
  refine jnI (wr := mW V z) (rnV (rest := []) ⟨hx, hb, hml, hown, hg⟩ (c_X9_undo_0 l V y ((xs 1))) mt_X9_undo q_3_216 ⟨Nat.le_of_ble_eq_true rfl, Nat.le_of_ble_eq_true rfl⟩ hK hP hD hS hA hE [0, 26] rfl rfl 0 rfl rfl rfl rfl hl.1 rfl (Nat.le_of_ble_eq_true rfl) dL_law_553 ⟨Nat.le_of_ble_eq_true rfl, Nat.le_of_ble_eq_true rfl⟩) hP hD hS hA [0, 26] [59, 60, 61, 62, 63, 64, 65, 66, 67, 68, 69, 70, 71, 72, 73, 74, 75, 76, 77, 78, 79, 80, 81, 82, 83] rfl rfl rfl (by decide) (fun r w H locs hw hP hD hS => ?_)
  refine W.widen (k := 84) (n := 223324) (Nat.le_of_ble_eq_true rfl) (Nat.le_of_ble_eq_true rfl) ?_
  have hP : va_P V.1 vwCl (mW V z) H := takeP hP
  have hD : va_D (fun q : Nat => s.heap.size ≤ q) (mW V z) := takeD hD
  refine lv_aload_n hx hb dL_law_556 rfl (lv_at hl 2 rfl) ?_
  refine lv_aload_n hx hb dL_law_557 rfl (lv_at hl 0 rfl) ?_
  refine lv_iload_n hx hb dL_law_558 rfl (lv_at hl 3 rfl) ?_
  refine lv_iconst (v := 1) hx hb dL_law_559 (by decide) ?_
  refine lv_iadd hx hb dL_law_560 ?_
  refine tpi (y := 1) (by decide +kernel) ?_
  refine va_sld hx hb hX hbl hbA hS (vin (by decide +kernel)) dL_law_561 ?_
  refine tpi (y := xs 1) rfl ?_
  refine jnI (wr := []) (rnV (rest := [.int r]) ⟨hx, hb, hml, hown, hg⟩ (c_X10_undo_0 l V z ((xs 1))) mt_X10_undo q_7_98 ⟨Nat.le_of_ble_eq_true rfl, Nat.le_of_ble_eq_true rfl⟩ hK hP hD hS hA hE [0, 24] rfl rfl 0 rfl rfl rfl rfl hl.1 rfl (Nat.le_of_ble_eq_true rfl) dL_law_562 ⟨Nat.le_of_ble_eq_true rfl, Nat.le_of_ble_eq_true rfl⟩) hP hD hS hA [0, 24] [] rfl rfl rfl (by decide) (fun r2 w2 H locs hw2 hP hD hS => ?_)
  refine W.widen (k := 84) (n := 223324) (Nat.le_of_ble_eq_true rfl) (Nat.le_of_ble_eq_true rfl) ?_
  have e9 : r = r2 := by
    obtain ⟨ex, -⟩ := hw
    obtain ⟨em, -⟩ := hw2
    exact ex.trans em.symm
  refine lv_icmp_eq (tgt := 1549) hx hb dL_law_565 (by decide) (fun _ => ?_) (fun c_1 => absurd e9 c_1)
  exact law_end C0 (Nat.le_of_ble_eq_true rfl) (Nat.le_of_ble_eq_true rfl) hS (lv_sub hl [0, 3] rfl)
theorem dL_law_570 : decode cL_law 570 = .ok (.aload_n 1, 1) := by decide +kernel
theorem dL_law_571 : decode cL_law 571 = .ok (.aload_n 0, 1) := by decide +kernel
theorem dL_law_572 : decode cL_law 572 = .ok (.iload_n 3, 1) := by decide +kernel
theorem dL_law_573 : decode cL_law 573 = .ok (.iconst 1, 1) := by decide +kernel
theorem dL_law_574 : decode cL_law 574 = .ok (.iadd, 1) := by decide +kernel
theorem dL_law_575 : decode cL_law 575 = .ok (.iaload, 1) := by decide +kernel
theorem dL_law_576 : decode cL_law 576 = .ok (.aload_n 0, 1) := by decide +kernel
theorem dL_law_577 : decode cL_law 577 = .ok (.iload_n 3, 1) := by decide +kernel
theorem dL_law_578 : decode cL_law 578 = .ok (.iconst 2, 1) := by decide +kernel
theorem dL_law_579 : decode cL_law 579 = .ok (.iadd, 1) := by decide +kernel
theorem dL_law_580 : decode cL_law 580 = .ok (.iaload, 1) := by decide +kernel
theorem q_3_227 : Cond.code yX9_judge prog_1_method_28_code 11 (some FieldType.int) ∈ gw := gw_3 (i := 227) (rfl) rfl
theorem q_3_225 : Cond.instanceMethod yX9_judge ∈ gw := gw_3 (i := 225) (by decide +kernel) rfl
theorem q_3_226 : Cond.selects "BeaconDelay" yX9_judge yX9_judge ∈ gw := gw_3 (i := 226) (by decide +kernel) rfl
theorem mt_X9_judge : MtV yX9_judge cX9_judge 11 (some .int) 2 := ⟨⟨q_3_227, q_1_1, by decide +kernel, by decide +kernel, by decide +kernel⟩, q_3_225, q_3_226⟩
theorem q_3_224 : Cond.methodLink "BeaconDelayLaw" 64 yX9_judge ∈ gw := gw_3 (i := 224) (by decide +kernel) rfl
theorem dL_law_581 : decode cL_law 581 = .ok (.invokevirtual 64, 3) := by decide +kernel
theorem dL_law_584 : decode cL_law 584 = .ok (.aload_n 2, 1) := by decide +kernel
theorem dL_law_585 : decode cL_law 585 = .ok (.aload_n 0, 1) := by decide +kernel
theorem dL_law_586 : decode cL_law 586 = .ok (.iload_n 3, 1) := by decide +kernel
theorem dL_law_587 : decode cL_law 587 = .ok (.iconst 1, 1) := by decide +kernel
theorem dL_law_588 : decode cL_law 588 = .ok (.iadd, 1) := by decide +kernel
theorem dL_law_589 : decode cL_law 589 = .ok (.iaload, 1) := by decide +kernel
theorem dL_law_590 : decode cL_law 590 = .ok (.aload_n 0, 1) := by decide +kernel
theorem dL_law_591 : decode cL_law 591 = .ok (.iload_n 3, 1) := by decide +kernel
theorem dL_law_592 : decode cL_law 592 = .ok (.iconst 2, 1) := by decide +kernel
theorem dL_law_593 : decode cL_law 593 = .ok (.iadd, 1) := by decide +kernel
theorem dL_law_594 : decode cL_law 594 = .ok (.iaload, 1) := by decide +kernel
theorem q_7_106 : Cond.code yX10_judge prog_12_method_71_code 6 (some FieldType.int) ∈ gw := gw_7 (i := 106) (rfl) rfl
theorem q_7_104 : Cond.instanceMethod yX10_judge ∈ gw := gw_7 (i := 104) (by decide +kernel) rfl
theorem q_7_105 : Cond.selects "BeaconDelayModel" yX10_judge yX10_judge ∈ gw := gw_7 (i := 105) (by decide +kernel) rfl
theorem mt_X10_judge : MtV yX10_judge cX10_judge 6 (some .int) 2 := ⟨⟨q_7_106, q_1_9, by decide +kernel, by decide +kernel, by decide +kernel⟩, q_7_104, q_7_105⟩
theorem q_7_103 : Cond.methodLink "BeaconDelayLaw" 67 yX10_judge ∈ gw := gw_7 (i := 103) (by decide +kernel) rfl
theorem dL_law_595 : decode cL_law 595 = .ok (.invokevirtual 67, 3) := by decide +kernel
theorem dL_law_598 : decode cL_law 598 = .ok (.if_icmp .eq 951, 3) := by decide +kernel
-- judge
set_option maxHeartbeats 4000000 in
set_option maxRecDepth 100000 in
theorem lc_12 {p : Program} {e : Env} {s : State} {m : MethodId} {below : List Frame} {meth : Method} {c : Code} {l : Launch} {b : Nat} {xs : Nat → Int32} {V : GV} {y z : Nat → Nat} (C0 : lw_At p s m meth c b 6 xs) (hg : ∀ w ∈ gw, w.before #[Value.ref b] s = true) (hK : va_K V.1 vwCl (tyV V) s) (hE : En V (fun q : Nat => s.heap.size ≤ q) s s.heap) {H : Heap} {locs : List Loc} (hP : va_P V.1 vwCl (xW V y ++ mW V z) H) (hD : va_D (fun q : Nat => s.heap.size ≤ q) (xW V y ++ mW V z)) (hS : va_S (fun q : Nat => s.heap.size ≤ q) s.heap H locs) {ls : Array Slot} (hl : lv_has ls 4 [(0, .ref b), (1, .ref (y 0)), (2, .ref (z 0)), (3, .int 0)]) : W p l e room_1 s m #[Value.ref b] below meth c H locs 84 223324 (lw_Z below #[Value.ref b] s) (F0 m 570 ls []) := by
  obtain ⟨hx, hb, hr, hml, hown, hts, hX, hbl, hlocks, hgv⟩ := id C0
  have hA : ∀ q : Nat, s.heap.size ≤ q → (fun q : Nat => s.heap.size ≤ q) q := fun _ h => h
  have hbA : ¬ (fun q : Nat => s.heap.size ≤ q) b := Nat.not_le.mpr hbl
  refine lv_aload_n hx hb dL_law_570 rfl (lv_at hl 1 rfl) ?_
  refine lv_aload_n hx hb dL_law_571 rfl (lv_at hl 0 rfl) ?_
  refine lv_iload_n hx hb dL_law_572 rfl (lv_at hl 3 rfl) ?_
  refine lv_iconst (v := 1) hx hb dL_law_573 (by decide) ?_
  refine lv_iadd hx hb dL_law_574 ?_
  refine tpi (y := 1) (by decide +kernel) ?_
  refine va_sld hx hb hX hbl hbA hS (vin (by decide +kernel)) dL_law_575 ?_
  refine tpi (y := xs 1) rfl ?_
  refine lv_aload_n hx hb dL_law_576 rfl (lv_at hl 0 rfl) ?_
  refine lv_iload_n hx hb dL_law_577 rfl (lv_at hl 3 rfl) ?_
  refine lv_iconst (v := 2) hx hb dL_law_578 (by decide) ?_
  refine lv_iadd hx hb dL_law_579 ?_
  refine tpi (y := 2) (by decide +kernel) ?_
  refine va_sld hx hb hX hbl hbA hS (vin (by decide +kernel)) dL_law_580 ?_
  refine tpi (y := xs 2) rfl ?_
  refine jnI (wr := mW V z) (rnV (rest := []) ⟨hx, hb, hml, hown, hg⟩ (c_X9_judge_0 l V y ((xs 1)) ((xs 2))) mt_X9_judge q_3_224 ⟨Nat.le_of_ble_eq_true rfl, Nat.le_of_ble_eq_true rfl⟩ hK hP hD hS hA hE [0, 30, 33, 35, 37, 39] rfl rfl 0 rfl rfl rfl rfl hl.1 rfl (Nat.le_of_ble_eq_true rfl) dL_law_581 ⟨Nat.le_of_ble_eq_true rfl, Nat.le_of_ble_eq_true rfl⟩) hP hD hS hA [0, 30, 33, 35, 37, 39] [59, 60, 61, 62, 63, 64, 65, 66, 67, 68, 69, 70, 71, 72, 73, 74, 75, 76, 77, 78, 79, 80, 81, 82, 83] rfl rfl rfl (by decide) (fun r w H locs hw hP hD hS => ?_)
  refine W.widen (k := 84) (n := 223324) (Nat.le_of_ble_eq_true rfl) (Nat.le_of_ble_eq_true rfl) ?_
  have hP : va_P V.1 vwCl (mW V z) H := takeP hP
  have hD : va_D (fun q : Nat => s.heap.size ≤ q) (mW V z) := takeD hD
  refine lv_aload_n hx hb dL_law_584 rfl (lv_at hl 2 rfl) ?_
  refine lv_aload_n hx hb dL_law_585 rfl (lv_at hl 0 rfl) ?_
  refine lv_iload_n hx hb dL_law_586 rfl (lv_at hl 3 rfl) ?_
  refine lv_iconst (v := 1) hx hb dL_law_587 (by decide) ?_
  refine lv_iadd hx hb dL_law_588 ?_
  refine tpi (y := 1) (by decide +kernel) ?_
  refine va_sld hx hb hX hbl hbA hS (vin (by decide +kernel)) dL_law_589 ?_
  refine tpi (y := xs 1) rfl ?_
  refine lv_aload_n hx hb dL_law_590 rfl (lv_at hl 0 rfl) ?_
  refine lv_iload_n hx hb dL_law_591 rfl (lv_at hl 3 rfl) ?_
  refine lv_iconst (v := 2) hx hb dL_law_592 (by decide) ?_
  refine lv_iadd hx hb dL_law_593 ?_
  refine tpi (y := 2) (by decide +kernel) ?_
  refine va_sld hx hb hX hbl hbA hS (vin (by decide +kernel)) dL_law_594 ?_
  refine tpi (y := xs 2) rfl ?_
  refine jnI (wr := []) (rnV (rest := [.int r]) ⟨hx, hb, hml, hown, hg⟩ (c_X10_judge_0 l V z ((xs 1)) ((xs 2))) mt_X10_judge q_7_103 ⟨Nat.le_of_ble_eq_true rfl, Nat.le_of_ble_eq_true rfl⟩ hK hP hD hS hA hE [0, 21] rfl rfl 0 rfl rfl rfl rfl hl.1 rfl (Nat.le_of_ble_eq_true rfl) dL_law_595 ⟨Nat.le_of_ble_eq_true rfl, Nat.le_of_ble_eq_true rfl⟩) hP hD hS hA [0, 21] [] rfl rfl rfl (by decide) (fun r2 w2 H locs hw2 hP hD hS => ?_)
  refine W.widen (k := 84) (n := 223324) (Nat.le_of_ble_eq_true rfl) (Nat.le_of_ble_eq_true rfl) ?_
  have e9 : r = r2 := by
    rcases hw with ⟨f_1, ex, -⟩ | ⟨f_2, f_3, ex, -⟩ | ⟨f_4, f_5, f_6, ex, -⟩ | ⟨f_7, f_8, f_9, f_10, ex, -⟩ | ⟨f_11, f_12, f_13, f_14, f_15, ex, -⟩ | ⟨f_16, f_17, f_18, f_19, f_20, ex, -⟩ | ⟨f_21, f_22, f_23, f_24, f_25, ex, -⟩ | ⟨f_26, f_27, f_28, f_29, f_30, ex, -⟩
    · rcases hw2 with ⟨f_31, em, -⟩ | ⟨f_32, f_33, em, -⟩ | ⟨f_34, f_35, f_36, em, -⟩ | ⟨f_37, f_38, f_39, f_40, em, -⟩ | ⟨f_41, f_42, f_43, f_44, f_45, em, -⟩ | ⟨f_46, f_47, f_48, f_49, f_50, em, -⟩ | ⟨f_51, f_52, f_53, f_54, f_55, em, -⟩ | ⟨f_56, f_57, f_58, f_59, f_60, em, -⟩
      · exact ex.trans em.symm
      · exact ex.trans em.symm
      · exact ex.trans em.symm
      · exact ex.trans em.symm
      · exact False.elim (by simp only [tI_lt, tI_le, tI_eq, tL_lt, tL_le, tL_eq, tWx, (by decide : (0 : Int32).toInt = 0), (by decide : (0 : Int64).toInt = 0), (by decide : (1 : Int32).toInt = 1), (by decide : (1 : Int64).toInt = 1), (by decide : (3 : Int64).toInt = 3)] at f_1 f_43 f_44 f_45; omega)
      · exact False.elim (by simp only [tI_lt, tI_le, tI_eq, tL_lt, tL_le, tL_eq, tWx, (by decide : (0 : Int32).toInt = 0), (by decide : (0 : Int64).toInt = 0), (by decide : (1 : Int32).toInt = 1), (by decide : (1 : Int64).toInt = 1), (by decide : (3 : Int64).toInt = 3)] at f_1 f_48 f_49 f_50; omega)
      · exact False.elim (by simp only [tI_lt, tI_le, tI_eq, tL_lt, tL_le, tL_eq, tWx, (by decide : (0 : Int32).toInt = 0), (by decide : (0 : Int64).toInt = 0), (by decide : (1 : Int32).toInt = 1), (by decide : (1 : Int64).toInt = 1), (by decide : (2 : Int32).toInt = 2), (by decide : (3 : Int64).toInt = 3)] at f_1 f_53 f_54 f_55; omega)
      · exact False.elim (by simp only [tI_lt, tI_le, tI_eq, tL_lt, tL_le, tL_eq, tWx, (by decide : (0 : Int32).toInt = 0), (by decide : (0 : Int64).toInt = 0), (by decide : (1 : Int32).toInt = 1), (by decide : (1 : Int64).toInt = 1), (by decide : (3 : Int32).toInt = 3), (by decide : (3 : Int64).toInt = 3)] at f_1 f_58 f_59 f_60; omega)
    · rcases hw2 with ⟨f_31, em, -⟩ | ⟨f_32, f_33, em, -⟩ | ⟨f_34, f_35, f_36, em, -⟩ | ⟨f_37, f_38, f_39, f_40, em, -⟩ | ⟨f_41, f_42, f_43, f_44, f_45, em, -⟩ | ⟨f_46, f_47, f_48, f_49, f_50, em, -⟩ | ⟨f_51, f_52, f_53, f_54, f_55, em, -⟩ | ⟨f_56, f_57, f_58, f_59, f_60, em, -⟩
      · exact ex.trans em.symm
      · exact ex.trans em.symm
      · exact ex.trans em.symm
      · exact ex.trans em.symm
      · exact False.elim (by simp only [tI_lt, tI_le, tI_eq, tL_lt, tL_le, tL_eq, tWx, (by decide : (0 : Int32).toInt = 0), (by decide : (0 : Int64).toInt = 0), (by decide : (1 : Int32).toInt = 1), (by decide : (1 : Int64).toInt = 1), (by decide : (3 : Int64).toInt = 3), (by decide : (4 : Int32).toInt = 4)] at f_2 f_3 f_43 f_44 f_45; omega)
      · exact False.elim (by simp only [tI_lt, tI_le, tI_eq, tL_lt, tL_le, tL_eq, tWx, (by decide : (0 : Int32).toInt = 0), (by decide : (0 : Int64).toInt = 0), (by decide : (1 : Int32).toInt = 1), (by decide : (1 : Int64).toInt = 1), (by decide : (3 : Int64).toInt = 3), (by decide : (4 : Int32).toInt = 4)] at f_2 f_3 f_48 f_49 f_50; omega)
      · exact False.elim (by simp only [tI_lt, tI_le, tI_eq, tL_lt, tL_le, tL_eq, tWx, (by decide : (0 : Int32).toInt = 0), (by decide : (0 : Int64).toInt = 0), (by decide : (1 : Int32).toInt = 1), (by decide : (1 : Int64).toInt = 1), (by decide : (2 : Int32).toInt = 2), (by decide : (3 : Int64).toInt = 3), (by decide : (4 : Int32).toInt = 4)] at f_2 f_3 f_53 f_54 f_55; omega)
      · exact False.elim (by simp only [tI_lt, tI_le, tI_eq, tL_lt, tL_le, tL_eq, tWx, (by decide : (0 : Int32).toInt = 0), (by decide : (0 : Int64).toInt = 0), (by decide : (1 : Int32).toInt = 1), (by decide : (1 : Int64).toInt = 1), (by decide : (3 : Int32).toInt = 3), (by decide : (3 : Int64).toInt = 3), (by decide : (4 : Int32).toInt = 4)] at f_2 f_3 f_58 f_59 f_60; omega)
    · rcases hw2 with ⟨f_31, em, -⟩ | ⟨f_32, f_33, em, -⟩ | ⟨f_34, f_35, f_36, em, -⟩ | ⟨f_37, f_38, f_39, f_40, em, -⟩ | ⟨f_41, f_42, f_43, f_44, f_45, em, -⟩ | ⟨f_46, f_47, f_48, f_49, f_50, em, -⟩ | ⟨f_51, f_52, f_53, f_54, f_55, em, -⟩ | ⟨f_56, f_57, f_58, f_59, f_60, em, -⟩
      · exact ex.trans em.symm
      · exact ex.trans em.symm
      · exact ex.trans em.symm
      · exact ex.trans em.symm
      · exact False.elim (by simp only [tI_lt, tI_le, tI_eq, tL_lt, tL_le, tL_eq, tWx, (by decide : (0 : Int32).toInt = 0), (by decide : (0 : Int64).toInt = 0), (by decide : (2 : Int32).toInt = 2), (by decide : (2 : Int64).toInt = 2), (by decide : (3 : Int64).toInt = 3)] at f_6 f_41 f_42; omega)
      · exact False.elim (by simp only [tI_lt, tI_le, tI_eq, tL_lt, tL_le, tL_eq, tWx, (by decide : (0 : Int32).toInt = 0), (by decide : (0 : Int64).toInt = 0), (by decide : (2 : Int32).toInt = 2), (by decide : (2 : Int64).toInt = 2), (by decide : (3 : Int64).toInt = 3)] at f_6 f_46 f_47; omega)
      · exact False.elim (by simp only [tI_lt, tI_le, tI_eq, tL_lt, tL_le, tL_eq, tWx, (by decide : (0 : Int32).toInt = 0), (by decide : (0 : Int64).toInt = 0), (by decide : (2 : Int32).toInt = 2), (by decide : (2 : Int64).toInt = 2), (by decide : (3 : Int64).toInt = 3)] at f_6 f_51 f_52; omega)
      · exact False.elim (by simp only [tI_lt, tI_le, tI_eq, tL_lt, tL_le, tL_eq, tWx, (by decide : (0 : Int32).toInt = 0), (by decide : (0 : Int64).toInt = 0), (by decide : (2 : Int32).toInt = 2), (by decide : (2 : Int64).toInt = 2), (by decide : (3 : Int64).toInt = 3)] at f_6 f_56 f_57; omega)
    · rcases hw2 with ⟨f_31, em, -⟩ | ⟨f_32, f_33, em, -⟩ | ⟨f_34, f_35, f_36, em, -⟩ | ⟨f_37, f_38, f_39, f_40, em, -⟩ | ⟨f_41, f_42, f_43, f_44, f_45, em, -⟩ | ⟨f_46, f_47, f_48, f_49, f_50, em, -⟩ | ⟨f_51, f_52, f_53, f_54, f_55, em, -⟩ | ⟨f_56, f_57, f_58, f_59, f_60, em, -⟩
      · exact ex.trans em.symm
      · exact ex.trans em.symm
      · exact ex.trans em.symm
      · exact ex.trans em.symm
      · exact False.elim (by simp only [tI_lt, tI_le, tI_eq, tL_lt, tL_le, tL_eq, tWx, (by decide : (0 : Int32).toInt = 0), (by decide : (0 : Int64).toInt = 0), (by decide : (2 : Int32).toInt = 2), (by decide : (2 : Int64).toInt = 2), (by decide : (3 : Int32).toInt = 3), (by decide : (3 : Int64).toInt = 3)] at f_9 f_10 f_41 f_42; omega)
      · exact False.elim (by simp only [tI_lt, tI_le, tI_eq, tL_lt, tL_le, tL_eq, tWx, (by decide : (0 : Int32).toInt = 0), (by decide : (0 : Int64).toInt = 0), (by decide : (2 : Int32).toInt = 2), (by decide : (2 : Int64).toInt = 2), (by decide : (3 : Int32).toInt = 3), (by decide : (3 : Int64).toInt = 3)] at f_9 f_10 f_46 f_47; omega)
      · exact False.elim (by simp only [tI_lt, tI_le, tI_eq, tL_lt, tL_le, tL_eq, tWx, (by decide : (0 : Int32).toInt = 0), (by decide : (0 : Int64).toInt = 0), (by decide : (2 : Int32).toInt = 2), (by decide : (2 : Int64).toInt = 2), (by decide : (3 : Int32).toInt = 3), (by decide : (3 : Int64).toInt = 3)] at f_9 f_10 f_51 f_52; omega)
      · exact False.elim (by simp only [tI_lt, tI_le, tI_eq, tL_lt, tL_le, tL_eq, tWx, (by decide : (0 : Int32).toInt = 0), (by decide : (0 : Int64).toInt = 0), (by decide : (2 : Int32).toInt = 2), (by decide : (2 : Int64).toInt = 2), (by decide : (3 : Int32).toInt = 3), (by decide : (3 : Int64).toInt = 3)] at f_9 f_10 f_56 f_57; omega)
    · rcases hw2 with ⟨f_31, em, -⟩ | ⟨f_32, f_33, em, -⟩ | ⟨f_34, f_35, f_36, em, -⟩ | ⟨f_37, f_38, f_39, f_40, em, -⟩ | ⟨f_41, f_42, f_43, f_44, f_45, em, -⟩ | ⟨f_46, f_47, f_48, f_49, f_50, em, -⟩ | ⟨f_51, f_52, f_53, f_54, f_55, em, -⟩ | ⟨f_56, f_57, f_58, f_59, f_60, em, -⟩
      · exact False.elim (by simp only [tI_lt, tI_le, tI_eq, tL_lt, tL_le, tL_eq, tWx, (by decide : (0 : Int32).toInt = 0), (by decide : (0 : Int64).toInt = 0), (by decide : (2 : Int32).toInt = 2), (by decide : (2 : Int64).toInt = 2), (by decide : (3 : Int32).toInt = 3)] at f_13 f_14 f_31; omega)
      · exact False.elim (by simp only [tI_lt, tI_le, tI_eq, tL_lt, tL_le, tL_eq, tWx, (by decide : (0 : Int32).toInt = 0), (by decide : (0 : Int64).toInt = 0), (by decide : (2 : Int32).toInt = 2), (by decide : (2 : Int64).toInt = 2), (by decide : (3 : Int32).toInt = 3), (by decide : (3 : Int64).toInt = 3)] at f_13 f_14 f_32 f_33; omega)
      · exact False.elim (by simp only [tI_lt, tI_le, tI_eq, tL_lt, tL_le, tL_eq, tWx, (by decide : (0 : Int32).toInt = 0), (by decide : (0 : Int64).toInt = 0), (by decide : (1 : Int32).toInt = 1), (by decide : (1 : Int64).toInt = 1), (by decide : (4 : Int32).toInt = 4)] at f_11 f_12 f_15 f_36; omega)
      · exact False.elim (by simp only [tI_lt, tI_le, tI_eq, tL_lt, tL_le, tL_eq, tWx, (by decide : (0 : Int32).toInt = 0), (by decide : (0 : Int64).toInt = 0), (by decide : (1 : Int32).toInt = 1), (by decide : (1 : Int64).toInt = 1), (by decide : (3 : Int64).toInt = 3), (by decide : (4 : Int32).toInt = 4)] at f_11 f_12 f_15 f_39 f_40; omega)
      · exact ex.trans em.symm
      · exact ex.trans em.symm
      · exact ex.trans em.symm
      · exact ex.trans em.symm
    · rcases hw2 with ⟨f_31, em, -⟩ | ⟨f_32, f_33, em, -⟩ | ⟨f_34, f_35, f_36, em, -⟩ | ⟨f_37, f_38, f_39, f_40, em, -⟩ | ⟨f_41, f_42, f_43, f_44, f_45, em, -⟩ | ⟨f_46, f_47, f_48, f_49, f_50, em, -⟩ | ⟨f_51, f_52, f_53, f_54, f_55, em, -⟩ | ⟨f_56, f_57, f_58, f_59, f_60, em, -⟩
      · exact False.elim (by simp only [tI_lt, tI_le, tI_eq, tL_lt, tL_le, tL_eq, tWx, (by decide : (0 : Int32).toInt = 0), (by decide : (0 : Int64).toInt = 0), (by decide : (2 : Int32).toInt = 2), (by decide : (2 : Int64).toInt = 2), (by decide : (3 : Int32).toInt = 3)] at f_18 f_19 f_31; omega)
      · exact False.elim (by simp only [tI_lt, tI_le, tI_eq, tL_lt, tL_le, tL_eq, tWx, (by decide : (0 : Int32).toInt = 0), (by decide : (0 : Int64).toInt = 0), (by decide : (2 : Int32).toInt = 2), (by decide : (2 : Int64).toInt = 2), (by decide : (3 : Int32).toInt = 3), (by decide : (3 : Int64).toInt = 3)] at f_18 f_19 f_32 f_33; omega)
      · exact False.elim (by simp only [tI_lt, tI_le, tI_eq, tL_lt, tL_le, tL_eq, tWx, (by decide : (0 : Int32).toInt = 0), (by decide : (0 : Int64).toInt = 0), (by decide : (1 : Int32).toInt = 1), (by decide : (1 : Int64).toInt = 1), (by decide : (4 : Int32).toInt = 4)] at f_16 f_17 f_20 f_36; omega)
      · exact False.elim (by simp only [tI_lt, tI_le, tI_eq, tL_lt, tL_le, tL_eq, tWx, (by decide : (0 : Int32).toInt = 0), (by decide : (0 : Int64).toInt = 0), (by decide : (1 : Int32).toInt = 1), (by decide : (1 : Int64).toInt = 1), (by decide : (3 : Int64).toInt = 3), (by decide : (4 : Int32).toInt = 4)] at f_16 f_17 f_20 f_39 f_40; omega)
      · exact ex.trans em.symm
      · exact ex.trans em.symm
      · exact ex.trans em.symm
      · exact ex.trans em.symm
    · rcases hw2 with ⟨f_31, em, -⟩ | ⟨f_32, f_33, em, -⟩ | ⟨f_34, f_35, f_36, em, -⟩ | ⟨f_37, f_38, f_39, f_40, em, -⟩ | ⟨f_41, f_42, f_43, f_44, f_45, em, -⟩ | ⟨f_46, f_47, f_48, f_49, f_50, em, -⟩ | ⟨f_51, f_52, f_53, f_54, f_55, em, -⟩ | ⟨f_56, f_57, f_58, f_59, f_60, em, -⟩
      · exact False.elim (by simp only [tI_lt, tI_le, tI_eq, tL_lt, tL_le, tL_eq, tWx, (by decide : (0 : Int32).toInt = 0), (by decide : (0 : Int64).toInt = 0), (by decide : (2 : Int32).toInt = 2), (by decide : (2 : Int64).toInt = 2), (by decide : (3 : Int32).toInt = 3)] at f_23 f_24 f_31; omega)
      · exact False.elim (by simp only [tI_lt, tI_le, tI_eq, tL_lt, tL_le, tL_eq, tWx, (by decide : (0 : Int32).toInt = 0), (by decide : (0 : Int64).toInt = 0), (by decide : (2 : Int32).toInt = 2), (by decide : (2 : Int64).toInt = 2), (by decide : (3 : Int32).toInt = 3), (by decide : (3 : Int64).toInt = 3)] at f_23 f_24 f_32 f_33; omega)
      · exact False.elim (by simp only [tI_lt, tI_le, tI_eq, tL_lt, tL_le, tL_eq, tWx, (by decide : (0 : Int32).toInt = 0), (by decide : (0 : Int64).toInt = 0), (by decide : (1 : Int32).toInt = 1), (by decide : (1 : Int64).toInt = 1), (by decide : (2 : Int32).toInt = 2), (by decide : (4 : Int32).toInt = 4)] at f_21 f_22 f_25 f_36; omega)
      · exact False.elim (by simp only [tI_lt, tI_le, tI_eq, tL_lt, tL_le, tL_eq, tWx, (by decide : (0 : Int32).toInt = 0), (by decide : (0 : Int64).toInt = 0), (by decide : (1 : Int32).toInt = 1), (by decide : (1 : Int64).toInt = 1), (by decide : (2 : Int32).toInt = 2), (by decide : (3 : Int64).toInt = 3), (by decide : (4 : Int32).toInt = 4)] at f_21 f_22 f_25 f_39 f_40; omega)
      · exact ex.trans em.symm
      · exact ex.trans em.symm
      · exact ex.trans em.symm
      · exact ex.trans em.symm
    · rcases hw2 with ⟨f_31, em, -⟩ | ⟨f_32, f_33, em, -⟩ | ⟨f_34, f_35, f_36, em, -⟩ | ⟨f_37, f_38, f_39, f_40, em, -⟩ | ⟨f_41, f_42, f_43, f_44, f_45, em, -⟩ | ⟨f_46, f_47, f_48, f_49, f_50, em, -⟩ | ⟨f_51, f_52, f_53, f_54, f_55, em, -⟩ | ⟨f_56, f_57, f_58, f_59, f_60, em, -⟩
      · exact False.elim (by simp only [tI_lt, tI_le, tI_eq, tL_lt, tL_le, tL_eq, tWx, (by decide : (0 : Int32).toInt = 0), (by decide : (0 : Int64).toInt = 0), (by decide : (2 : Int32).toInt = 2), (by decide : (2 : Int64).toInt = 2), (by decide : (3 : Int32).toInt = 3)] at f_28 f_29 f_31; omega)
      · exact False.elim (by simp only [tI_lt, tI_le, tI_eq, tL_lt, tL_le, tL_eq, tWx, (by decide : (0 : Int32).toInt = 0), (by decide : (0 : Int64).toInt = 0), (by decide : (2 : Int32).toInt = 2), (by decide : (2 : Int64).toInt = 2), (by decide : (3 : Int32).toInt = 3), (by decide : (3 : Int64).toInt = 3)] at f_28 f_29 f_32 f_33; omega)
      · exact False.elim (by simp only [tI_lt, tI_le, tI_eq, tL_lt, tL_le, tL_eq, tWx, (by decide : (0 : Int32).toInt = 0), (by decide : (0 : Int64).toInt = 0), (by decide : (1 : Int32).toInt = 1), (by decide : (1 : Int64).toInt = 1), (by decide : (3 : Int32).toInt = 3), (by decide : (4 : Int32).toInt = 4)] at f_26 f_27 f_30 f_36; omega)
      · exact False.elim (by simp only [tI_lt, tI_le, tI_eq, tL_lt, tL_le, tL_eq, tWx, (by decide : (0 : Int32).toInt = 0), (by decide : (0 : Int64).toInt = 0), (by decide : (1 : Int32).toInt = 1), (by decide : (1 : Int64).toInt = 1), (by decide : (3 : Int32).toInt = 3), (by decide : (3 : Int64).toInt = 3), (by decide : (4 : Int32).toInt = 4)] at f_26 f_27 f_30 f_39 f_40; omega)
      · exact ex.trans em.symm
      · exact ex.trans em.symm
      · exact ex.trans em.symm
      · exact ex.trans em.symm
  refine lv_icmp_eq (tgt := 1549) hx hb dL_law_598 (by decide) (fun _ => ?_) (fun c_1 => absurd e9 c_1)
  exact law_end C0 (Nat.le_of_ble_eq_true rfl) (Nat.le_of_ble_eq_true rfl) hS (lv_sub hl [0, 3] rfl)
theorem dL_law_603 : decode cL_law 603 = .ok (.aload_n 1, 1) := by decide +kernel
theorem dL_law_604 : decode cL_law 604 = .ok (.aload_n 0, 1) := by decide +kernel
theorem dL_law_605 : decode cL_law 605 = .ok (.iload_n 3, 1) := by decide +kernel
theorem dL_law_606 : decode cL_law 606 = .ok (.iconst 1, 1) := by decide +kernel
theorem dL_law_607 : decode cL_law 607 = .ok (.iadd, 1) := by decide +kernel
theorem dL_law_608 : decode cL_law 608 = .ok (.iaload, 1) := by decide +kernel
theorem q_4_5 : Cond.code yX9_perform prog_1_method_29_code 6 (some FieldType.int) ∈ gw := gw_4 (i := 5) (rfl) rfl
theorem q_4_3 : Cond.instanceMethod yX9_perform ∈ gw := gw_4 (i := 3) (by decide +kernel) rfl
theorem q_4_4 : Cond.selects "BeaconDelay" yX9_perform yX9_perform ∈ gw := gw_4 (i := 4) (by decide +kernel) rfl
theorem mt_X9_perform : MtV yX9_perform cX9_perform 6 (some .int) 1 := ⟨⟨q_4_5, q_1_1, by decide +kernel, by decide +kernel, by decide +kernel⟩, q_4_3, q_4_4⟩
theorem q_4_2 : Cond.methodLink "BeaconDelayLaw" 68 yX9_perform ∈ gw := gw_4 (i := 2) (by decide +kernel) rfl
theorem dL_law_609 : decode cL_law 609 = .ok (.invokevirtual 68, 3) := by decide +kernel
theorem dL_law_612 : decode cL_law 612 = .ok (.aload_n 2, 1) := by decide +kernel
theorem dL_law_613 : decode cL_law 613 = .ok (.aload_n 0, 1) := by decide +kernel
theorem dL_law_614 : decode cL_law 614 = .ok (.iload_n 3, 1) := by decide +kernel
theorem dL_law_615 : decode cL_law 615 = .ok (.iconst 1, 1) := by decide +kernel
theorem dL_law_616 : decode cL_law 616 = .ok (.iadd, 1) := by decide +kernel
theorem dL_law_617 : decode cL_law 617 = .ok (.iaload, 1) := by decide +kernel
theorem q_7_138 : Cond.code yX10_perform prog_12_method_72_code 4 (some FieldType.int) ∈ gw := gw_7 (i := 138) (rfl) rfl
theorem q_7_136 : Cond.instanceMethod yX10_perform ∈ gw := gw_7 (i := 136) (by decide +kernel) rfl
theorem q_7_137 : Cond.selects "BeaconDelayModel" yX10_perform yX10_perform ∈ gw := gw_7 (i := 137) (by decide +kernel) rfl
theorem mt_X10_perform : MtV yX10_perform cX10_perform 4 (some .int) 1 := ⟨⟨q_7_138, q_1_9, by decide +kernel, by decide +kernel, by decide +kernel⟩, q_7_136, q_7_137⟩
theorem q_7_135 : Cond.methodLink "BeaconDelayLaw" 71 yX10_perform ∈ gw := gw_7 (i := 135) (by decide +kernel) rfl
theorem dL_law_618 : decode cL_law 618 = .ok (.invokevirtual 71, 3) := by decide +kernel
theorem dL_law_621 : decode cL_law 621 = .ok (.if_icmp .eq 928, 3) := by decide +kernel
-- perform
set_option maxHeartbeats 4000000 in
set_option maxRecDepth 100000 in
theorem lc_13 {p : Program} {e : Env} {s : State} {m : MethodId} {below : List Frame} {meth : Method} {c : Code} {l : Launch} {b : Nat} {xs : Nat → Int32} {V : GV} {y z : Nat → Nat} (C0 : lw_At p s m meth c b 6 xs) (hg : ∀ w ∈ gw, w.before #[Value.ref b] s = true) (hK : va_K V.1 vwCl (tyV V) s) (hE : En V (fun q : Nat => s.heap.size ≤ q) s s.heap) {H : Heap} {locs : List Loc} (hP : va_P V.1 vwCl (xW V y ++ mW V z) H) (hD : va_D (fun q : Nat => s.heap.size ≤ q) (xW V y ++ mW V z)) (hS : va_S (fun q : Nat => s.heap.size ≤ q) s.heap H locs) {ls : Array Slot} (hl : lv_has ls 4 [(0, .ref b), (1, .ref (y 0)), (2, .ref (z 0)), (3, .int 0)]) : W p l e room_1 s m #[Value.ref b] below meth c H locs 84 223324 (lw_Z below #[Value.ref b] s) (F0 m 603 ls []) := by
  obtain ⟨hx, hb, hr, hml, hown, hts, hX, hbl, hlocks, hgv⟩ := id C0
  have hA : ∀ q : Nat, s.heap.size ≤ q → (fun q : Nat => s.heap.size ≤ q) q := fun _ h => h
  have hbA : ¬ (fun q : Nat => s.heap.size ≤ q) b := Nat.not_le.mpr hbl
  refine lv_aload_n hx hb dL_law_603 rfl (lv_at hl 1 rfl) ?_
  refine lv_aload_n hx hb dL_law_604 rfl (lv_at hl 0 rfl) ?_
  refine lv_iload_n hx hb dL_law_605 rfl (lv_at hl 3 rfl) ?_
  refine lv_iconst (v := 1) hx hb dL_law_606 (by decide) ?_
  refine lv_iadd hx hb dL_law_607 ?_
  refine tpi (y := 1) (by decide +kernel) ?_
  refine va_sld hx hb hX hbl hbA hS (vin (by decide +kernel)) dL_law_608 ?_
  refine tpi (y := xs 1) rfl ?_
  refine jnI (wr := mW V z) (rnV (rest := []) ⟨hx, hb, hml, hown, hg⟩ (c_X9_perform_0 l V y ((xs 1))) mt_X9_perform q_4_2 ⟨Nat.le_of_ble_eq_true rfl, Nat.le_of_ble_eq_true rfl⟩ hK hP hD hS hA hE [0, 30, 33, 35, 37, 39] rfl rfl 0 rfl rfl rfl rfl hl.1 rfl (Nat.le_of_ble_eq_true rfl) dL_law_609 ⟨Nat.le_of_ble_eq_true rfl, Nat.le_of_ble_eq_true rfl⟩) hP hD hS hA [0, 30, 33, 35, 37, 39] [59, 60, 61, 62, 63, 64, 65, 66, 67, 68, 69, 70, 71, 72, 73, 74, 75, 76, 77, 78, 79, 80, 81, 82, 83] rfl rfl rfl (by decide) (fun r w H locs hw hP hD hS => ?_)
  refine W.widen (k := 84) (n := 223324) (Nat.le_of_ble_eq_true rfl) (Nat.le_of_ble_eq_true rfl) ?_
  have hP : va_P V.1 vwCl (mW V z) H := takeP hP
  have hD : va_D (fun q : Nat => s.heap.size ≤ q) (mW V z) := takeD hD
  refine lv_aload_n hx hb dL_law_612 rfl (lv_at hl 2 rfl) ?_
  refine lv_aload_n hx hb dL_law_613 rfl (lv_at hl 0 rfl) ?_
  refine lv_iload_n hx hb dL_law_614 rfl (lv_at hl 3 rfl) ?_
  refine lv_iconst (v := 1) hx hb dL_law_615 (by decide) ?_
  refine lv_iadd hx hb dL_law_616 ?_
  refine tpi (y := 1) (by decide +kernel) ?_
  refine va_sld hx hb hX hbl hbA hS (vin (by decide +kernel)) dL_law_617 ?_
  refine tpi (y := xs 1) rfl ?_
  refine jnI (wr := []) (rnV (rest := [.int r]) ⟨hx, hb, hml, hown, hg⟩ (c_X10_perform_0 l V z ((xs 1))) mt_X10_perform q_7_135 ⟨Nat.le_of_ble_eq_true rfl, Nat.le_of_ble_eq_true rfl⟩ hK hP hD hS hA hE [0, 21] rfl rfl 0 rfl rfl rfl rfl hl.1 rfl (Nat.le_of_ble_eq_true rfl) dL_law_618 ⟨Nat.le_of_ble_eq_true rfl, Nat.le_of_ble_eq_true rfl⟩) hP hD hS hA [0, 21] [] rfl rfl rfl (by decide) (fun r2 w2 H locs hw2 hP hD hS => ?_)
  refine W.widen (k := 84) (n := 223324) (Nat.le_of_ble_eq_true rfl) (Nat.le_of_ble_eq_true rfl) ?_
  have e9 : r = r2 := by
    rcases hw with ⟨f_1, ex, -⟩ | ⟨f_2, f_3, ex, -⟩ | ⟨f_4, f_5, f_6, ex, -⟩ | ⟨f_7, f_8, f_9, ex, -⟩ | ⟨f_10, f_11, f_12, ex, -⟩ | ⟨f_13, f_14, f_15, ex, -⟩
    · rcases hw2 with ⟨f_16, em, -⟩ | ⟨f_17, f_18, em, -⟩ | ⟨f_19, f_20, f_21, em, -⟩ | ⟨f_22, f_23, f_24, em, -⟩ | ⟨f_25, f_26, f_27, em, -⟩ | ⟨f_28, f_29, f_30, em, -⟩
      · exact ex.trans em.symm
      · exact ex.trans em.symm
      · exact False.elim (by simp only [tI_lt, tI_le, tI_eq, tL_lt, tL_le, tL_eq, tWx, (by decide : (0 : Int32).toInt = 0), (by decide : (0 : Int64).toInt = 0), (by decide : (1 : Int32).toInt = 1), (by decide : (1 : Int64).toInt = 1), (by decide : (3 : Int64).toInt = 3)] at f_1 f_19 f_20 f_21; omega)
      · exact False.elim (by simp only [tI_lt, tI_le, tI_eq, tL_lt, tL_le, tL_eq, tWx, (by decide : (0 : Int32).toInt = 0), (by decide : (0 : Int64).toInt = 0), (by decide : (1 : Int32).toInt = 1), (by decide : (1 : Int64).toInt = 1), (by decide : (3 : Int64).toInt = 3)] at f_1 f_22 f_23 f_24; omega)
      · exact False.elim (by simp only [tI_lt, tI_le, tI_eq, tL_lt, tL_le, tL_eq, tWx, (by decide : (0 : Int32).toInt = 0), (by decide : (0 : Int64).toInt = 0), (by decide : (1 : Int32).toInt = 1), (by decide : (1 : Int64).toInt = 1), (by decide : (2 : Int32).toInt = 2), (by decide : (3 : Int64).toInt = 3)] at f_1 f_25 f_26 f_27; omega)
      · exact False.elim (by simp only [tI_lt, tI_le, tI_eq, tL_lt, tL_le, tL_eq, tWx, (by decide : (0 : Int32).toInt = 0), (by decide : (0 : Int64).toInt = 0), (by decide : (1 : Int32).toInt = 1), (by decide : (1 : Int64).toInt = 1), (by decide : (3 : Int32).toInt = 3), (by decide : (3 : Int64).toInt = 3)] at f_1 f_28 f_29 f_30; omega)
    · rcases hw2 with ⟨f_16, em, -⟩ | ⟨f_17, f_18, em, -⟩ | ⟨f_19, f_20, f_21, em, -⟩ | ⟨f_22, f_23, f_24, em, -⟩ | ⟨f_25, f_26, f_27, em, -⟩ | ⟨f_28, f_29, f_30, em, -⟩
      · exact ex.trans em.symm
      · exact ex.trans em.symm
      · exact False.elim (by simp only [tI_lt, tI_le, tI_eq, tL_lt, tL_le, tL_eq, tWx, (by decide : (0 : Int32).toInt = 0), (by decide : (0 : Int64).toInt = 0), (by decide : (1 : Int32).toInt = 1), (by decide : (1 : Int64).toInt = 1), (by decide : (3 : Int64).toInt = 3), (by decide : (4 : Int32).toInt = 4)] at f_2 f_3 f_19 f_20 f_21; omega)
      · exact False.elim (by simp only [tI_lt, tI_le, tI_eq, tL_lt, tL_le, tL_eq, tWx, (by decide : (0 : Int32).toInt = 0), (by decide : (0 : Int64).toInt = 0), (by decide : (1 : Int32).toInt = 1), (by decide : (1 : Int64).toInt = 1), (by decide : (3 : Int64).toInt = 3), (by decide : (4 : Int32).toInt = 4)] at f_2 f_3 f_22 f_23 f_24; omega)
      · exact False.elim (by simp only [tI_lt, tI_le, tI_eq, tL_lt, tL_le, tL_eq, tWx, (by decide : (0 : Int32).toInt = 0), (by decide : (0 : Int64).toInt = 0), (by decide : (1 : Int32).toInt = 1), (by decide : (1 : Int64).toInt = 1), (by decide : (2 : Int32).toInt = 2), (by decide : (3 : Int64).toInt = 3), (by decide : (4 : Int32).toInt = 4)] at f_2 f_3 f_25 f_26 f_27; omega)
      · exact False.elim (by simp only [tI_lt, tI_le, tI_eq, tL_lt, tL_le, tL_eq, tWx, (by decide : (0 : Int32).toInt = 0), (by decide : (0 : Int64).toInt = 0), (by decide : (1 : Int32).toInt = 1), (by decide : (1 : Int64).toInt = 1), (by decide : (3 : Int32).toInt = 3), (by decide : (3 : Int64).toInt = 3), (by decide : (4 : Int32).toInt = 4)] at f_2 f_3 f_28 f_29 f_30; omega)
    · rcases hw2 with ⟨f_16, em, -⟩ | ⟨f_17, f_18, em, -⟩ | ⟨f_19, f_20, f_21, em, -⟩ | ⟨f_22, f_23, f_24, em, -⟩ | ⟨f_25, f_26, f_27, em, -⟩ | ⟨f_28, f_29, f_30, em, -⟩
      · exact False.elim (by simp only [tI_lt, tI_le, tI_eq, tL_lt, tL_le, tL_eq, tWx, (by decide : (0 : Int32).toInt = 0), (by decide : (0 : Int64).toInt = 0), (by decide : (1 : Int32).toInt = 1), (by decide : (1 : Int64).toInt = 1), (by decide : (4 : Int32).toInt = 4)] at f_4 f_5 f_6 f_16; omega)
      · exact False.elim (by simp only [tI_lt, tI_le, tI_eq, tL_lt, tL_le, tL_eq, tWx, (by decide : (0 : Int32).toInt = 0), (by decide : (0 : Int64).toInt = 0), (by decide : (1 : Int32).toInt = 1), (by decide : (1 : Int64).toInt = 1), (by decide : (3 : Int64).toInt = 3), (by decide : (4 : Int32).toInt = 4)] at f_4 f_5 f_6 f_17 f_18; omega)
      · exact ex.trans em.symm
      · exact ex.trans em.symm
      · exact ex.trans em.symm
      · exact ex.trans em.symm
    · rcases hw2 with ⟨f_16, em, -⟩ | ⟨f_17, f_18, em, -⟩ | ⟨f_19, f_20, f_21, em, -⟩ | ⟨f_22, f_23, f_24, em, -⟩ | ⟨f_25, f_26, f_27, em, -⟩ | ⟨f_28, f_29, f_30, em, -⟩
      · exact False.elim (by simp only [tI_lt, tI_le, tI_eq, tL_lt, tL_le, tL_eq, tWx, (by decide : (0 : Int32).toInt = 0), (by decide : (0 : Int64).toInt = 0), (by decide : (1 : Int32).toInt = 1), (by decide : (1 : Int64).toInt = 1), (by decide : (4 : Int32).toInt = 4)] at f_7 f_8 f_9 f_16; omega)
      · exact False.elim (by simp only [tI_lt, tI_le, tI_eq, tL_lt, tL_le, tL_eq, tWx, (by decide : (0 : Int32).toInt = 0), (by decide : (0 : Int64).toInt = 0), (by decide : (1 : Int32).toInt = 1), (by decide : (1 : Int64).toInt = 1), (by decide : (3 : Int64).toInt = 3), (by decide : (4 : Int32).toInt = 4)] at f_7 f_8 f_9 f_17 f_18; omega)
      · exact ex.trans em.symm
      · exact ex.trans em.symm
      · exact ex.trans em.symm
      · exact ex.trans em.symm
    · rcases hw2 with ⟨f_16, em, -⟩ | ⟨f_17, f_18, em, -⟩ | ⟨f_19, f_20, f_21, em, -⟩ | ⟨f_22, f_23, f_24, em, -⟩ | ⟨f_25, f_26, f_27, em, -⟩ | ⟨f_28, f_29, f_30, em, -⟩
      · exact False.elim (by simp only [tI_lt, tI_le, tI_eq, tL_lt, tL_le, tL_eq, tWx, (by decide : (0 : Int32).toInt = 0), (by decide : (0 : Int64).toInt = 0), (by decide : (1 : Int32).toInt = 1), (by decide : (1 : Int64).toInt = 1), (by decide : (2 : Int32).toInt = 2), (by decide : (4 : Int32).toInt = 4)] at f_10 f_11 f_12 f_16; omega)
      · exact False.elim (by simp only [tI_lt, tI_le, tI_eq, tL_lt, tL_le, tL_eq, tWx, (by decide : (0 : Int32).toInt = 0), (by decide : (0 : Int64).toInt = 0), (by decide : (1 : Int32).toInt = 1), (by decide : (1 : Int64).toInt = 1), (by decide : (2 : Int32).toInt = 2), (by decide : (3 : Int64).toInt = 3), (by decide : (4 : Int32).toInt = 4)] at f_10 f_11 f_12 f_17 f_18; omega)
      · exact ex.trans em.symm
      · exact ex.trans em.symm
      · exact ex.trans em.symm
      · exact ex.trans em.symm
    · rcases hw2 with ⟨f_16, em, -⟩ | ⟨f_17, f_18, em, -⟩ | ⟨f_19, f_20, f_21, em, -⟩ | ⟨f_22, f_23, f_24, em, -⟩ | ⟨f_25, f_26, f_27, em, -⟩ | ⟨f_28, f_29, f_30, em, -⟩
      · exact False.elim (by simp only [tI_lt, tI_le, tI_eq, tL_lt, tL_le, tL_eq, tWx, (by decide : (0 : Int32).toInt = 0), (by decide : (0 : Int64).toInt = 0), (by decide : (1 : Int32).toInt = 1), (by decide : (1 : Int64).toInt = 1), (by decide : (3 : Int32).toInt = 3), (by decide : (4 : Int32).toInt = 4)] at f_13 f_14 f_15 f_16; omega)
      · exact False.elim (by simp only [tI_lt, tI_le, tI_eq, tL_lt, tL_le, tL_eq, tWx, (by decide : (0 : Int32).toInt = 0), (by decide : (0 : Int64).toInt = 0), (by decide : (1 : Int32).toInt = 1), (by decide : (1 : Int64).toInt = 1), (by decide : (3 : Int32).toInt = 3), (by decide : (3 : Int64).toInt = 3), (by decide : (4 : Int32).toInt = 4)] at f_13 f_14 f_15 f_17 f_18; omega)
      · exact ex.trans em.symm
      · exact ex.trans em.symm
      · exact ex.trans em.symm
      · exact ex.trans em.symm
  refine lv_icmp_eq (tgt := 1549) hx hb dL_law_621 (by decide) (fun _ => ?_) (fun c_1 => absurd e9 c_1)
  exact law_end C0 (Nat.le_of_ble_eq_true rfl) (Nat.le_of_ble_eq_true rfl) hS (lv_sub hl [0, 3] rfl)
theorem dL_law_626 : decode cL_law 626 = .ok (.aload_n 1, 1) := by decide +kernel
theorem dL_law_627 : decode cL_law 627 = .ok (.aload_n 0, 1) := by decide +kernel
theorem dL_law_628 : decode cL_law 628 = .ok (.iload_n 3, 1) := by decide +kernel
theorem dL_law_629 : decode cL_law 629 = .ok (.iconst 1, 1) := by decide +kernel
theorem dL_law_630 : decode cL_law 630 = .ok (.iadd, 1) := by decide +kernel
theorem dL_law_631 : decode cL_law 631 = .ok (.iaload, 1) := by decide +kernel
theorem dL_law_632 : decode cL_law 632 = .ok (.aload_n 0, 1) := by decide +kernel
theorem dL_law_633 : decode cL_law 633 = .ok (.iload_n 3, 1) := by decide +kernel
theorem dL_law_634 : decode cL_law 634 = .ok (.iconst 2, 1) := by decide +kernel
theorem dL_law_635 : decode cL_law 635 = .ok (.iadd, 1) := by decide +kernel
theorem dL_law_636 : decode cL_law 636 = .ok (.iaload, 1) := by decide +kernel
theorem q_4_9 : Cond.code yX9_century prog_1_method_30_code 11 (some FieldType.int) ∈ gw := gw_4 (i := 9) (rfl) rfl
theorem q_4_7 : Cond.instanceMethod yX9_century ∈ gw := gw_4 (i := 7) (by decide +kernel) rfl
theorem q_4_8 : Cond.selects "BeaconDelay" yX9_century yX9_century ∈ gw := gw_4 (i := 8) (by decide +kernel) rfl
theorem mt_X9_century : MtV yX9_century cX9_century 11 (some .int) 2 := ⟨⟨q_4_9, q_1_1, by decide +kernel, by decide +kernel, by decide +kernel⟩, q_4_7, q_4_8⟩
theorem q_4_6 : Cond.methodLink "BeaconDelayLaw" 72 yX9_century ∈ gw := gw_4 (i := 6) (by decide +kernel) rfl
theorem dL_law_637 : decode cL_law 637 = .ok (.invokevirtual 72, 3) := by decide +kernel
theorem dL_law_640 : decode cL_law 640 = .ok (.aload_n 2, 1) := by decide +kernel
theorem dL_law_641 : decode cL_law 641 = .ok (.aload_n 0, 1) := by decide +kernel
theorem dL_law_642 : decode cL_law 642 = .ok (.iload_n 3, 1) := by decide +kernel
theorem dL_law_643 : decode cL_law 643 = .ok (.iconst 1, 1) := by decide +kernel
theorem dL_law_644 : decode cL_law 644 = .ok (.iadd, 1) := by decide +kernel
theorem dL_law_645 : decode cL_law 645 = .ok (.iaload, 1) := by decide +kernel
theorem dL_law_646 : decode cL_law 646 = .ok (.aload_n 0, 1) := by decide +kernel
theorem dL_law_647 : decode cL_law 647 = .ok (.iload_n 3, 1) := by decide +kernel
theorem dL_law_648 : decode cL_law 648 = .ok (.iconst 2, 1) := by decide +kernel
theorem dL_law_649 : decode cL_law 649 = .ok (.iadd, 1) := by decide +kernel
theorem dL_law_650 : decode cL_law 650 = .ok (.iaload, 1) := by decide +kernel
theorem q_7_142 : Cond.code yX10_century prog_12_method_75_code 6 (some FieldType.int) ∈ gw := gw_7 (i := 142) (rfl) rfl
theorem q_7_140 : Cond.instanceMethod yX10_century ∈ gw := gw_7 (i := 140) (by decide +kernel) rfl
theorem q_7_141 : Cond.selects "BeaconDelayModel" yX10_century yX10_century ∈ gw := gw_7 (i := 141) (by decide +kernel) rfl
theorem mt_X10_century : MtV yX10_century cX10_century 6 (some .int) 2 := ⟨⟨q_7_142, q_1_9, by decide +kernel, by decide +kernel, by decide +kernel⟩, q_7_140, q_7_141⟩
theorem q_7_139 : Cond.methodLink "BeaconDelayLaw" 75 yX10_century ∈ gw := gw_7 (i := 139) (by decide +kernel) rfl
theorem dL_law_651 : decode cL_law 651 = .ok (.invokevirtual 75, 3) := by decide +kernel
theorem dL_law_654 : decode cL_law 654 = .ok (.if_icmp .eq 895, 3) := by decide +kernel
-- century
set_option maxHeartbeats 4000000 in
set_option maxRecDepth 100000 in
theorem lc_14 {p : Program} {e : Env} {s : State} {m : MethodId} {below : List Frame} {meth : Method} {c : Code} {l : Launch} {b : Nat} {xs : Nat → Int32} {V : GV} {y z : Nat → Nat} (C0 : lw_At p s m meth c b 6 xs) (hg : ∀ w ∈ gw, w.before #[Value.ref b] s = true) (hK : va_K V.1 vwCl (tyV V) s) (hE : En V (fun q : Nat => s.heap.size ≤ q) s s.heap) {H : Heap} {locs : List Loc} (hP : va_P V.1 vwCl (xW V y ++ mW V z) H) (hD : va_D (fun q : Nat => s.heap.size ≤ q) (xW V y ++ mW V z)) (hS : va_S (fun q : Nat => s.heap.size ≤ q) s.heap H locs) {ls : Array Slot} (hl : lv_has ls 4 [(0, .ref b), (1, .ref (y 0)), (2, .ref (z 0)), (3, .int 0)]) : W p l e room_1 s m #[Value.ref b] below meth c H locs 84 223324 (lw_Z below #[Value.ref b] s) (F0 m 626 ls []) := by
  obtain ⟨hx, hb, hr, hml, hown, hts, hX, hbl, hlocks, hgv⟩ := id C0
  have hA : ∀ q : Nat, s.heap.size ≤ q → (fun q : Nat => s.heap.size ≤ q) q := fun _ h => h
  have hbA : ¬ (fun q : Nat => s.heap.size ≤ q) b := Nat.not_le.mpr hbl
  refine lv_aload_n hx hb dL_law_626 rfl (lv_at hl 1 rfl) ?_
  refine lv_aload_n hx hb dL_law_627 rfl (lv_at hl 0 rfl) ?_
  refine lv_iload_n hx hb dL_law_628 rfl (lv_at hl 3 rfl) ?_
  refine lv_iconst (v := 1) hx hb dL_law_629 (by decide) ?_
  refine lv_iadd hx hb dL_law_630 ?_
  refine tpi (y := 1) (by decide +kernel) ?_
  refine va_sld hx hb hX hbl hbA hS (vin (by decide +kernel)) dL_law_631 ?_
  refine tpi (y := xs 1) rfl ?_
  refine lv_aload_n hx hb dL_law_632 rfl (lv_at hl 0 rfl) ?_
  refine lv_iload_n hx hb dL_law_633 rfl (lv_at hl 3 rfl) ?_
  refine lv_iconst (v := 2) hx hb dL_law_634 (by decide) ?_
  refine lv_iadd hx hb dL_law_635 ?_
  refine tpi (y := 2) (by decide +kernel) ?_
  refine va_sld hx hb hX hbl hbA hS (vin (by decide +kernel)) dL_law_636 ?_
  refine tpi (y := xs 2) rfl ?_
  refine jnI (wr := mW V z) (rnV (rest := []) ⟨hx, hb, hml, hown, hg⟩ (c_X9_century_0 l V y ((xs 1)) ((xs 2))) mt_X9_century q_4_6 ⟨Nat.le_of_ble_eq_true rfl, Nat.le_of_ble_eq_true rfl⟩ hK hP hD hS hA hE [0, 2, 19, 26, 27, 28, 29] rfl rfl 0 rfl rfl rfl rfl hl.1 rfl (Nat.le_of_ble_eq_true rfl) dL_law_637 ⟨Nat.le_of_ble_eq_true rfl, Nat.le_of_ble_eq_true rfl⟩) hP hD hS hA [0, 2, 19, 26, 27, 28, 29] [59, 60, 61, 62, 63, 64, 65, 66, 67, 68, 69, 70, 71, 72, 73, 74, 75, 76, 77, 78, 79, 80, 81, 82, 83] rfl rfl rfl (by decide) (fun r w H locs hw hP hD hS => ?_)
  refine W.widen (k := 84) (n := 223324) (Nat.le_of_ble_eq_true rfl) (Nat.le_of_ble_eq_true rfl) ?_
  have hP : va_P V.1 vwCl (mW V z) H := takeP hP
  have hD : va_D (fun q : Nat => s.heap.size ≤ q) (mW V z) := takeD hD
  refine lv_aload_n hx hb dL_law_640 rfl (lv_at hl 2 rfl) ?_
  refine lv_aload_n hx hb dL_law_641 rfl (lv_at hl 0 rfl) ?_
  refine lv_iload_n hx hb dL_law_642 rfl (lv_at hl 3 rfl) ?_
  refine lv_iconst (v := 1) hx hb dL_law_643 (by decide) ?_
  refine lv_iadd hx hb dL_law_644 ?_
  refine tpi (y := 1) (by decide +kernel) ?_
  refine va_sld hx hb hX hbl hbA hS (vin (by decide +kernel)) dL_law_645 ?_
  refine tpi (y := xs 1) rfl ?_
  refine lv_aload_n hx hb dL_law_646 rfl (lv_at hl 0 rfl) ?_
  refine lv_iload_n hx hb dL_law_647 rfl (lv_at hl 3 rfl) ?_
  refine lv_iconst (v := 2) hx hb dL_law_648 (by decide) ?_
  refine lv_iadd hx hb dL_law_649 ?_
  refine tpi (y := 2) (by decide +kernel) ?_
  refine va_sld hx hb hX hbl hbA hS (vin (by decide +kernel)) dL_law_650 ?_
  refine tpi (y := xs 2) rfl ?_
  refine jnI (wr := []) (rnV (rest := [.int r]) ⟨hx, hb, hml, hown, hg⟩ (c_X10_century_0 l V z ((xs 1)) ((xs 2))) mt_X10_century q_7_139 ⟨Nat.le_of_ble_eq_true rfl, Nat.le_of_ble_eq_true rfl⟩ hK hP hD hS hA hE [0, 6, 24] rfl rfl 0 rfl rfl rfl rfl hl.1 rfl (Nat.le_of_ble_eq_true rfl) dL_law_651 ⟨Nat.le_of_ble_eq_true rfl, Nat.le_of_ble_eq_true rfl⟩) hP hD hS hA [0, 6, 24] [] rfl rfl rfl (by decide) (fun r2 w2 H locs hw2 hP hD hS => ?_)
  refine W.widen (k := 84) (n := 223324) (Nat.le_of_ble_eq_true rfl) (Nat.le_of_ble_eq_true rfl) ?_
  have e9 : r = r2 := by
    rcases hw with ⟨f_1, ex, -⟩ | ⟨f_2, f_3, ex, -⟩ | ⟨_, _, _, f_4, f_5, f_6, ex, -⟩ | ⟨_, _, _, f_7, f_8, f_9, ex, -⟩
    · rcases hw2 with ⟨f_10, em, -⟩ | ⟨f_11, f_12, em, -⟩ | ⟨_, _, _, f_13, f_14, f_15, em, -⟩ | ⟨_, _, _, f_16, f_17, f_18, em, -⟩
      · exact ex.trans em.symm
      · exact ex.trans em.symm
      · exact False.elim (by simp only [tI_lt, tI_le, tI_eq, tL_lt, tL_le, tL_eq, tWx, (by decide : (1 : Int32).toInt = 1), (by decide : (1 : Int64).toInt = 1), (by decide : (2 : Int32).toInt = 2), (by decide : (2 : Int64).toInt = 2), (by decide : (40 : Int64).toInt = 40)] at f_1 f_13 f_14; omega)
      · exact False.elim (by simp only [tI_lt, tI_le, tI_eq, tL_lt, tL_le, tL_eq, tWx, (by decide : (1 : Int32).toInt = 1), (by decide : (1 : Int64).toInt = 1), (by decide : (2 : Int32).toInt = 2), (by decide : (2 : Int64).toInt = 2), (by decide : (40 : Int64).toInt = 40)] at f_1 f_16 f_17; omega)
    · rcases hw2 with ⟨f_10, em, -⟩ | ⟨f_11, f_12, em, -⟩ | ⟨_, _, _, f_13, f_14, f_15, em, -⟩ | ⟨_, _, _, f_16, f_17, f_18, em, -⟩
      · exact ex.trans em.symm
      · exact ex.trans em.symm
      · exact False.elim (by simp only [tI_lt, tI_le, tI_eq, tL_lt, tL_le, tL_eq, tWx, (by decide : (1 : Int32).toInt = 1), (by decide : (1 : Int64).toInt = 1), (by decide : (2 : Int32).toInt = 2), (by decide : (2 : Int64).toInt = 2), (by decide : (40 : Int32).toInt = 40), (by decide : (40 : Int64).toInt = 40)] at f_2 f_3 f_13 f_14; omega)
      · exact False.elim (by simp only [tI_lt, tI_le, tI_eq, tL_lt, tL_le, tL_eq, tWx, (by decide : (1 : Int32).toInt = 1), (by decide : (1 : Int64).toInt = 1), (by decide : (2 : Int32).toInt = 2), (by decide : (2 : Int64).toInt = 2), (by decide : (40 : Int32).toInt = 40), (by decide : (40 : Int64).toInt = 40)] at f_2 f_3 f_16 f_17; omega)
    · rcases hw2 with ⟨f_10, em, -⟩ | ⟨f_11, f_12, em, -⟩ | ⟨_, _, _, f_13, f_14, f_15, em, -⟩ | ⟨_, _, _, f_16, f_17, f_18, em, -⟩
      · exact False.elim (by simp only [tI_lt, tI_le, tI_eq, tL_lt, tL_le, tL_eq, tWx, (by decide : (1 : Int32).toInt = 1), (by decide : (1 : Int64).toInt = 1), (by decide : (2 : Int32).toInt = 2), (by decide : (2 : Int64).toInt = 2), (by decide : (40 : Int32).toInt = 40)] at f_4 f_5 f_10; omega)
      · exact False.elim (by simp only [tI_lt, tI_le, tI_eq, tL_lt, tL_le, tL_eq, tWx, (by decide : (1 : Int32).toInt = 1), (by decide : (1 : Int64).toInt = 1), (by decide : (2 : Int32).toInt = 2), (by decide : (2 : Int64).toInt = 2), (by decide : (40 : Int32).toInt = 40), (by decide : (40 : Int64).toInt = 40)] at f_4 f_5 f_11 f_12; omega)
      · exact ex.trans em.symm
      · exact ex.trans em.symm
    · rcases hw2 with ⟨f_10, em, -⟩ | ⟨f_11, f_12, em, -⟩ | ⟨_, _, _, f_13, f_14, f_15, em, -⟩ | ⟨_, _, _, f_16, f_17, f_18, em, -⟩
      · exact False.elim (by simp only [tI_lt, tI_le, tI_eq, tL_lt, tL_le, tL_eq, tWx, (by decide : (1 : Int32).toInt = 1), (by decide : (1 : Int64).toInt = 1), (by decide : (2 : Int32).toInt = 2), (by decide : (2 : Int64).toInt = 2), (by decide : (40 : Int32).toInt = 40)] at f_7 f_8 f_10; omega)
      · exact False.elim (by simp only [tI_lt, tI_le, tI_eq, tL_lt, tL_le, tL_eq, tWx, (by decide : (1 : Int32).toInt = 1), (by decide : (1 : Int64).toInt = 1), (by decide : (2 : Int32).toInt = 2), (by decide : (2 : Int64).toInt = 2), (by decide : (40 : Int32).toInt = 40), (by decide : (40 : Int64).toInt = 40)] at f_7 f_8 f_11 f_12; omega)
      · exact ex.trans em.symm
      · exact ex.trans em.symm
  refine lv_icmp_eq (tgt := 1549) hx hb dL_law_654 (by decide) (fun _ => ?_) (fun c_1 => absurd e9 c_1)
  exact law_end C0 (Nat.le_of_ble_eq_true rfl) (Nat.le_of_ble_eq_true rfl) hS (lv_sub hl [0, 3] rfl)
theorem dL_law_659 : decode cL_law 659 = .ok (.aload_n 1, 1) := by decide +kernel
theorem dL_law_660 : decode cL_law 660 = .ok (.aload_n 0, 1) := by decide +kernel
theorem dL_law_661 : decode cL_law 661 = .ok (.iload_n 3, 1) := by decide +kernel
theorem dL_law_662 : decode cL_law 662 = .ok (.iconst 1, 1) := by decide +kernel
theorem dL_law_663 : decode cL_law 663 = .ok (.iadd, 1) := by decide +kernel
theorem dL_law_664 : decode cL_law 664 = .ok (.iaload, 1) := by decide +kernel
theorem dL_law_665 : decode cL_law 665 = .ok (.aload_n 0, 1) := by decide +kernel
theorem dL_law_666 : decode cL_law 666 = .ok (.iload_n 3, 1) := by decide +kernel
theorem dL_law_667 : decode cL_law 667 = .ok (.iconst 2, 1) := by decide +kernel
theorem dL_law_668 : decode cL_law 668 = .ok (.iadd, 1) := by decide +kernel
theorem dL_law_669 : decode cL_law 669 = .ok (.iaload, 1) := by decide +kernel
theorem q_4_20 : Cond.code yX9_lies prog_1_method_33_code 6 (some FieldType.int) ∈ gw := gw_4 (i := 20) (rfl) rfl
theorem q_4_18 : Cond.instanceMethod yX9_lies ∈ gw := gw_4 (i := 18) (by decide +kernel) rfl
theorem q_4_19 : Cond.selects "BeaconDelay" yX9_lies yX9_lies ∈ gw := gw_4 (i := 19) (by decide +kernel) rfl
theorem mt_X9_lies : MtV yX9_lies cX9_lies 6 (some .int) 2 := ⟨⟨q_4_20, q_1_1, by decide +kernel, by decide +kernel, by decide +kernel⟩, q_4_18, q_4_19⟩
theorem q_4_17 : Cond.methodLink "BeaconDelayLaw" 76 yX9_lies ∈ gw := gw_4 (i := 17) (by decide +kernel) rfl
theorem dL_law_670 : decode cL_law 670 = .ok (.invokevirtual 76, 3) := by decide +kernel
theorem dL_law_673 : decode cL_law 673 = .ok (.aload_n 2, 1) := by decide +kernel
theorem dL_law_674 : decode cL_law 674 = .ok (.aload_n 0, 1) := by decide +kernel
theorem dL_law_675 : decode cL_law 675 = .ok (.iload_n 3, 1) := by decide +kernel
theorem dL_law_676 : decode cL_law 676 = .ok (.iconst 1, 1) := by decide +kernel
theorem dL_law_677 : decode cL_law 677 = .ok (.iadd, 1) := by decide +kernel
theorem dL_law_678 : decode cL_law 678 = .ok (.iaload, 1) := by decide +kernel
theorem dL_law_679 : decode cL_law 679 = .ok (.aload_n 0, 1) := by decide +kernel
theorem dL_law_680 : decode cL_law 680 = .ok (.iload_n 3, 1) := by decide +kernel
theorem dL_law_681 : decode cL_law 681 = .ok (.iconst 2, 1) := by decide +kernel
theorem dL_law_682 : decode cL_law 682 = .ok (.iadd, 1) := by decide +kernel
theorem dL_law_683 : decode cL_law 683 = .ok (.iaload, 1) := by decide +kernel
theorem q_7_156 : Cond.code yX10_lies prog_12_method_78_code 3 (some FieldType.int) ∈ gw := gw_7 (i := 156) (rfl) rfl
theorem q_7_154 : Cond.instanceMethod yX10_lies ∈ gw := gw_7 (i := 154) (by decide +kernel) rfl
theorem q_7_155 : Cond.selects "BeaconDelayModel" yX10_lies yX10_lies ∈ gw := gw_7 (i := 155) (by decide +kernel) rfl
theorem mt_X10_lies : MtV yX10_lies cX10_lies 3 (some .int) 2 := ⟨⟨q_7_156, q_1_9, by decide +kernel, by decide +kernel, by decide +kernel⟩, q_7_154, q_7_155⟩
theorem q_7_153 : Cond.methodLink "BeaconDelayLaw" 79 yX10_lies ∈ gw := gw_7 (i := 153) (by decide +kernel) rfl
theorem dL_law_684 : decode cL_law 684 = .ok (.invokevirtual 79, 3) := by decide +kernel
theorem dL_law_687 : decode cL_law 687 = .ok (.if_icmp .eq 862, 3) := by decide +kernel
-- lies
set_option maxHeartbeats 4000000 in
set_option maxRecDepth 100000 in
theorem lc_15 {p : Program} {e : Env} {s : State} {m : MethodId} {below : List Frame} {meth : Method} {c : Code} {l : Launch} {b : Nat} {xs : Nat → Int32} {V : GV} {y z : Nat → Nat} (C0 : lw_At p s m meth c b 6 xs) (hg : ∀ w ∈ gw, w.before #[Value.ref b] s = true) (hK : va_K V.1 vwCl (tyV V) s) (hE : En V (fun q : Nat => s.heap.size ≤ q) s s.heap) {H : Heap} {locs : List Loc} (hP : va_P V.1 vwCl (xW V y ++ mW V z) H) (hD : va_D (fun q : Nat => s.heap.size ≤ q) (xW V y ++ mW V z)) (hS : va_S (fun q : Nat => s.heap.size ≤ q) s.heap H locs) {ls : Array Slot} (hl : lv_has ls 4 [(0, .ref b), (1, .ref (y 0)), (2, .ref (z 0)), (3, .int 0)]) : W p l e room_1 s m #[Value.ref b] below meth c H locs 84 223324 (lw_Z below #[Value.ref b] s) (F0 m 659 ls []) := by
  obtain ⟨hx, hb, hr, hml, hown, hts, hX, hbl, hlocks, hgv⟩ := id C0
  have hA : ∀ q : Nat, s.heap.size ≤ q → (fun q : Nat => s.heap.size ≤ q) q := fun _ h => h
  have hbA : ¬ (fun q : Nat => s.heap.size ≤ q) b := Nat.not_le.mpr hbl
  refine lv_aload_n hx hb dL_law_659 rfl (lv_at hl 1 rfl) ?_
  refine lv_aload_n hx hb dL_law_660 rfl (lv_at hl 0 rfl) ?_
  refine lv_iload_n hx hb dL_law_661 rfl (lv_at hl 3 rfl) ?_
  refine lv_iconst (v := 1) hx hb dL_law_662 (by decide) ?_
  refine lv_iadd hx hb dL_law_663 ?_
  refine tpi (y := 1) (by decide +kernel) ?_
  refine va_sld hx hb hX hbl hbA hS (vin (by decide +kernel)) dL_law_664 ?_
  refine tpi (y := xs 1) rfl ?_
  refine lv_aload_n hx hb dL_law_665 rfl (lv_at hl 0 rfl) ?_
  refine lv_iload_n hx hb dL_law_666 rfl (lv_at hl 3 rfl) ?_
  refine lv_iconst (v := 2) hx hb dL_law_667 (by decide) ?_
  refine lv_iadd hx hb dL_law_668 ?_
  refine tpi (y := 2) (by decide +kernel) ?_
  refine va_sld hx hb hX hbl hbA hS (vin (by decide +kernel)) dL_law_669 ?_
  refine tpi (y := xs 2) rfl ?_
  refine jnI (wr := mW V z) (rnV (rest := []) ⟨hx, hb, hml, hown, hg⟩ (c_X9_lies_0 l V y ((xs 1)) ((xs 2))) mt_X9_lies q_4_17 ⟨Nat.le_of_ble_eq_true rfl, Nat.le_of_ble_eq_true rfl⟩ hK hP hD hS hA hE [0, 2] rfl rfl 0 rfl rfl rfl rfl hl.1 rfl (Nat.le_of_ble_eq_true rfl) dL_law_670 ⟨Nat.le_of_ble_eq_true rfl, Nat.le_of_ble_eq_true rfl⟩) hP hD hS hA [0, 2] [59, 60, 61, 62, 63, 64, 65, 66, 67, 68, 69, 70, 71, 72, 73, 74, 75, 76, 77, 78, 79, 80, 81, 82, 83] rfl rfl rfl (by decide) (fun r w H locs hw hP hD hS => ?_)
  refine W.widen (k := 84) (n := 223324) (Nat.le_of_ble_eq_true rfl) (Nat.le_of_ble_eq_true rfl) ?_
  have hP : va_P V.1 vwCl (mW V z) H := takeP hP
  have hD : va_D (fun q : Nat => s.heap.size ≤ q) (mW V z) := takeD hD
  refine lv_aload_n hx hb dL_law_673 rfl (lv_at hl 2 rfl) ?_
  refine lv_aload_n hx hb dL_law_674 rfl (lv_at hl 0 rfl) ?_
  refine lv_iload_n hx hb dL_law_675 rfl (lv_at hl 3 rfl) ?_
  refine lv_iconst (v := 1) hx hb dL_law_676 (by decide) ?_
  refine lv_iadd hx hb dL_law_677 ?_
  refine tpi (y := 1) (by decide +kernel) ?_
  refine va_sld hx hb hX hbl hbA hS (vin (by decide +kernel)) dL_law_678 ?_
  refine tpi (y := xs 1) rfl ?_
  refine lv_aload_n hx hb dL_law_679 rfl (lv_at hl 0 rfl) ?_
  refine lv_iload_n hx hb dL_law_680 rfl (lv_at hl 3 rfl) ?_
  refine lv_iconst (v := 2) hx hb dL_law_681 (by decide) ?_
  refine lv_iadd hx hb dL_law_682 ?_
  refine tpi (y := 2) (by decide +kernel) ?_
  refine va_sld hx hb hX hbl hbA hS (vin (by decide +kernel)) dL_law_683 ?_
  refine tpi (y := xs 2) rfl ?_
  refine jnI (wr := []) (rnV (rest := [.int r]) ⟨hx, hb, hml, hown, hg⟩ (c_X10_lies_0 l V z ((xs 1)) ((xs 2))) mt_X10_lies q_7_153 ⟨Nat.le_of_ble_eq_true rfl, Nat.le_of_ble_eq_true rfl⟩ hK hP hD hS hA hE [0, 24] rfl rfl 0 rfl rfl rfl rfl hl.1 rfl (Nat.le_of_ble_eq_true rfl) dL_law_684 ⟨Nat.le_of_ble_eq_true rfl, Nat.le_of_ble_eq_true rfl⟩) hP hD hS hA [0, 24] [] rfl rfl rfl (by decide) (fun r2 w2 H locs hw2 hP hD hS => ?_)
  refine W.widen (k := 84) (n := 223324) (Nat.le_of_ble_eq_true rfl) (Nat.le_of_ble_eq_true rfl) ?_
  have e9 : r = r2 := by
    obtain ⟨ex, -⟩ := hw
    obtain ⟨em, -⟩ := hw2
    exact ex.trans em.symm
  refine lv_icmp_eq (tgt := 1549) hx hb dL_law_687 (by decide) (fun _ => ?_) (fun c_1 => absurd e9 c_1)
  exact law_end C0 (Nat.le_of_ble_eq_true rfl) (Nat.le_of_ble_eq_true rfl) hS (lv_sub hl [0, 3] rfl)
theorem dL_law_692 : decode cL_law 692 = .ok (.aload_n 1, 1) := by decide +kernel
theorem dL_law_693 : decode cL_law 693 = .ok (.aload_n 0, 1) := by decide +kernel
theorem dL_law_694 : decode cL_law 694 = .ok (.iload_n 3, 1) := by decide +kernel
theorem dL_law_695 : decode cL_law 695 = .ok (.iconst 1, 1) := by decide +kernel
theorem dL_law_696 : decode cL_law 696 = .ok (.iadd, 1) := by decide +kernel
theorem dL_law_697 : decode cL_law 697 = .ok (.iaload, 1) := by decide +kernel
theorem q_4_31 : Cond.code yX9_round prog_1_method_34_code 2 (some FieldType.int) ∈ gw := gw_4 (i := 31) (rfl) rfl
theorem q_4_29 : Cond.instanceMethod yX9_round ∈ gw := gw_4 (i := 29) (by decide +kernel) rfl
theorem q_4_30 : Cond.selects "BeaconDelay" yX9_round yX9_round ∈ gw := gw_4 (i := 30) (by decide +kernel) rfl
theorem mt_X9_round : MtV yX9_round cX9_round 2 (some .int) 1 := ⟨⟨q_4_31, q_1_1, by decide +kernel, by decide +kernel, by decide +kernel⟩, q_4_29, q_4_30⟩
theorem q_4_28 : Cond.methodLink "BeaconDelayLaw" 80 yX9_round ∈ gw := gw_4 (i := 28) (by decide +kernel) rfl
theorem dL_law_698 : decode cL_law 698 = .ok (.invokevirtual 80, 3) := by decide +kernel
theorem dL_law_701 : decode cL_law 701 = .ok (.aload_n 2, 1) := by decide +kernel
theorem dL_law_702 : decode cL_law 702 = .ok (.aload_n 0, 1) := by decide +kernel
theorem dL_law_703 : decode cL_law 703 = .ok (.iload_n 3, 1) := by decide +kernel
theorem dL_law_704 : decode cL_law 704 = .ok (.iconst 1, 1) := by decide +kernel
theorem dL_law_705 : decode cL_law 705 = .ok (.iadd, 1) := by decide +kernel
theorem dL_law_706 : decode cL_law 706 = .ok (.iaload, 1) := by decide +kernel
theorem q_7_169 : Cond.code yX10_round prog_12_method_79_code 2 (some FieldType.int) ∈ gw := gw_7 (i := 169) (rfl) rfl
theorem q_7_167 : Cond.instanceMethod yX10_round ∈ gw := gw_7 (i := 167) (by decide +kernel) rfl
theorem q_7_168 : Cond.selects "BeaconDelayModel" yX10_round yX10_round ∈ gw := gw_7 (i := 168) (by decide +kernel) rfl
theorem mt_X10_round : MtV yX10_round cX10_round 2 (some .int) 1 := ⟨⟨q_7_169, q_1_9, by decide +kernel, by decide +kernel, by decide +kernel⟩, q_7_167, q_7_168⟩
theorem q_7_166 : Cond.methodLink "BeaconDelayLaw" 83 yX10_round ∈ gw := gw_7 (i := 166) (by decide +kernel) rfl
theorem dL_law_707 : decode cL_law 707 = .ok (.invokevirtual 83, 3) := by decide +kernel
theorem dL_law_710 : decode cL_law 710 = .ok (.if_icmp .eq 839, 3) := by decide +kernel
-- round
set_option maxHeartbeats 4000000 in
set_option maxRecDepth 100000 in
theorem lc_16 {p : Program} {e : Env} {s : State} {m : MethodId} {below : List Frame} {meth : Method} {c : Code} {l : Launch} {b : Nat} {xs : Nat → Int32} {V : GV} {y z : Nat → Nat} (C0 : lw_At p s m meth c b 6 xs) (hg : ∀ w ∈ gw, w.before #[Value.ref b] s = true) (hK : va_K V.1 vwCl (tyV V) s) (hE : En V (fun q : Nat => s.heap.size ≤ q) s s.heap) {H : Heap} {locs : List Loc} (hP : va_P V.1 vwCl (xW V y ++ mW V z) H) (hD : va_D (fun q : Nat => s.heap.size ≤ q) (xW V y ++ mW V z)) (hS : va_S (fun q : Nat => s.heap.size ≤ q) s.heap H locs) {ls : Array Slot} (hl : lv_has ls 4 [(0, .ref b), (1, .ref (y 0)), (2, .ref (z 0)), (3, .int 0)]) : W p l e room_1 s m #[Value.ref b] below meth c H locs 84 223324 (lw_Z below #[Value.ref b] s) (F0 m 692 ls []) := by
  obtain ⟨hx, hb, hr, hml, hown, hts, hX, hbl, hlocks, hgv⟩ := id C0
  have hA : ∀ q : Nat, s.heap.size ≤ q → (fun q : Nat => s.heap.size ≤ q) q := fun _ h => h
  have hbA : ¬ (fun q : Nat => s.heap.size ≤ q) b := Nat.not_le.mpr hbl
  refine lv_aload_n hx hb dL_law_692 rfl (lv_at hl 1 rfl) ?_
  refine lv_aload_n hx hb dL_law_693 rfl (lv_at hl 0 rfl) ?_
  refine lv_iload_n hx hb dL_law_694 rfl (lv_at hl 3 rfl) ?_
  refine lv_iconst (v := 1) hx hb dL_law_695 (by decide) ?_
  refine lv_iadd hx hb dL_law_696 ?_
  refine tpi (y := 1) (by decide +kernel) ?_
  refine va_sld hx hb hX hbl hbA hS (vin (by decide +kernel)) dL_law_697 ?_
  refine tpi (y := xs 1) rfl ?_
  refine jnI (wr := mW V z) (rnV (rest := []) ⟨hx, hb, hml, hown, hg⟩ (c_X9_round_0 l V y ((xs 1))) mt_X9_round q_4_28 ⟨Nat.le_of_ble_eq_true rfl, Nat.le_of_ble_eq_true rfl⟩ hK hP hD hS hA hE [0, 2, 19, 25] rfl rfl 0 rfl rfl rfl rfl hl.1 rfl (Nat.le_of_ble_eq_true rfl) dL_law_698 ⟨Nat.le_of_ble_eq_true rfl, Nat.le_of_ble_eq_true rfl⟩) hP hD hS hA [0, 2, 19, 25] [59, 60, 61, 62, 63, 64, 65, 66, 67, 68, 69, 70, 71, 72, 73, 74, 75, 76, 77, 78, 79, 80, 81, 82, 83] rfl rfl rfl (by decide) (fun r w H locs hw hP hD hS => ?_)
  refine W.widen (k := 84) (n := 223324) (Nat.le_of_ble_eq_true rfl) (Nat.le_of_ble_eq_true rfl) ?_
  have hP : va_P V.1 vwCl (mW V z) H := takeP hP
  have hD : va_D (fun q : Nat => s.heap.size ≤ q) (mW V z) := takeD hD
  refine lv_aload_n hx hb dL_law_701 rfl (lv_at hl 2 rfl) ?_
  refine lv_aload_n hx hb dL_law_702 rfl (lv_at hl 0 rfl) ?_
  refine lv_iload_n hx hb dL_law_703 rfl (lv_at hl 3 rfl) ?_
  refine lv_iconst (v := 1) hx hb dL_law_704 (by decide) ?_
  refine lv_iadd hx hb dL_law_705 ?_
  refine tpi (y := 1) (by decide +kernel) ?_
  refine va_sld hx hb hX hbl hbA hS (vin (by decide +kernel)) dL_law_706 ?_
  refine tpi (y := xs 1) rfl ?_
  refine jnI (wr := []) (rnV (rest := [.int r]) ⟨hx, hb, hml, hown, hg⟩ (c_X10_round_0 l V z ((xs 1))) mt_X10_round q_7_166 ⟨Nat.le_of_ble_eq_true rfl, Nat.le_of_ble_eq_true rfl⟩ hK hP hD hS hA hE [0, 7, 8, 24] rfl rfl 0 rfl rfl rfl rfl hl.1 rfl (Nat.le_of_ble_eq_true rfl) dL_law_707 ⟨Nat.le_of_ble_eq_true rfl, Nat.le_of_ble_eq_true rfl⟩) hP hD hS hA [0, 7, 8, 24] [] rfl rfl rfl (by decide) (fun r2 w2 H locs hw2 hP hD hS => ?_)
  refine W.widen (k := 84) (n := 223324) (Nat.le_of_ble_eq_true rfl) (Nat.le_of_ble_eq_true rfl) ?_
  have e9 : r = r2 := by
    rcases hw with ⟨f_1, ex, -⟩ | ⟨f_2, f_3, ex, -⟩ | ⟨f_4, f_5, ex, -⟩
    · rcases hw2 with ⟨f_6, em, -⟩ | ⟨f_7, f_8, em, -⟩ | ⟨_, f_9, f_10, f_11, em, -⟩ | ⟨_, f_12, f_13, f_14, em, -⟩
      · exact False.elim (by simp only [tI_lt, tI_le, tI_eq, tL_lt, tL_le, tL_eq, tWx, (by decide : (0 : Int32).toInt = 0), (by decide : (0 : Int64).toInt = 0), (by decide : (1 : Int32).toInt = 1), (by decide : (1 : Int64).toInt = 1)] at f_1 f_6; omega)
      · exact False.elim (by simp only [tI_lt, tI_le, tI_eq, tL_lt, tL_le, tL_eq, tWx, (by decide : (0 : Int32).toInt = 0), (by decide : (0 : Int64).toInt = 0), (by decide : (1 : Int32).toInt = 1), (by decide : (1 : Int64).toInt = 1)] at f_1 f_7 f_8; omega)
      · exact False.elim (by simp only [tI_lt, tI_le, tI_eq, tL_lt, tL_le, tL_eq, tWx, (by decide : (0 : Int32).toInt = 0), (by decide : (0 : Int64).toInt = 0), (by decide : (1 : Int32).toInt = 1), (by decide : (1 : Int64).toInt = 1)] at f_1 f_9 f_10 f_11; omega)
      · exact ex.trans em.symm
    · rcases hw2 with ⟨f_6, em, -⟩ | ⟨f_7, f_8, em, -⟩ | ⟨_, f_9, f_10, f_11, em, -⟩ | ⟨_, f_12, f_13, f_14, em, -⟩
      · exact False.elim (by simp only [tI_lt, tI_le, tI_eq, tL_lt, tL_le, tL_eq, tWx, (by decide : (0 : Int32).toInt = 0), (by decide : (0 : Int64).toInt = 0), (by decide : (1 : Int32).toInt = 1), (by decide : (1 : Int64).toInt = 1)] at f_2 f_3 f_6; omega)
      · exact False.elim (by simp only [tI_lt, tI_le, tI_eq, tL_lt, tL_le, tL_eq, tWx, (by decide : (0 : Int32).toInt = 0), (by decide : (0 : Int64).toInt = 0), (by decide : (1 : Int32).toInt = 1), (by decide : (1 : Int64).toInt = 1)] at f_2 f_3 f_7 f_8; omega)
      · exact ex.trans em.symm
      · exact False.elim (by simp only [tI_lt, tI_le, tI_eq, tL_lt, tL_le, tL_eq, tWx, (by decide : (0 : Int32).toInt = 0), (by decide : (0 : Int64).toInt = 0), (by decide : (1 : Int32).toInt = 1), (by decide : (1 : Int64).toInt = 1)] at f_2 f_3 f_12 f_13 f_14; omega)
    · rcases hw2 with ⟨f_6, em, -⟩ | ⟨f_7, f_8, em, -⟩ | ⟨_, f_9, f_10, f_11, em, -⟩ | ⟨_, f_12, f_13, f_14, em, -⟩
      · exact ex.trans em.symm
      · exact ex.trans em.symm
      · exact False.elim (by simp only [tI_lt, tI_le, tI_eq, tL_lt, tL_le, tL_eq, tWx, (by decide : (0 : Int32).toInt = 0), (by decide : (0 : Int64).toInt = 0), (by decide : (1 : Int32).toInt = 1), (by decide : (1 : Int64).toInt = 1)] at f_4 f_5 f_9 f_10 f_11; omega)
      · exact False.elim (by simp only [tI_lt, tI_le, tI_eq, tL_lt, tL_le, tL_eq, tWx, (by decide : (0 : Int32).toInt = 0), (by decide : (0 : Int64).toInt = 0), (by decide : (1 : Int32).toInt = 1), (by decide : (1 : Int64).toInt = 1)] at f_4 f_5 f_12 f_13 f_14; omega)
  refine lv_icmp_eq (tgt := 1549) hx hb dL_law_710 (by decide) (fun _ => ?_) (fun c_1 => absurd e9 c_1)
  exact law_end C0 (Nat.le_of_ble_eq_true rfl) (Nat.le_of_ble_eq_true rfl) hS (lv_sub hl [0, 3] rfl)
theorem dL_law_715 : decode cL_law 715 = .ok (.aload_n 1, 1) := by decide +kernel
theorem q_4_35 : Cond.code yX9_bare prog_1_method_35_code 3 (some FieldType.int) ∈ gw := gw_4 (i := 35) (rfl) rfl
theorem q_4_33 : Cond.instanceMethod yX9_bare ∈ gw := gw_4 (i := 33) (by decide +kernel) rfl
theorem q_4_34 : Cond.selects "BeaconDelay" yX9_bare yX9_bare ∈ gw := gw_4 (i := 34) (by decide +kernel) rfl
theorem mt_X9_bare : MtV yX9_bare cX9_bare 3 (some .int) 0 := ⟨⟨q_4_35, q_1_1, by decide +kernel, by decide +kernel, by decide +kernel⟩, q_4_33, q_4_34⟩
theorem q_4_32 : Cond.methodLink "BeaconDelayLaw" 84 yX9_bare ∈ gw := gw_4 (i := 32) (by decide +kernel) rfl
theorem dL_law_716 : decode cL_law 716 = .ok (.invokevirtual 84, 3) := by decide +kernel
theorem dL_law_719 : decode cL_law 719 = .ok (.aload_n 2, 1) := by decide +kernel
theorem q_7_173 : Cond.code yX10_bare prog_12_method_80_code 2 (some FieldType.int) ∈ gw := gw_7 (i := 173) (rfl) rfl
theorem q_7_171 : Cond.instanceMethod yX10_bare ∈ gw := gw_7 (i := 171) (by decide +kernel) rfl
theorem q_7_172 : Cond.selects "BeaconDelayModel" yX10_bare yX10_bare ∈ gw := gw_7 (i := 172) (by decide +kernel) rfl
theorem mt_X10_bare : MtV yX10_bare cX10_bare 2 (some .int) 0 := ⟨⟨q_7_173, q_1_9, by decide +kernel, by decide +kernel, by decide +kernel⟩, q_7_171, q_7_172⟩
theorem q_7_170 : Cond.methodLink "BeaconDelayLaw" 88 yX10_bare ∈ gw := gw_7 (i := 170) (by decide +kernel) rfl
theorem dL_law_720 : decode cL_law 720 = .ok (.invokevirtual 88, 3) := by decide +kernel
theorem dL_law_723 : decode cL_law 723 = .ok (.if_icmp .eq 826, 3) := by decide +kernel
-- bare
set_option maxHeartbeats 4000000 in
set_option maxRecDepth 100000 in
theorem lc_17 {p : Program} {e : Env} {s : State} {m : MethodId} {below : List Frame} {meth : Method} {c : Code} {l : Launch} {b : Nat} {xs : Nat → Int32} {V : GV} {y z : Nat → Nat} (C0 : lw_At p s m meth c b 6 xs) (hg : ∀ w ∈ gw, w.before #[Value.ref b] s = true) (hK : va_K V.1 vwCl (tyV V) s) (hE : En V (fun q : Nat => s.heap.size ≤ q) s s.heap) {H : Heap} {locs : List Loc} (hP : va_P V.1 vwCl (xW V y ++ mW V z) H) (hD : va_D (fun q : Nat => s.heap.size ≤ q) (xW V y ++ mW V z)) (hS : va_S (fun q : Nat => s.heap.size ≤ q) s.heap H locs) {ls : Array Slot} (hl : lv_has ls 4 [(0, .ref b), (1, .ref (y 0)), (2, .ref (z 0)), (3, .int 0)]) : W p l e room_1 s m #[Value.ref b] below meth c H locs 84 223324 (lw_Z below #[Value.ref b] s) (F0 m 715 ls []) := by
  obtain ⟨hx, hb, hr, hml, hown, hts, hX, hbl, hlocks, hgv⟩ := id C0
  have hA : ∀ q : Nat, s.heap.size ≤ q → (fun q : Nat => s.heap.size ≤ q) q := fun _ h => h
  have hbA : ¬ (fun q : Nat => s.heap.size ≤ q) b := Nat.not_le.mpr hbl
  refine lv_aload_n hx hb dL_law_715 rfl (lv_at hl 1 rfl) ?_
  refine jnI (wr := mW V z) (rnV (rest := []) ⟨hx, hb, hml, hown, hg⟩ (c_X9_bare_0 l V y) mt_X9_bare q_4_32 ⟨Nat.le_of_ble_eq_true rfl, Nat.le_of_ble_eq_true rfl⟩ hK hP hD hS hA hE [0, 2, 19, 25] rfl rfl 0 rfl rfl rfl rfl hl.1 rfl (Nat.le_of_ble_eq_true rfl) dL_law_716 ⟨Nat.le_of_ble_eq_true rfl, Nat.le_of_ble_eq_true rfl⟩) hP hD hS hA [0, 2, 19, 25] [59, 60, 61, 62, 63, 64, 65, 66, 67, 68, 69, 70, 71, 72, 73, 74, 75, 76, 77, 78, 79, 80, 81, 82, 83] rfl rfl rfl (by decide) (fun r w H locs hw hP hD hS => ?_)
  refine W.widen (k := 84) (n := 223324) (Nat.le_of_ble_eq_true rfl) (Nat.le_of_ble_eq_true rfl) ?_
  have hP : va_P V.1 vwCl (mW V z) H := takeP hP
  have hD : va_D (fun q : Nat => s.heap.size ≤ q) (mW V z) := takeD hD
  refine lv_aload_n hx hb dL_law_719 rfl (lv_at hl 2 rfl) ?_
  refine jnI (wr := []) (rnV (rest := [.int r]) ⟨hx, hb, hml, hown, hg⟩ (c_X10_bare_0 l V z) mt_X10_bare q_7_170 ⟨Nat.le_of_ble_eq_true rfl, Nat.le_of_ble_eq_true rfl⟩ hK hP hD hS hA hE [0, 7, 8, 24] rfl rfl 0 rfl rfl rfl rfl hl.1 rfl (Nat.le_of_ble_eq_true rfl) dL_law_720 ⟨Nat.le_of_ble_eq_true rfl, Nat.le_of_ble_eq_true rfl⟩) hP hD hS hA [0, 7, 8, 24] [] rfl rfl rfl (by decide) (fun r2 w2 H locs hw2 hP hD hS => ?_)
  refine W.widen (k := 84) (n := 223324) (Nat.le_of_ble_eq_true rfl) (Nat.le_of_ble_eq_true rfl) ?_
  have e9 : r = r2 := by
    obtain ⟨ex, -⟩ := hw
    obtain ⟨_, em, -⟩ := hw2
    exact ex.trans em.symm
  refine lv_icmp_eq (tgt := 1549) hx hb dL_law_723 (by decide) (fun _ => ?_) (fun c_1 => absurd e9 c_1)
  exact law_end C0 (Nat.le_of_ble_eq_true rfl) (Nat.le_of_ble_eq_true rfl) hS (lv_sub hl [0, 3] rfl)
theorem dL_law_728 : decode cL_law 728 = .ok (.aload_n 1, 1) := by decide +kernel
theorem q_4_39 : Cond.code yX9_rests prog_1_method_36_code 1 (some FieldType.int) ∈ gw := gw_4 (i := 39) (rfl) rfl
theorem q_4_37 : Cond.instanceMethod yX9_rests ∈ gw := gw_4 (i := 37) (by decide +kernel) rfl
theorem q_4_38 : Cond.selects "BeaconDelay" yX9_rests yX9_rests ∈ gw := gw_4 (i := 38) (by decide +kernel) rfl
theorem mt_X9_rests : MtV yX9_rests cX9_rests 1 (some .int) 0 := ⟨⟨q_4_39, q_1_1, by decide +kernel, by decide +kernel, by decide +kernel⟩, q_4_37, q_4_38⟩
theorem q_4_36 : Cond.methodLink "BeaconDelayLaw" 89 yX9_rests ∈ gw := gw_4 (i := 36) (by decide +kernel) rfl
theorem dL_law_729 : decode cL_law 729 = .ok (.invokevirtual 89, 3) := by decide +kernel
theorem dL_law_732 : decode cL_law 732 = .ok (.aload_n 2, 1) := by decide +kernel
theorem q_7_177 : Cond.code yX10_rests prog_12_method_81_code 5 (some FieldType.int) ∈ gw := gw_7 (i := 177) (rfl) rfl
theorem q_7_175 : Cond.instanceMethod yX10_rests ∈ gw := gw_7 (i := 175) (by decide +kernel) rfl
theorem q_7_176 : Cond.selects "BeaconDelayModel" yX10_rests yX10_rests ∈ gw := gw_7 (i := 176) (by decide +kernel) rfl
theorem mt_X10_rests : MtV yX10_rests cX10_rests 5 (some .int) 0 := ⟨⟨q_7_177, q_1_9, by decide +kernel, by decide +kernel, by decide +kernel⟩, q_7_175, q_7_176⟩
theorem q_7_174 : Cond.methodLink "BeaconDelayLaw" 92 yX10_rests ∈ gw := gw_7 (i := 174) (by decide +kernel) rfl
theorem dL_law_733 : decode cL_law 733 = .ok (.invokevirtual 92, 3) := by decide +kernel
theorem dL_law_736 : decode cL_law 736 = .ok (.if_icmp .eq 813, 3) := by decide +kernel
-- rests
set_option maxHeartbeats 4000000 in
set_option maxRecDepth 100000 in
theorem lc_18 {p : Program} {e : Env} {s : State} {m : MethodId} {below : List Frame} {meth : Method} {c : Code} {l : Launch} {b : Nat} {xs : Nat → Int32} {V : GV} {y z : Nat → Nat} (C0 : lw_At p s m meth c b 6 xs) (hg : ∀ w ∈ gw, w.before #[Value.ref b] s = true) (hK : va_K V.1 vwCl (tyV V) s) (hE : En V (fun q : Nat => s.heap.size ≤ q) s s.heap) {H : Heap} {locs : List Loc} (hP : va_P V.1 vwCl (xW V y ++ mW V z) H) (hD : va_D (fun q : Nat => s.heap.size ≤ q) (xW V y ++ mW V z)) (hS : va_S (fun q : Nat => s.heap.size ≤ q) s.heap H locs) {ls : Array Slot} (hl : lv_has ls 4 [(0, .ref b), (1, .ref (y 0)), (2, .ref (z 0)), (3, .int 0)]) : W p l e room_1 s m #[Value.ref b] below meth c H locs 84 223324 (lw_Z below #[Value.ref b] s) (F0 m 728 ls []) := by
  obtain ⟨hx, hb, hr, hml, hown, hts, hX, hbl, hlocks, hgv⟩ := id C0
  have hA : ∀ q : Nat, s.heap.size ≤ q → (fun q : Nat => s.heap.size ≤ q) q := fun _ h => h
  have hbA : ¬ (fun q : Nat => s.heap.size ≤ q) b := Nat.not_le.mpr hbl
  refine lv_aload_n hx hb dL_law_728 rfl (lv_at hl 1 rfl) ?_
  refine jnI (wr := mW V z) (rnV (rest := []) ⟨hx, hb, hml, hown, hg⟩ (c_X9_rests_0 l V y) mt_X9_rests q_4_36 ⟨Nat.le_of_ble_eq_true rfl, Nat.le_of_ble_eq_true rfl⟩ hK hP hD hS hA hE [0, 2, 19, 23] rfl rfl 0 rfl rfl rfl rfl hl.1 rfl (Nat.le_of_ble_eq_true rfl) dL_law_729 ⟨Nat.le_of_ble_eq_true rfl, Nat.le_of_ble_eq_true rfl⟩) hP hD hS hA [0, 2, 19, 23] [59, 60, 61, 62, 63, 64, 65, 66, 67, 68, 69, 70, 71, 72, 73, 74, 75, 76, 77, 78, 79, 80, 81, 82, 83] rfl rfl rfl (by decide) (fun r w H locs hw hP hD hS => ?_)
  refine W.widen (k := 84) (n := 223324) (Nat.le_of_ble_eq_true rfl) (Nat.le_of_ble_eq_true rfl) ?_
  have hP : va_P V.1 vwCl (mW V z) H := takeP hP
  have hD : va_D (fun q : Nat => s.heap.size ≤ q) (mW V z) := takeD hD
  refine lv_aload_n hx hb dL_law_732 rfl (lv_at hl 2 rfl) ?_
  refine jnI (wr := []) (rnV (rest := [.int r]) ⟨hx, hb, hml, hown, hg⟩ (c_X10_rests_0 l V z) mt_X10_rests q_7_174 ⟨Nat.le_of_ble_eq_true rfl, Nat.le_of_ble_eq_true rfl⟩ hK hP hD hS hA hE [0, 24] rfl rfl 0 rfl rfl rfl rfl hl.1 rfl (Nat.le_of_ble_eq_true rfl) dL_law_733 ⟨Nat.le_of_ble_eq_true rfl, Nat.le_of_ble_eq_true rfl⟩) hP hD hS hA [0, 24] [] rfl rfl rfl (by decide) (fun r2 w2 H locs hw2 hP hD hS => ?_)
  refine W.widen (k := 84) (n := 223324) (Nat.le_of_ble_eq_true rfl) (Nat.le_of_ble_eq_true rfl) ?_
  have e9 : r = r2 := by
    obtain ⟨ex, -⟩ := hw
    obtain ⟨em, -⟩ := hw2
    exact ex.trans em.symm
  refine lv_icmp_eq (tgt := 1549) hx hb dL_law_736 (by decide) (fun _ => ?_) (fun c_1 => absurd e9 c_1)
  exact law_end C0 (Nat.le_of_ble_eq_true rfl) (Nat.le_of_ble_eq_true rfl) hS (lv_sub hl [0, 3] rfl)
theorem dL_law_741 : decode cL_law 741 = .ok (.aload_n 1, 1) := by decide +kernel
theorem dL_law_742 : decode cL_law 742 = .ok (.aload_n 0, 1) := by decide +kernel
theorem dL_law_743 : decode cL_law 743 = .ok (.iload_n 3, 1) := by decide +kernel
theorem dL_law_744 : decode cL_law 744 = .ok (.iconst 1, 1) := by decide +kernel
theorem dL_law_745 : decode cL_law 745 = .ok (.iadd, 1) := by decide +kernel
theorem dL_law_746 : decode cL_law 746 = .ok (.iaload, 1) := by decide +kernel
theorem dL_law_747 : decode cL_law 747 = .ok (.aload_n 0, 1) := by decide +kernel
theorem dL_law_748 : decode cL_law 748 = .ok (.iload_n 3, 1) := by decide +kernel
theorem dL_law_749 : decode cL_law 749 = .ok (.iconst 2, 1) := by decide +kernel
theorem dL_law_750 : decode cL_law 750 = .ok (.iadd, 1) := by decide +kernel
theorem dL_law_751 : decode cL_law 751 = .ok (.iaload, 1) := by decide +kernel
theorem q_4_48 : Cond.code yX9_soonest prog_1_method_39_code 5 (some FieldType.int) ∈ gw := gw_4 (i := 48) (rfl) rfl
theorem q_4_46 : Cond.instanceMethod yX9_soonest ∈ gw := gw_4 (i := 46) (by decide +kernel) rfl
theorem q_4_47 : Cond.selects "BeaconDelay" yX9_soonest yX9_soonest ∈ gw := gw_4 (i := 47) (by decide +kernel) rfl
theorem mt_X9_soonest : MtV yX9_soonest cX9_soonest 5 (some .int) 2 := ⟨⟨q_4_48, q_1_1, by decide +kernel, by decide +kernel, by decide +kernel⟩, q_4_46, q_4_47⟩
theorem q_4_45 : Cond.methodLink "BeaconDelayLaw" 93 yX9_soonest ∈ gw := gw_4 (i := 45) (by decide +kernel) rfl
theorem dL_law_752 : decode cL_law 752 = .ok (.invokevirtual 93, 3) := by decide +kernel
theorem dL_law_755 : decode cL_law 755 = .ok (.aload_n 2, 1) := by decide +kernel
theorem dL_law_756 : decode cL_law 756 = .ok (.aload_n 0, 1) := by decide +kernel
theorem dL_law_757 : decode cL_law 757 = .ok (.iload_n 3, 1) := by decide +kernel
theorem dL_law_758 : decode cL_law 758 = .ok (.iconst 1, 1) := by decide +kernel
theorem dL_law_759 : decode cL_law 759 = .ok (.iadd, 1) := by decide +kernel
theorem dL_law_760 : decode cL_law 760 = .ok (.iaload, 1) := by decide +kernel
theorem dL_law_761 : decode cL_law 761 = .ok (.aload_n 0, 1) := by decide +kernel
theorem dL_law_762 : decode cL_law 762 = .ok (.iload_n 3, 1) := by decide +kernel
theorem dL_law_763 : decode cL_law 763 = .ok (.iconst 2, 1) := by decide +kernel
theorem dL_law_764 : decode cL_law 764 = .ok (.iadd, 1) := by decide +kernel
theorem dL_law_765 : decode cL_law 765 = .ok (.iaload, 1) := by decide +kernel
theorem q_7_181 : Cond.code yX10_soonest prog_12_method_89_code 4 (some FieldType.int) ∈ gw := gw_7 (i := 181) (rfl) rfl
theorem q_7_179 : Cond.instanceMethod yX10_soonest ∈ gw := gw_7 (i := 179) (by decide +kernel) rfl
theorem q_7_180 : Cond.selects "BeaconDelayModel" yX10_soonest yX10_soonest ∈ gw := gw_7 (i := 180) (by decide +kernel) rfl
theorem mt_X10_soonest : MtV yX10_soonest cX10_soonest 4 (some .int) 2 := ⟨⟨q_7_181, q_1_9, by decide +kernel, by decide +kernel, by decide +kernel⟩, q_7_179, q_7_180⟩
theorem q_7_178 : Cond.methodLink "BeaconDelayLaw" 96 yX10_soonest ∈ gw := gw_7 (i := 178) (by decide +kernel) rfl
theorem dL_law_766 : decode cL_law 766 = .ok (.invokevirtual 96, 3) := by decide +kernel
theorem dL_law_769 : decode cL_law 769 = .ok (.if_icmp .eq 780, 3) := by decide +kernel
-- soonest
set_option maxHeartbeats 4000000 in
set_option maxRecDepth 100000 in
theorem lc_19 {p : Program} {e : Env} {s : State} {m : MethodId} {below : List Frame} {meth : Method} {c : Code} {l : Launch} {b : Nat} {xs : Nat → Int32} {V : GV} {y z : Nat → Nat} (C0 : lw_At p s m meth c b 6 xs) (hg : ∀ w ∈ gw, w.before #[Value.ref b] s = true) (hK : va_K V.1 vwCl (tyV V) s) (hE : En V (fun q : Nat => s.heap.size ≤ q) s s.heap) {H : Heap} {locs : List Loc} (hP : va_P V.1 vwCl (xW V y ++ mW V z) H) (hD : va_D (fun q : Nat => s.heap.size ≤ q) (xW V y ++ mW V z)) (hS : va_S (fun q : Nat => s.heap.size ≤ q) s.heap H locs) {ls : Array Slot} (hl : lv_has ls 4 [(0, .ref b), (1, .ref (y 0)), (2, .ref (z 0)), (3, .int 0)]) : W p l e room_1 s m #[Value.ref b] below meth c H locs 84 223324 (lw_Z below #[Value.ref b] s) (F0 m 741 ls []) := by
  obtain ⟨hx, hb, hr, hml, hown, hts, hX, hbl, hlocks, hgv⟩ := id C0
  have hA : ∀ q : Nat, s.heap.size ≤ q → (fun q : Nat => s.heap.size ≤ q) q := fun _ h => h
  have hbA : ¬ (fun q : Nat => s.heap.size ≤ q) b := Nat.not_le.mpr hbl
  refine lv_aload_n hx hb dL_law_741 rfl (lv_at hl 1 rfl) ?_
  refine lv_aload_n hx hb dL_law_742 rfl (lv_at hl 0 rfl) ?_
  refine lv_iload_n hx hb dL_law_743 rfl (lv_at hl 3 rfl) ?_
  refine lv_iconst (v := 1) hx hb dL_law_744 (by decide) ?_
  refine lv_iadd hx hb dL_law_745 ?_
  refine tpi (y := 1) (by decide +kernel) ?_
  refine va_sld hx hb hX hbl hbA hS (vin (by decide +kernel)) dL_law_746 ?_
  refine tpi (y := xs 1) rfl ?_
  refine lv_aload_n hx hb dL_law_747 rfl (lv_at hl 0 rfl) ?_
  refine lv_iload_n hx hb dL_law_748 rfl (lv_at hl 3 rfl) ?_
  refine lv_iconst (v := 2) hx hb dL_law_749 (by decide) ?_
  refine lv_iadd hx hb dL_law_750 ?_
  refine tpi (y := 2) (by decide +kernel) ?_
  refine va_sld hx hb hX hbl hbA hS (vin (by decide +kernel)) dL_law_751 ?_
  refine tpi (y := xs 2) rfl ?_
  refine jnI (wr := mW V z) (rnV (rest := []) ⟨hx, hb, hml, hown, hg⟩ (c_X9_soonest_0 l V y ((xs 1)) ((xs 2))) mt_X9_soonest q_4_45 ⟨Nat.le_of_ble_eq_true rfl, Nat.le_of_ble_eq_true rfl⟩ hK hP hD hS hA hE [0, 2] rfl rfl 0 rfl rfl rfl rfl hl.1 rfl (Nat.le_of_ble_eq_true rfl) dL_law_752 ⟨Nat.le_of_ble_eq_true rfl, Nat.le_of_ble_eq_true rfl⟩) hP hD hS hA [0, 2] [59, 60, 61, 62, 63, 64, 65, 66, 67, 68, 69, 70, 71, 72, 73, 74, 75, 76, 77, 78, 79, 80, 81, 82, 83] rfl rfl rfl (by decide) (fun r w H locs hw hP hD hS => ?_)
  refine W.widen (k := 84) (n := 223324) (Nat.le_of_ble_eq_true rfl) (Nat.le_of_ble_eq_true rfl) ?_
  have hP : va_P V.1 vwCl (mW V z) H := takeP hP
  have hD : va_D (fun q : Nat => s.heap.size ≤ q) (mW V z) := takeD hD
  refine lv_aload_n hx hb dL_law_755 rfl (lv_at hl 2 rfl) ?_
  refine lv_aload_n hx hb dL_law_756 rfl (lv_at hl 0 rfl) ?_
  refine lv_iload_n hx hb dL_law_757 rfl (lv_at hl 3 rfl) ?_
  refine lv_iconst (v := 1) hx hb dL_law_758 (by decide) ?_
  refine lv_iadd hx hb dL_law_759 ?_
  refine tpi (y := 1) (by decide +kernel) ?_
  refine va_sld hx hb hX hbl hbA hS (vin (by decide +kernel)) dL_law_760 ?_
  refine tpi (y := xs 1) rfl ?_
  refine lv_aload_n hx hb dL_law_761 rfl (lv_at hl 0 rfl) ?_
  refine lv_iload_n hx hb dL_law_762 rfl (lv_at hl 3 rfl) ?_
  refine lv_iconst (v := 2) hx hb dL_law_763 (by decide) ?_
  refine lv_iadd hx hb dL_law_764 ?_
  refine tpi (y := 2) (by decide +kernel) ?_
  refine va_sld hx hb hX hbl hbA hS (vin (by decide +kernel)) dL_law_765 ?_
  refine tpi (y := xs 2) rfl ?_
  refine jnI (wr := []) (rnV (rest := [.int r]) ⟨hx, hb, hml, hown, hg⟩ (c_X10_soonest_0 l V z ((xs 1)) ((xs 2))) mt_X10_soonest q_7_178 ⟨Nat.le_of_ble_eq_true rfl, Nat.le_of_ble_eq_true rfl⟩ hK hP hD hS hA hE [0, 24] rfl rfl 0 rfl rfl rfl rfl hl.1 rfl (Nat.le_of_ble_eq_true rfl) dL_law_766 ⟨Nat.le_of_ble_eq_true rfl, Nat.le_of_ble_eq_true rfl⟩) hP hD hS hA [0, 24] [] rfl rfl rfl (by decide) (fun r2 w2 H locs hw2 hP hD hS => ?_)
  refine W.widen (k := 84) (n := 223324) (Nat.le_of_ble_eq_true rfl) (Nat.le_of_ble_eq_true rfl) ?_
  have e9 : r = r2 := by
    obtain ⟨ex, -⟩ := hw
    obtain ⟨em, -⟩ := hw2
    exact ex.trans em.symm
  refine lv_icmp_eq (tgt := 1549) hx hb dL_law_769 (by decide) (fun _ => ?_) (fun c_1 => absurd e9 c_1)
  exact law_end C0 (Nat.le_of_ble_eq_true rfl) (Nat.le_of_ble_eq_true rfl) hS (lv_sub hl [0, 3] rfl)
theorem dL_law_774 : decode cL_law 774 = .ok (.aload_n 1, 1) := by decide +kernel
theorem dL_law_775 : decode cL_law 775 = .ok (.aload_n 0, 1) := by decide +kernel
theorem dL_law_776 : decode cL_law 776 = .ok (.iload_n 3, 1) := by decide +kernel
theorem dL_law_777 : decode cL_law 777 = .ok (.iconst 1, 1) := by decide +kernel
theorem dL_law_778 : decode cL_law 778 = .ok (.iadd, 1) := by decide +kernel
theorem dL_law_779 : decode cL_law 779 = .ok (.iaload, 1) := by decide +kernel
theorem dL_law_780 : decode cL_law 780 = .ok (.aload_n 0, 1) := by decide +kernel
theorem dL_law_781 : decode cL_law 781 = .ok (.iload_n 3, 1) := by decide +kernel
theorem dL_law_782 : decode cL_law 782 = .ok (.iconst 2, 1) := by decide +kernel
theorem dL_law_783 : decode cL_law 783 = .ok (.iadd, 1) := by decide +kernel
theorem dL_law_784 : decode cL_law 784 = .ok (.iaload, 1) := by decide +kernel
theorem dL_law_785 : decode cL_law 785 = .ok (.aload_n 0, 1) := by decide +kernel
theorem dL_law_786 : decode cL_law 786 = .ok (.iload_n 3, 1) := by decide +kernel
theorem dL_law_787 : decode cL_law 787 = .ok (.iconst 3, 1) := by decide +kernel
theorem dL_law_788 : decode cL_law 788 = .ok (.iadd, 1) := by decide +kernel
theorem dL_law_789 : decode cL_law 789 = .ok (.iaload, 1) := by decide +kernel
theorem q_4_153 : Cond.code yX9_way prog_1_method_40_code 6 (some FieldType.int) ∈ gw := gw_4 (i := 153) (rfl) rfl
theorem q_4_151 : Cond.instanceMethod yX9_way ∈ gw := gw_4 (i := 151) (by decide +kernel) rfl
theorem q_4_152 : Cond.selects "BeaconDelay" yX9_way yX9_way ∈ gw := gw_4 (i := 152) (by decide +kernel) rfl
theorem mt_X9_way : MtV yX9_way cX9_way 6 (some .int) 3 := ⟨⟨q_4_153, q_1_1, by decide +kernel, by decide +kernel, by decide +kernel⟩, q_4_151, q_4_152⟩
theorem q_4_150 : Cond.methodLink "BeaconDelayLaw" 97 yX9_way ∈ gw := gw_4 (i := 150) (by decide +kernel) rfl
theorem dL_law_790 : decode cL_law 790 = .ok (.invokevirtual 97, 3) := by decide +kernel
theorem dL_law_793 : decode cL_law 793 = .ok (.aload_n 2, 1) := by decide +kernel
theorem dL_law_794 : decode cL_law 794 = .ok (.aload_n 0, 1) := by decide +kernel
theorem dL_law_795 : decode cL_law 795 = .ok (.iload_n 3, 1) := by decide +kernel
theorem dL_law_796 : decode cL_law 796 = .ok (.iconst 1, 1) := by decide +kernel
theorem dL_law_797 : decode cL_law 797 = .ok (.iadd, 1) := by decide +kernel
theorem dL_law_798 : decode cL_law 798 = .ok (.iaload, 1) := by decide +kernel
theorem dL_law_799 : decode cL_law 799 = .ok (.aload_n 0, 1) := by decide +kernel
theorem dL_law_800 : decode cL_law 800 = .ok (.iload_n 3, 1) := by decide +kernel
theorem dL_law_801 : decode cL_law 801 = .ok (.iconst 2, 1) := by decide +kernel
theorem dL_law_802 : decode cL_law 802 = .ok (.iadd, 1) := by decide +kernel
theorem dL_law_803 : decode cL_law 803 = .ok (.iaload, 1) := by decide +kernel
theorem dL_law_804 : decode cL_law 804 = .ok (.aload_n 0, 1) := by decide +kernel
theorem dL_law_805 : decode cL_law 805 = .ok (.iload_n 3, 1) := by decide +kernel
theorem dL_law_806 : decode cL_law 806 = .ok (.iconst 3, 1) := by decide +kernel
theorem dL_law_807 : decode cL_law 807 = .ok (.iadd, 1) := by decide +kernel
theorem dL_law_808 : decode cL_law 808 = .ok (.iaload, 1) := by decide +kernel
theorem q_7_213 : Cond.code yX10_way prog_12_method_90_code 8 (some FieldType.int) ∈ gw := gw_7 (i := 213) (rfl) rfl
theorem q_7_211 : Cond.instanceMethod yX10_way ∈ gw := gw_7 (i := 211) (by decide +kernel) rfl
theorem q_7_212 : Cond.selects "BeaconDelayModel" yX10_way yX10_way ∈ gw := gw_7 (i := 212) (by decide +kernel) rfl
theorem mt_X10_way : MtV yX10_way cX10_way 8 (some .int) 3 := ⟨⟨q_7_213, q_1_9, by decide +kernel, by decide +kernel, by decide +kernel⟩, q_7_211, q_7_212⟩
theorem q_7_210 : Cond.methodLink "BeaconDelayLaw" 101 yX10_way ∈ gw := gw_7 (i := 210) (by decide +kernel) rfl
theorem dL_law_809 : decode cL_law 809 = .ok (.invokevirtual 101, 3) := by decide +kernel
theorem dL_law_812 : decode cL_law 812 = .ok (.if_icmp .eq 737, 3) := by decide +kernel
-- way
set_option maxHeartbeats 4000000 in
set_option maxRecDepth 100000 in
theorem lc_20 {p : Program} {e : Env} {s : State} {m : MethodId} {below : List Frame} {meth : Method} {c : Code} {l : Launch} {b : Nat} {xs : Nat → Int32} {V : GV} {y z : Nat → Nat} (C0 : lw_At p s m meth c b 6 xs) (hg : ∀ w ∈ gw, w.before #[Value.ref b] s = true) (hK : va_K V.1 vwCl (tyV V) s) (hE : En V (fun q : Nat => s.heap.size ≤ q) s s.heap) {H : Heap} {locs : List Loc} (hP : va_P V.1 vwCl (xW V y ++ mW V z) H) (hD : va_D (fun q : Nat => s.heap.size ≤ q) (xW V y ++ mW V z)) (hS : va_S (fun q : Nat => s.heap.size ≤ q) s.heap H locs) {ls : Array Slot} (hl : lv_has ls 4 [(0, .ref b), (1, .ref (y 0)), (2, .ref (z 0)), (3, .int 0)]) : W p l e room_1 s m #[Value.ref b] below meth c H locs 84 223324 (lw_Z below #[Value.ref b] s) (F0 m 774 ls []) := by
  obtain ⟨hx, hb, hr, hml, hown, hts, hX, hbl, hlocks, hgv⟩ := id C0
  have hA : ∀ q : Nat, s.heap.size ≤ q → (fun q : Nat => s.heap.size ≤ q) q := fun _ h => h
  have hbA : ¬ (fun q : Nat => s.heap.size ≤ q) b := Nat.not_le.mpr hbl
  refine lv_aload_n hx hb dL_law_774 rfl (lv_at hl 1 rfl) ?_
  refine lv_aload_n hx hb dL_law_775 rfl (lv_at hl 0 rfl) ?_
  refine lv_iload_n hx hb dL_law_776 rfl (lv_at hl 3 rfl) ?_
  refine lv_iconst (v := 1) hx hb dL_law_777 (by decide) ?_
  refine lv_iadd hx hb dL_law_778 ?_
  refine tpi (y := 1) (by decide +kernel) ?_
  refine va_sld hx hb hX hbl hbA hS (vin (by decide +kernel)) dL_law_779 ?_
  refine tpi (y := xs 1) rfl ?_
  refine lv_aload_n hx hb dL_law_780 rfl (lv_at hl 0 rfl) ?_
  refine lv_iload_n hx hb dL_law_781 rfl (lv_at hl 3 rfl) ?_
  refine lv_iconst (v := 2) hx hb dL_law_782 (by decide) ?_
  refine lv_iadd hx hb dL_law_783 ?_
  refine tpi (y := 2) (by decide +kernel) ?_
  refine va_sld hx hb hX hbl hbA hS (vin (by decide +kernel)) dL_law_784 ?_
  refine tpi (y := xs 2) rfl ?_
  refine lv_aload_n hx hb dL_law_785 rfl (lv_at hl 0 rfl) ?_
  refine lv_iload_n hx hb dL_law_786 rfl (lv_at hl 3 rfl) ?_
  refine lv_iconst (v := 3) hx hb dL_law_787 (by decide) ?_
  refine lv_iadd hx hb dL_law_788 ?_
  refine tpi (y := 3) (by decide +kernel) ?_
  refine va_sld hx hb hX hbl hbA hS (vin (by decide +kernel)) dL_law_789 ?_
  refine tpi (y := xs 3) rfl ?_
  refine jnI (wr := mW V z) (rnV (rest := []) ⟨hx, hb, hml, hown, hg⟩ (c_X9_way_0 l V y ((xs 1)) ((xs 2)) ((xs 3))) mt_X9_way q_4_150 ⟨Nat.le_of_ble_eq_true rfl, Nat.le_of_ble_eq_true rfl⟩ hK hP hD hS hA hE [0, 2] rfl rfl 0 rfl rfl rfl rfl hl.1 rfl (Nat.le_of_ble_eq_true rfl) dL_law_790 ⟨Nat.le_of_ble_eq_true rfl, Nat.le_of_ble_eq_true rfl⟩) hP hD hS hA [0, 2] [59, 60, 61, 62, 63, 64, 65, 66, 67, 68, 69, 70, 71, 72, 73, 74, 75, 76, 77, 78, 79, 80, 81, 82, 83] rfl rfl rfl (by decide) (fun r w H locs hw hP hD hS => ?_)
  refine W.widen (k := 84) (n := 223324) (Nat.le_of_ble_eq_true rfl) (Nat.le_of_ble_eq_true rfl) ?_
  have hP : va_P V.1 vwCl (mW V z) H := takeP hP
  have hD : va_D (fun q : Nat => s.heap.size ≤ q) (mW V z) := takeD hD
  refine lv_aload_n hx hb dL_law_793 rfl (lv_at hl 2 rfl) ?_
  refine lv_aload_n hx hb dL_law_794 rfl (lv_at hl 0 rfl) ?_
  refine lv_iload_n hx hb dL_law_795 rfl (lv_at hl 3 rfl) ?_
  refine lv_iconst (v := 1) hx hb dL_law_796 (by decide) ?_
  refine lv_iadd hx hb dL_law_797 ?_
  refine tpi (y := 1) (by decide +kernel) ?_
  refine va_sld hx hb hX hbl hbA hS (vin (by decide +kernel)) dL_law_798 ?_
  refine tpi (y := xs 1) rfl ?_
  refine lv_aload_n hx hb dL_law_799 rfl (lv_at hl 0 rfl) ?_
  refine lv_iload_n hx hb dL_law_800 rfl (lv_at hl 3 rfl) ?_
  refine lv_iconst (v := 2) hx hb dL_law_801 (by decide) ?_
  refine lv_iadd hx hb dL_law_802 ?_
  refine tpi (y := 2) (by decide +kernel) ?_
  refine va_sld hx hb hX hbl hbA hS (vin (by decide +kernel)) dL_law_803 ?_
  refine tpi (y := xs 2) rfl ?_
  refine lv_aload_n hx hb dL_law_804 rfl (lv_at hl 0 rfl) ?_
  refine lv_iload_n hx hb dL_law_805 rfl (lv_at hl 3 rfl) ?_
  refine lv_iconst (v := 3) hx hb dL_law_806 (by decide) ?_
  refine lv_iadd hx hb dL_law_807 ?_
  refine tpi (y := 3) (by decide +kernel) ?_
  refine va_sld hx hb hX hbl hbA hS (vin (by decide +kernel)) dL_law_808 ?_
  refine tpi (y := xs 3) rfl ?_
  refine jnI (wr := []) (rnV (rest := [.int r]) ⟨hx, hb, hml, hown, hg⟩ (c_X10_way_0 l V z ((xs 1)) ((xs 2)) ((xs 3))) mt_X10_way q_7_210 ⟨Nat.le_of_ble_eq_true rfl, Nat.le_of_ble_eq_true rfl⟩ hK hP hD hS hA hE [0, 24] rfl rfl 0 rfl rfl rfl rfl hl.1 rfl (Nat.le_of_ble_eq_true rfl) dL_law_809 ⟨Nat.le_of_ble_eq_true rfl, Nat.le_of_ble_eq_true rfl⟩) hP hD hS hA [0, 24] [] rfl rfl rfl (by decide) (fun r2 w2 H locs hw2 hP hD hS => ?_)
  refine W.widen (k := 84) (n := 223324) (Nat.le_of_ble_eq_true rfl) (Nat.le_of_ble_eq_true rfl) ?_
  have e9 : r = r2 := by
    obtain ⟨ex, -⟩ := hw
    obtain ⟨em, -⟩ := hw2
    exact ex.trans em.symm
  refine lv_icmp_eq (tgt := 1549) hx hb dL_law_812 (by decide) (fun _ => ?_) (fun c_1 => absurd e9 c_1)
  exact law_end C0 (Nat.le_of_ble_eq_true rfl) (Nat.le_of_ble_eq_true rfl) hS (lv_sub hl [0, 3] rfl)
theorem dL_law_817 : decode cL_law 817 = .ok (.aload_n 1, 1) := by decide +kernel
theorem dL_law_818 : decode cL_law 818 = .ok (.aload_n 0, 1) := by decide +kernel
theorem dL_law_819 : decode cL_law 819 = .ok (.iload_n 3, 1) := by decide +kernel
theorem dL_law_820 : decode cL_law 820 = .ok (.iconst 1, 1) := by decide +kernel
theorem dL_law_821 : decode cL_law 821 = .ok (.iadd, 1) := by decide +kernel
theorem dL_law_822 : decode cL_law 822 = .ok (.iaload, 1) := by decide +kernel
theorem dL_law_823 : decode cL_law 823 = .ok (.aload_n 0, 1) := by decide +kernel
theorem dL_law_824 : decode cL_law 824 = .ok (.iload_n 3, 1) := by decide +kernel
theorem dL_law_825 : decode cL_law 825 = .ok (.iconst 2, 1) := by decide +kernel
theorem dL_law_826 : decode cL_law 826 = .ok (.iadd, 1) := by decide +kernel
theorem dL_law_827 : decode cL_law 827 = .ok (.iaload, 1) := by decide +kernel
theorem dL_law_828 : decode cL_law 828 = .ok (.aload_n 0, 1) := by decide +kernel
theorem dL_law_829 : decode cL_law 829 = .ok (.iload_n 3, 1) := by decide +kernel
theorem dL_law_830 : decode cL_law 830 = .ok (.iconst 3, 1) := by decide +kernel
theorem dL_law_831 : decode cL_law 831 = .ok (.iadd, 1) := by decide +kernel
theorem dL_law_832 : decode cL_law 832 = .ok (.iaload, 1) := by decide +kernel
theorem q_4_161 : Cond.code yX9_rows prog_1_method_41_code 5 (some FieldType.long) ∈ gw := gw_4 (i := 161) (rfl) rfl
theorem q_4_159 : Cond.instanceMethod yX9_rows ∈ gw := gw_4 (i := 159) (by decide +kernel) rfl
theorem q_4_160 : Cond.selects "BeaconDelay" yX9_rows yX9_rows ∈ gw := gw_4 (i := 160) (by decide +kernel) rfl
theorem mt_X9_rows : MtV yX9_rows cX9_rows 5 (some .long) 3 := ⟨⟨q_4_161, q_1_1, by decide +kernel, by decide +kernel, by decide +kernel⟩, q_4_159, q_4_160⟩
theorem q_4_158 : Cond.methodLink "BeaconDelayLaw" 102 yX9_rows ∈ gw := gw_4 (i := 158) (by decide +kernel) rfl
theorem dL_law_833 : decode cL_law 833 = .ok (.invokevirtual 102, 3) := by decide +kernel
theorem dL_law_836 : decode cL_law 836 = .ok (.aload_n 2, 1) := by decide +kernel
theorem dL_law_837 : decode cL_law 837 = .ok (.aload_n 0, 1) := by decide +kernel
theorem dL_law_838 : decode cL_law 838 = .ok (.iload_n 3, 1) := by decide +kernel
theorem dL_law_839 : decode cL_law 839 = .ok (.iconst 1, 1) := by decide +kernel
theorem dL_law_840 : decode cL_law 840 = .ok (.iadd, 1) := by decide +kernel
theorem dL_law_841 : decode cL_law 841 = .ok (.iaload, 1) := by decide +kernel
theorem dL_law_842 : decode cL_law 842 = .ok (.aload_n 0, 1) := by decide +kernel
theorem dL_law_843 : decode cL_law 843 = .ok (.iload_n 3, 1) := by decide +kernel
theorem dL_law_844 : decode cL_law 844 = .ok (.iconst 2, 1) := by decide +kernel
theorem dL_law_845 : decode cL_law 845 = .ok (.iadd, 1) := by decide +kernel
theorem dL_law_846 : decode cL_law 846 = .ok (.iaload, 1) := by decide +kernel
theorem dL_law_847 : decode cL_law 847 = .ok (.aload_n 0, 1) := by decide +kernel
theorem dL_law_848 : decode cL_law 848 = .ok (.iload_n 3, 1) := by decide +kernel
theorem dL_law_849 : decode cL_law 849 = .ok (.iconst 3, 1) := by decide +kernel
theorem dL_law_850 : decode cL_law 850 = .ok (.iadd, 1) := by decide +kernel
theorem dL_law_851 : decode cL_law 851 = .ok (.iaload, 1) := by decide +kernel
theorem q_7_217 : Cond.code yX10_rows prog_12_method_94_code 8 (some FieldType.long) ∈ gw := gw_7 (i := 217) (rfl) rfl
theorem q_7_215 : Cond.instanceMethod yX10_rows ∈ gw := gw_7 (i := 215) (by decide +kernel) rfl
theorem q_7_216 : Cond.selects "BeaconDelayModel" yX10_rows yX10_rows ∈ gw := gw_7 (i := 216) (by decide +kernel) rfl
theorem mt_X10_rows : MtV yX10_rows cX10_rows 8 (some .long) 3 := ⟨⟨q_7_217, q_1_9, by decide +kernel, by decide +kernel, by decide +kernel⟩, q_7_215, q_7_216⟩
theorem q_7_214 : Cond.methodLink "BeaconDelayLaw" 106 yX10_rows ∈ gw := gw_7 (i := 214) (by decide +kernel) rfl
theorem dL_law_852 : decode cL_law 852 = .ok (.invokevirtual 106, 3) := by decide +kernel
theorem dL_law_855 : decode cL_law 855 = .ok (.lcmp, 1) := by decide +kernel
theorem dL_law_856 : decode cL_law 856 = .ok (.ifCond .eq 693, 3) := by decide +kernel
-- rows
set_option maxHeartbeats 4000000 in
set_option maxRecDepth 100000 in
theorem lc_21 {p : Program} {e : Env} {s : State} {m : MethodId} {below : List Frame} {meth : Method} {c : Code} {l : Launch} {b : Nat} {xs : Nat → Int32} {V : GV} {y z : Nat → Nat} (C0 : lw_At p s m meth c b 6 xs) (hg : ∀ w ∈ gw, w.before #[Value.ref b] s = true) (hK : va_K V.1 vwCl (tyV V) s) (hE : En V (fun q : Nat => s.heap.size ≤ q) s s.heap) {H : Heap} {locs : List Loc} (hP : va_P V.1 vwCl (xW V y ++ mW V z) H) (hD : va_D (fun q : Nat => s.heap.size ≤ q) (xW V y ++ mW V z)) (hS : va_S (fun q : Nat => s.heap.size ≤ q) s.heap H locs) {ls : Array Slot} (hl : lv_has ls 4 [(0, .ref b), (1, .ref (y 0)), (2, .ref (z 0)), (3, .int 0)]) : W p l e room_1 s m #[Value.ref b] below meth c H locs 84 223324 (lw_Z below #[Value.ref b] s) (F0 m 817 ls []) := by
  obtain ⟨hx, hb, hr, hml, hown, hts, hX, hbl, hlocks, hgv⟩ := id C0
  have hA : ∀ q : Nat, s.heap.size ≤ q → (fun q : Nat => s.heap.size ≤ q) q := fun _ h => h
  have hbA : ¬ (fun q : Nat => s.heap.size ≤ q) b := Nat.not_le.mpr hbl
  refine lv_aload_n hx hb dL_law_817 rfl (lv_at hl 1 rfl) ?_
  refine lv_aload_n hx hb dL_law_818 rfl (lv_at hl 0 rfl) ?_
  refine lv_iload_n hx hb dL_law_819 rfl (lv_at hl 3 rfl) ?_
  refine lv_iconst (v := 1) hx hb dL_law_820 (by decide) ?_
  refine lv_iadd hx hb dL_law_821 ?_
  refine tpi (y := 1) (by decide +kernel) ?_
  refine va_sld hx hb hX hbl hbA hS (vin (by decide +kernel)) dL_law_822 ?_
  refine tpi (y := xs 1) rfl ?_
  refine lv_aload_n hx hb dL_law_823 rfl (lv_at hl 0 rfl) ?_
  refine lv_iload_n hx hb dL_law_824 rfl (lv_at hl 3 rfl) ?_
  refine lv_iconst (v := 2) hx hb dL_law_825 (by decide) ?_
  refine lv_iadd hx hb dL_law_826 ?_
  refine tpi (y := 2) (by decide +kernel) ?_
  refine va_sld hx hb hX hbl hbA hS (vin (by decide +kernel)) dL_law_827 ?_
  refine tpi (y := xs 2) rfl ?_
  refine lv_aload_n hx hb dL_law_828 rfl (lv_at hl 0 rfl) ?_
  refine lv_iload_n hx hb dL_law_829 rfl (lv_at hl 3 rfl) ?_
  refine lv_iconst (v := 3) hx hb dL_law_830 (by decide) ?_
  refine lv_iadd hx hb dL_law_831 ?_
  refine tpi (y := 3) (by decide +kernel) ?_
  refine va_sld hx hb hX hbl hbA hS (vin (by decide +kernel)) dL_law_832 ?_
  refine tpi (y := xs 3) rfl ?_
  refine jnL (wr := mW V z) (rnV (rest := []) ⟨hx, hb, hml, hown, hg⟩ (c_X9_rows_0 l V y ((xs 1)) ((xs 2)) ((xs 3))) mt_X9_rows q_4_158 ⟨Nat.le_of_ble_eq_true rfl, Nat.le_of_ble_eq_true rfl⟩ hK hP hD hS hA hE [0, 2] rfl rfl 0 rfl rfl rfl rfl hl.1 rfl (Nat.le_of_ble_eq_true rfl) dL_law_833 ⟨Nat.le_of_ble_eq_true rfl, Nat.le_of_ble_eq_true rfl⟩) hP hD hS hA [0, 2] [59, 60, 61, 62, 63, 64, 65, 66, 67, 68, 69, 70, 71, 72, 73, 74, 75, 76, 77, 78, 79, 80, 81, 82, 83] rfl rfl rfl (by decide) (fun r w H locs hw hP hD hS => ?_)
  refine W.widen (k := 84) (n := 223324) (Nat.le_of_ble_eq_true rfl) (Nat.le_of_ble_eq_true rfl) ?_
  have hP : va_P V.1 vwCl (mW V z) H := takeP hP
  have hD : va_D (fun q : Nat => s.heap.size ≤ q) (mW V z) := takeD hD
  refine lv_aload_n hx hb dL_law_836 rfl (lv_at hl 2 rfl) ?_
  refine lv_aload_n hx hb dL_law_837 rfl (lv_at hl 0 rfl) ?_
  refine lv_iload_n hx hb dL_law_838 rfl (lv_at hl 3 rfl) ?_
  refine lv_iconst (v := 1) hx hb dL_law_839 (by decide) ?_
  refine lv_iadd hx hb dL_law_840 ?_
  refine tpi (y := 1) (by decide +kernel) ?_
  refine va_sld hx hb hX hbl hbA hS (vin (by decide +kernel)) dL_law_841 ?_
  refine tpi (y := xs 1) rfl ?_
  refine lv_aload_n hx hb dL_law_842 rfl (lv_at hl 0 rfl) ?_
  refine lv_iload_n hx hb dL_law_843 rfl (lv_at hl 3 rfl) ?_
  refine lv_iconst (v := 2) hx hb dL_law_844 (by decide) ?_
  refine lv_iadd hx hb dL_law_845 ?_
  refine tpi (y := 2) (by decide +kernel) ?_
  refine va_sld hx hb hX hbl hbA hS (vin (by decide +kernel)) dL_law_846 ?_
  refine tpi (y := xs 2) rfl ?_
  refine lv_aload_n hx hb dL_law_847 rfl (lv_at hl 0 rfl) ?_
  refine lv_iload_n hx hb dL_law_848 rfl (lv_at hl 3 rfl) ?_
  refine lv_iconst (v := 3) hx hb dL_law_849 (by decide) ?_
  refine lv_iadd hx hb dL_law_850 ?_
  refine tpi (y := 3) (by decide +kernel) ?_
  refine va_sld hx hb hX hbl hbA hS (vin (by decide +kernel)) dL_law_851 ?_
  refine tpi (y := xs 3) rfl ?_
  refine jnL (wr := []) (rnV (rest := [.long r]) ⟨hx, hb, hml, hown, hg⟩ (c_X10_rows_0 l V z ((xs 1)) ((xs 2)) ((xs 3))) mt_X10_rows q_7_214 ⟨Nat.le_of_ble_eq_true rfl, Nat.le_of_ble_eq_true rfl⟩ hK hP hD hS hA hE [0, 24] rfl rfl 0 rfl rfl rfl rfl hl.1 rfl (Nat.le_of_ble_eq_true rfl) dL_law_852 ⟨Nat.le_of_ble_eq_true rfl, Nat.le_of_ble_eq_true rfl⟩) hP hD hS hA [0, 24] [] rfl rfl rfl (by decide) (fun r2 w2 H locs hw2 hP hD hS => ?_)
  refine W.widen (k := 84) (n := 223324) (Nat.le_of_ble_eq_true rfl) (Nat.le_of_ble_eq_true rfl) ?_
  have e9 : r = r2 := by
    obtain ⟨ex, -⟩ := hw
    obtain ⟨em, -⟩ := hw2
    exact ex.trans em.symm
  refine W.lcmp hx hb dL_law_855 ?_
  refine lv_if_eq (tgt := 1549) hx hb dL_law_856 (by decide) (fun _ => ?_) (fun c_1 => absurd ((lg_cmp_eq _ _).mpr e9) c_1)
  exact law_end C0 (Nat.le_of_ble_eq_true rfl) (Nat.le_of_ble_eq_true rfl) hS (lv_sub hl [0, 3] rfl)
theorem dL_law_861 : decode cL_law 861 = .ok (.aload_n 1, 1) := by decide +kernel
theorem dL_law_862 : decode cL_law 862 = .ok (.aload_n 0, 1) := by decide +kernel
theorem dL_law_863 : decode cL_law 863 = .ok (.iload_n 3, 1) := by decide +kernel
theorem dL_law_864 : decode cL_law 864 = .ok (.iconst 1, 1) := by decide +kernel
theorem dL_law_865 : decode cL_law 865 = .ok (.iadd, 1) := by decide +kernel
theorem dL_law_866 : decode cL_law 866 = .ok (.iaload, 1) := by decide +kernel
theorem q_4_193 : Cond.code yX9_keeps prog_1_method_42_code 2 (some FieldType.int) ∈ gw := gw_4 (i := 193) (rfl) rfl
theorem q_4_191 : Cond.instanceMethod yX9_keeps ∈ gw := gw_4 (i := 191) (by decide +kernel) rfl
theorem q_4_192 : Cond.selects "BeaconDelay" yX9_keeps yX9_keeps ∈ gw := gw_4 (i := 192) (by decide +kernel) rfl
theorem mt_X9_keeps : MtV yX9_keeps cX9_keeps 2 (some .int) 1 := ⟨⟨q_4_193, q_1_1, by decide +kernel, by decide +kernel, by decide +kernel⟩, q_4_191, q_4_192⟩
theorem q_4_190 : Cond.methodLink "BeaconDelayLaw" 107 yX9_keeps ∈ gw := gw_4 (i := 190) (by decide +kernel) rfl
theorem dL_law_867 : decode cL_law 867 = .ok (.invokevirtual 107, 3) := by decide +kernel
theorem dL_law_870 : decode cL_law 870 = .ok (.aload_n 2, 1) := by decide +kernel
theorem dL_law_871 : decode cL_law 871 = .ok (.aload_n 0, 1) := by decide +kernel
theorem dL_law_872 : decode cL_law 872 = .ok (.iload_n 3, 1) := by decide +kernel
theorem dL_law_873 : decode cL_law 873 = .ok (.iconst 1, 1) := by decide +kernel
theorem dL_law_874 : decode cL_law 874 = .ok (.iadd, 1) := by decide +kernel
theorem dL_law_875 : decode cL_law 875 = .ok (.iaload, 1) := by decide +kernel
theorem q_7_235 : Cond.code yX10_keeps prog_12_method_96_code 7 (some FieldType.int) ∈ gw := gw_7 (i := 235) (rfl) rfl
theorem q_7_233 : Cond.instanceMethod yX10_keeps ∈ gw := gw_7 (i := 233) (by decide +kernel) rfl
theorem q_7_234 : Cond.selects "BeaconDelayModel" yX10_keeps yX10_keeps ∈ gw := gw_7 (i := 234) (by decide +kernel) rfl
theorem mt_X10_keeps : MtV yX10_keeps cX10_keeps 7 (some .int) 1 := ⟨⟨q_7_235, q_1_9, by decide +kernel, by decide +kernel, by decide +kernel⟩, q_7_233, q_7_234⟩
theorem q_7_232 : Cond.methodLink "BeaconDelayLaw" 110 yX10_keeps ∈ gw := gw_7 (i := 232) (by decide +kernel) rfl
theorem dL_law_876 : decode cL_law 876 = .ok (.invokevirtual 110, 3) := by decide +kernel
theorem dL_law_879 : decode cL_law 879 = .ok (.if_icmp .eq 670, 3) := by decide +kernel
-- keeps
set_option maxHeartbeats 4000000 in
set_option maxRecDepth 100000 in
theorem lc_22 {p : Program} {e : Env} {s : State} {m : MethodId} {below : List Frame} {meth : Method} {c : Code} {l : Launch} {b : Nat} {xs : Nat → Int32} {V : GV} {y z : Nat → Nat} (C0 : lw_At p s m meth c b 6 xs) (hg : ∀ w ∈ gw, w.before #[Value.ref b] s = true) (hK : va_K V.1 vwCl (tyV V) s) (hE : En V (fun q : Nat => s.heap.size ≤ q) s s.heap) {H : Heap} {locs : List Loc} (hP : va_P V.1 vwCl (xW V y ++ mW V z) H) (hD : va_D (fun q : Nat => s.heap.size ≤ q) (xW V y ++ mW V z)) (hS : va_S (fun q : Nat => s.heap.size ≤ q) s.heap H locs) {ls : Array Slot} (hl : lv_has ls 4 [(0, .ref b), (1, .ref (y 0)), (2, .ref (z 0)), (3, .int 0)]) : W p l e room_1 s m #[Value.ref b] below meth c H locs 84 223324 (lw_Z below #[Value.ref b] s) (F0 m 861 ls []) := by
  obtain ⟨hx, hb, hr, hml, hown, hts, hX, hbl, hlocks, hgv⟩ := id C0
  have hA : ∀ q : Nat, s.heap.size ≤ q → (fun q : Nat => s.heap.size ≤ q) q := fun _ h => h
  have hbA : ¬ (fun q : Nat => s.heap.size ≤ q) b := Nat.not_le.mpr hbl
  refine lv_aload_n hx hb dL_law_861 rfl (lv_at hl 1 rfl) ?_
  refine lv_aload_n hx hb dL_law_862 rfl (lv_at hl 0 rfl) ?_
  refine lv_iload_n hx hb dL_law_863 rfl (lv_at hl 3 rfl) ?_
  refine lv_iconst (v := 1) hx hb dL_law_864 (by decide) ?_
  refine lv_iadd hx hb dL_law_865 ?_
  refine tpi (y := 1) (by decide +kernel) ?_
  refine va_sld hx hb hX hbl hbA hS (vin (by decide +kernel)) dL_law_866 ?_
  refine tpi (y := xs 1) rfl ?_
  refine jnI (wr := mW V z) (rnV (rest := []) ⟨hx, hb, hml, hown, hg⟩ (c_X9_keeps_0 l V y ((xs 1))) mt_X9_keeps q_4_190 ⟨Nat.le_of_ble_eq_true rfl, Nat.le_of_ble_eq_true rfl⟩ hK hP hD hS hA hE [0, 2] rfl rfl 0 rfl rfl rfl rfl hl.1 rfl (Nat.le_of_ble_eq_true rfl) dL_law_867 ⟨Nat.le_of_ble_eq_true rfl, Nat.le_of_ble_eq_true rfl⟩) hP hD hS hA [0, 2] [59, 60, 61, 62, 63, 64, 65, 66, 67, 68, 69, 70, 71, 72, 73, 74, 75, 76, 77, 78, 79, 80, 81, 82, 83] rfl rfl rfl (by decide) (fun r w H locs hw hP hD hS => ?_)
  refine W.widen (k := 94) (n := 223356) (Nat.le_of_ble_eq_true rfl) (Nat.le_of_ble_eq_true rfl) ?_
  have hP : va_P V.1 vwCl (mW V z) H := takeP hP
  have hD : va_D (fun q : Nat => s.heap.size ≤ q) (mW V z) := takeD hD
  refine lv_aload_n hx hb dL_law_870 rfl (lv_at hl 2 rfl) ?_
  refine lv_aload_n hx hb dL_law_871 rfl (lv_at hl 0 rfl) ?_
  refine lv_iload_n hx hb dL_law_872 rfl (lv_at hl 3 rfl) ?_
  refine lv_iconst (v := 1) hx hb dL_law_873 (by decide) ?_
  refine lv_iadd hx hb dL_law_874 ?_
  refine tpi (y := 1) (by decide +kernel) ?_
  refine va_sld hx hb hX hbl hbA hS (vin (by decide +kernel)) dL_law_875 ?_
  refine tpi (y := xs 1) rfl ?_
  refine jnI (wr := []) (rnV (rest := [.int r]) ⟨hx, hb, hml, hown, hg⟩ (c_X10_keeps_0 l V z ((xs 1))) mt_X10_keeps q_7_232 ⟨Nat.le_of_ble_eq_true rfl, Nat.le_of_ble_eq_true rfl⟩ hK hP hD hS hA hE [0, 9, 10, 11, 13, 24] rfl rfl 0 rfl rfl rfl rfl hl.1 rfl (Nat.le_of_ble_eq_true rfl) dL_law_876 ⟨Nat.le_of_ble_eq_true rfl, Nat.le_of_ble_eq_true rfl⟩) hP hD hS hA [0, 9, 10, 11, 13, 24] [] rfl rfl rfl (by decide) (fun r2 w2 H locs hw2 hP hD hS => ?_)
  refine W.widen (k := 94) (n := 223356) (Nat.le_of_ble_eq_true rfl) (Nat.le_of_ble_eq_true rfl) ?_
  have e9 : r = r2 := by
    rcases hw with ⟨f_1, ex, -⟩ | ⟨f_2, f_3, ex, -⟩ | ⟨_, _, _, _, _, _, _, _, _, _, f_4, f_5, ex, -⟩
    · rcases hw2 with ⟨f_6, em, -⟩ | ⟨f_7, f_8, em, -⟩ | ⟨f_9, f_10, f_11, f_12, em, -⟩
      · exact ex.trans em.symm
      · exact ex.trans em.symm
      · exact False.elim (by simp only [tI_lt, tI_le, tI_eq, tL_lt, tL_le, tL_eq, tWx, (by decide : (0 : Int32).toInt = 0), (by decide : (0 : Int64).toInt = 0), (by decide : (1 : Int32).toInt = 1), (by decide : (1 : Int64).toInt = 1), (by decide : (4 : Int32).toInt = 4), (by decide : (4 : Int64).toInt = 4)] at f_1 f_9 f_10 f_11 f_12; omega)
    · rcases hw2 with ⟨f_6, em, -⟩ | ⟨f_7, f_8, em, -⟩ | ⟨f_9, f_10, f_11, f_12, em, -⟩
      · exact ex.trans em.symm
      · exact ex.trans em.symm
      · exact False.elim (by simp only [tI_lt, tI_le, tI_eq, tL_lt, tL_le, tL_eq, tWx, (by decide : (0 : Int32).toInt = 0), (by decide : (0 : Int64).toInt = 0), (by decide : (1 : Int32).toInt = 1), (by decide : (1 : Int64).toInt = 1), (by decide : (4 : Int32).toInt = 4), (by decide : (4 : Int64).toInt = 4)] at f_2 f_3 f_9 f_10 f_11 f_12; omega)
    · rcases hw2 with ⟨f_6, em, -⟩ | ⟨f_7, f_8, em, -⟩ | ⟨f_9, f_10, f_11, f_12, em, -⟩
      · exact False.elim (by simp only [tI_lt, tI_le, tI_eq, tL_lt, tL_le, tL_eq, tWx, (by decide : (0 : Int32).toInt = 0), (by decide : (0 : Int64).toInt = 0), (by decide : (1 : Int32).toInt = 1), (by decide : (1 : Int64).toInt = 1), (by decide : (4 : Int32).toInt = 4)] at f_4 f_5 f_6; omega)
      · exact False.elim (by simp only [tI_lt, tI_le, tI_eq, tL_lt, tL_le, tL_eq, tWx, (by decide : (0 : Int32).toInt = 0), (by decide : (0 : Int64).toInt = 0), (by decide : (1 : Int32).toInt = 1), (by decide : (1 : Int64).toInt = 1), (by decide : (4 : Int32).toInt = 4), (by decide : (4 : Int64).toInt = 4)] at f_4 f_5 f_7 f_8; omega)
      · exact ex.trans em.symm
  refine lv_icmp_eq (tgt := 1549) hx hb dL_law_879 (by decide) (fun _ => ?_) (fun c_1 => absurd e9 c_1)
  exact law_end C0 (Nat.le_of_ble_eq_true rfl) (Nat.le_of_ble_eq_true rfl) hS (lv_sub hl [0, 3] rfl)
theorem dL_law_884 : decode cL_law 884 = .ok (.aload_n 1, 1) := by decide +kernel
theorem dL_law_885 : decode cL_law 885 = .ok (.aload_n 0, 1) := by decide +kernel
theorem dL_law_886 : decode cL_law 886 = .ok (.iload_n 3, 1) := by decide +kernel
theorem dL_law_887 : decode cL_law 887 = .ok (.iconst 1, 1) := by decide +kernel
theorem dL_law_888 : decode cL_law 888 = .ok (.iadd, 1) := by decide +kernel
theorem dL_law_889 : decode cL_law 889 = .ok (.iaload, 1) := by decide +kernel
theorem dL_law_890 : decode cL_law 890 = .ok (.aload_n 0, 1) := by decide +kernel
theorem dL_law_891 : decode cL_law 891 = .ok (.iload_n 3, 1) := by decide +kernel
theorem dL_law_892 : decode cL_law 892 = .ok (.iconst 2, 1) := by decide +kernel
theorem dL_law_893 : decode cL_law 893 = .ok (.iadd, 1) := by decide +kernel
theorem dL_law_894 : decode cL_law 894 = .ok (.iaload, 1) := by decide +kernel
theorem q_4_212 : Cond.code yX9_reaches prog_1_method_43_code 7 (some FieldType.int) ∈ gw := gw_4 (i := 212) (rfl) rfl
theorem q_4_210 : Cond.instanceMethod yX9_reaches ∈ gw := gw_4 (i := 210) (by decide +kernel) rfl
theorem q_4_211 : Cond.selects "BeaconDelay" yX9_reaches yX9_reaches ∈ gw := gw_4 (i := 211) (by decide +kernel) rfl
theorem mt_X9_reaches : MtV yX9_reaches cX9_reaches 7 (some .int) 2 := ⟨⟨q_4_212, q_1_1, by decide +kernel, by decide +kernel, by decide +kernel⟩, q_4_210, q_4_211⟩
theorem q_4_209 : Cond.methodLink "BeaconDelayLaw" 111 yX9_reaches ∈ gw := gw_4 (i := 209) (by decide +kernel) rfl
theorem dL_law_895 : decode cL_law 895 = .ok (.invokevirtual 111, 3) := by decide +kernel
theorem dL_law_898 : decode cL_law 898 = .ok (.aload_n 2, 1) := by decide +kernel
theorem dL_law_899 : decode cL_law 899 = .ok (.aload_n 0, 1) := by decide +kernel
theorem dL_law_900 : decode cL_law 900 = .ok (.iload_n 3, 1) := by decide +kernel
theorem dL_law_901 : decode cL_law 901 = .ok (.iconst 1, 1) := by decide +kernel
theorem dL_law_902 : decode cL_law 902 = .ok (.iadd, 1) := by decide +kernel
theorem dL_law_903 : decode cL_law 903 = .ok (.iaload, 1) := by decide +kernel
theorem dL_law_904 : decode cL_law 904 = .ok (.aload_n 0, 1) := by decide +kernel
theorem dL_law_905 : decode cL_law 905 = .ok (.iload_n 3, 1) := by decide +kernel
theorem dL_law_906 : decode cL_law 906 = .ok (.iconst 2, 1) := by decide +kernel
theorem dL_law_907 : decode cL_law 907 = .ok (.iadd, 1) := by decide +kernel
theorem dL_law_908 : decode cL_law 908 = .ok (.iaload, 1) := by decide +kernel
theorem q_8_7 : Cond.code yX10_reaches prog_12_method_97_code 6 (some FieldType.int) ∈ gw := gw_8 (i := 7) (rfl) rfl
theorem q_8_5 : Cond.instanceMethod yX10_reaches ∈ gw := gw_8 (i := 5) (by decide +kernel) rfl
theorem q_8_6 : Cond.selects "BeaconDelayModel" yX10_reaches yX10_reaches ∈ gw := gw_8 (i := 6) (by decide +kernel) rfl
theorem mt_X10_reaches : MtV yX10_reaches cX10_reaches 6 (some .int) 2 := ⟨⟨q_8_7, q_1_9, by decide +kernel, by decide +kernel, by decide +kernel⟩, q_8_5, q_8_6⟩
theorem q_8_4 : Cond.methodLink "BeaconDelayLaw" 114 yX10_reaches ∈ gw := gw_8 (i := 4) (by decide +kernel) rfl
theorem dL_law_909 : decode cL_law 909 = .ok (.invokevirtual 114, 3) := by decide +kernel
theorem dL_law_912 : decode cL_law 912 = .ok (.if_icmp .eq 637, 3) := by decide +kernel
-- reaches
set_option maxHeartbeats 4000000 in
set_option maxRecDepth 100000 in
theorem lc_23 {p : Program} {e : Env} {s : State} {m : MethodId} {below : List Frame} {meth : Method} {c : Code} {l : Launch} {b : Nat} {xs : Nat → Int32} {V : GV} {y z : Nat → Nat} (C0 : lw_At p s m meth c b 6 xs) (hg : ∀ w ∈ gw, w.before #[Value.ref b] s = true) (hK : va_K V.1 vwCl (tyV V) s) (hE : En V (fun q : Nat => s.heap.size ≤ q) s s.heap) {H : Heap} {locs : List Loc} (hP : va_P V.1 vwCl (xW V y ++ mW V z) H) (hD : va_D (fun q : Nat => s.heap.size ≤ q) (xW V y ++ mW V z)) (hS : va_S (fun q : Nat => s.heap.size ≤ q) s.heap H locs) {ls : Array Slot} (hl : lv_has ls 4 [(0, .ref b), (1, .ref (y 0)), (2, .ref (z 0)), (3, .int 0)]) : W p l e room_1 s m #[Value.ref b] below meth c H locs 84 223324 (lw_Z below #[Value.ref b] s) (F0 m 884 ls []) := by
  obtain ⟨hx, hb, hr, hml, hown, hts, hX, hbl, hlocks, hgv⟩ := id C0
  have hA : ∀ q : Nat, s.heap.size ≤ q → (fun q : Nat => s.heap.size ≤ q) q := fun _ h => h
  have hbA : ¬ (fun q : Nat => s.heap.size ≤ q) b := Nat.not_le.mpr hbl
  refine lv_aload_n hx hb dL_law_884 rfl (lv_at hl 1 rfl) ?_
  refine lv_aload_n hx hb dL_law_885 rfl (lv_at hl 0 rfl) ?_
  refine lv_iload_n hx hb dL_law_886 rfl (lv_at hl 3 rfl) ?_
  refine lv_iconst (v := 1) hx hb dL_law_887 (by decide) ?_
  refine lv_iadd hx hb dL_law_888 ?_
  refine tpi (y := 1) (by decide +kernel) ?_
  refine va_sld hx hb hX hbl hbA hS (vin (by decide +kernel)) dL_law_889 ?_
  refine tpi (y := xs 1) rfl ?_
  refine lv_aload_n hx hb dL_law_890 rfl (lv_at hl 0 rfl) ?_
  refine lv_iload_n hx hb dL_law_891 rfl (lv_at hl 3 rfl) ?_
  refine lv_iconst (v := 2) hx hb dL_law_892 (by decide) ?_
  refine lv_iadd hx hb dL_law_893 ?_
  refine tpi (y := 2) (by decide +kernel) ?_
  refine va_sld hx hb hX hbl hbA hS (vin (by decide +kernel)) dL_law_894 ?_
  refine tpi (y := xs 2) rfl ?_
  refine jnI (wr := mW V z) (rnV (rest := []) ⟨hx, hb, hml, hown, hg⟩ (c_X9_reaches_0 l V y ((xs 1)) ((xs 2))) mt_X9_reaches q_4_209 ⟨Nat.le_of_ble_eq_true rfl, Nat.le_of_ble_eq_true rfl⟩ hK hP hD hS hA hE [0, 2] rfl rfl 0 rfl rfl rfl rfl hl.1 rfl (Nat.le_of_ble_eq_true rfl) dL_law_895 ⟨Nat.le_of_ble_eq_true rfl, Nat.le_of_ble_eq_true rfl⟩) hP hD hS hA [0, 2] [59, 60, 61, 62, 63, 64, 65, 66, 67, 68, 69, 70, 71, 72, 73, 74, 75, 76, 77, 78, 79, 80, 81, 82, 83] rfl rfl rfl (by decide) (fun r w H locs hw hP hD hS => ?_)
  refine W.widen (k := 84) (n := 223324) (Nat.le_of_ble_eq_true rfl) (Nat.le_of_ble_eq_true rfl) ?_
  have hP : va_P V.1 vwCl (mW V z) H := takeP hP
  have hD : va_D (fun q : Nat => s.heap.size ≤ q) (mW V z) := takeD hD
  refine lv_aload_n hx hb dL_law_898 rfl (lv_at hl 2 rfl) ?_
  refine lv_aload_n hx hb dL_law_899 rfl (lv_at hl 0 rfl) ?_
  refine lv_iload_n hx hb dL_law_900 rfl (lv_at hl 3 rfl) ?_
  refine lv_iconst (v := 1) hx hb dL_law_901 (by decide) ?_
  refine lv_iadd hx hb dL_law_902 ?_
  refine tpi (y := 1) (by decide +kernel) ?_
  refine va_sld hx hb hX hbl hbA hS (vin (by decide +kernel)) dL_law_903 ?_
  refine tpi (y := xs 1) rfl ?_
  refine lv_aload_n hx hb dL_law_904 rfl (lv_at hl 0 rfl) ?_
  refine lv_iload_n hx hb dL_law_905 rfl (lv_at hl 3 rfl) ?_
  refine lv_iconst (v := 2) hx hb dL_law_906 (by decide) ?_
  refine lv_iadd hx hb dL_law_907 ?_
  refine tpi (y := 2) (by decide +kernel) ?_
  refine va_sld hx hb hX hbl hbA hS (vin (by decide +kernel)) dL_law_908 ?_
  refine tpi (y := xs 2) rfl ?_
  refine jnI (wr := []) (rnV (rest := [.int r]) ⟨hx, hb, hml, hown, hg⟩ (c_X10_reaches_0 l V z ((xs 1)) ((xs 2))) mt_X10_reaches q_8_4 ⟨Nat.le_of_ble_eq_true rfl, Nat.le_of_ble_eq_true rfl⟩ hK hP hD hS hA hE [0, 24] rfl rfl 0 rfl rfl rfl rfl hl.1 rfl (Nat.le_of_ble_eq_true rfl) dL_law_909 ⟨Nat.le_of_ble_eq_true rfl, Nat.le_of_ble_eq_true rfl⟩) hP hD hS hA [0, 24] [] rfl rfl rfl (by decide) (fun r2 w2 H locs hw2 hP hD hS => ?_)
  refine W.widen (k := 84) (n := 223324) (Nat.le_of_ble_eq_true rfl) (Nat.le_of_ble_eq_true rfl) ?_
  have e9 : r = r2 := by
    obtain ⟨ex, -⟩ := hw
    obtain ⟨em, -⟩ := hw2
    exact ex.trans em.symm
  refine lv_icmp_eq (tgt := 1549) hx hb dL_law_912 (by decide) (fun _ => ?_) (fun c_1 => absurd e9 c_1)
  exact law_end C0 (Nat.le_of_ble_eq_true rfl) (Nat.le_of_ble_eq_true rfl) hS (lv_sub hl [0, 3] rfl)
