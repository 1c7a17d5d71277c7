/-- a tray performed, the tray being found -/
theorem pf_c {D : Nat → Int32} {s w g hn pc c0 c1 c2 c3 : Int32} {ps pv pn : Nat → Int32} {f0 f1 f2 f3 : Nat → Int64} {t : Nat} (ht : t < 4) : F_k_X9_perform_0 D (nI t) s w g hn pc ps pv pn c0 f0 c1 f1 c2 f2 c3 f3 = if F_k_X7_isMissing_0 (sel4 t c0 c1 c2 c3) = 0 then (if (F_k_X9_tryAll_0 D s w g hn (sel4 t f0 f1 f2 f3) (sel4 t c0 c1 c2 c3)).1 ≤ 0 then ((F_k_X9_tryAll_0 D s w g hn (sel4 t f0 f1 f2 f3) (sel4 t c0 c1 c2 c3)).1, (F_k_X9_tryAll_0 D s w g hn (sel4 t f0 f1 f2 f3) (sel4 t c0 c1 c2 c3)).2.1, (F_k_X9_tryAll_0 D s w g hn (sel4 t f0 f1 f2 f3) (sel4 t c0 c1 c2 c3)).2.2.1, (F_k_X9_tryAll_0 D s w g hn (sel4 t f0 f1 f2 f3) (sel4 t c0 c1 c2 c3)).2.2.2, pc, ps, pv, pn) else ((F_k_X9_tryAll_0 D s w g hn (sel4 t f0 f1 f2 f3) (sel4 t c0 c1 c2 c3)).1, (F_k_X9_tryAll_0 D s w g hn (sel4 t f0 f1 f2 f3) (sel4 t c0 c1 c2 c3)).2.1, (F_k_X9_tryAll_0 D s w g hn (sel4 t f0 f1 f2 f3) (sel4 t c0 c1 c2 c3)).2.2.1, (F_k_X9_tryAll_0 D s w g hn (sel4 t f0 f1 f2 f3) (sel4 t c0 c1 c2 c3)).2.2.2, (F_k_X5_keep_0 s w g pc ps pv pn).1, (F_k_X5_keep_0 s w g pc ps pv pn).2.1, (F_k_X5_keep_0 s w g pc ps pv pn).2.2.1, (F_k_X5_keep_0 s w g pc ps pv pn).2.2.2)) else (-6, s, w, g, pc, ps, pv, pn) := by
  have c : t = 0 ∨ t = 1 ∨ t = 2 ∨ t = 3 := by omega
  simp only [F_k_X9_perform_0, bnd, ta_1, ta_2, ta_3, ms_1, ms_2, ms_3]
  rcases c with q | q | q | q
  · subst q
    have e : F_k_X9_isTray_0 (nI 0) = 2 := by decide
    rw [e, if_neg (by decide), if_neg (by decide), if_pos (by decide)]
    rfl
  · subst q
    have e : F_k_X9_isTray_0 (nI 1) = 2 := by decide
    rw [e, if_neg (by decide), if_neg (by decide), if_neg (by decide), if_pos (by decide)]
    rfl
  · subst q
    have e : F_k_X9_isTray_0 (nI 2) = 2 := by decide
    rw [e, if_neg (by decide), if_neg (by decide), if_neg (by decide), if_neg (by decide), if_pos (by decide)]
    rfl
  · subst q
    have e : F_k_X9_isTray_0 (nI 3) = 2 := by decide
    rw [e, if_neg (by decide), if_neg (by decide), if_neg (by decide), if_neg (by decide), if_neg (by decide)]
    rfl
theorem R_perform {n : Nat} {hn s w g pc a1 y18 c0 s0 c1 s1 c2 s2 c3 s3 : Int32} {A fe ps pv pn rk Wi Wz z37 z38 : Nat → Int32} {f0 f1 f2 f3 z39 : Nat → Int64} (c : CO9 n hn s w g A) (f : FE9 n fe A) (p : PaR n pc ps pv pn A) (tr : Tr4 c0 s0 f0 c1 s1 f1 c2 s2 f2 c3 s3 f3 z37 z38 z39) {C : Int32 × Int32 × Int32 × Int32 × Int32 × (Nat → Int32) × (Nat → Int32) × (Nat → Int32)} (hC9 : C = F_k_X9_perform_0 (DF A fe) a1 s w g hn pc ps pv pn c0 f0 c1 f1 c2 f2 c3 f3) {Z : Int32 × Int32 × Int32 × (Nat → Int32) × (Nat → Int32) × (Nat → Int32) × (Nat → Int32)} (hZ9 : Z = F_k_X10_perform_0 a1 y18 A rk Wi Wz z37 z38 z39) : C.1 = Z.1 ∧ ST9 n C.2.1 C.2.2.1 C.2.2.2.1 C.2.2.2.2.1 C.2.2.2.2.2.1 C.2.2.2.2.2.2.1 C.2.2.2.2.2.2.2 A Z.2.2.2.1 := by
  simp only [F_k_X10_perform_0, bnd, noT] at hZ9
  by_cases h1 : 0 ≤ a1.toInt ∧ a1.toInt ≤ 3
  · obtain ⟨t, ht⟩ : ∃ t : Nat, a1.toInt = (t : Int) := ⟨a1.toInt.toNat, by omega⟩
    have ea : a1 = nI t := i32 (by rw [ht, nI_toInt (by omega)])
    have t4 : t < 4 := by omega
    rw [if_pos h1] at hZ9
    subst ea
    rw [nI_clamp (by omega)] at hZ9
    rw [pf_c t4] at hC9
    rcases Tr4_t tr t4 with ⟨e1, e2⟩ | ⟨m, m40, e1, e2, e3, e4, e5⟩
    · rw [e1, ms_m, if_neg (by decide)] at hC9
      rw [e2, if_pos rfl, if_neg (by decide)] at hZ9
      subst hC9 hZ9
      exact ⟨rfl, ST9_r c.2.2.2.1 p⟩
    · have n37 : ¬ z37 t = -1 := fun q => by
        rw [e3] at q; rw [q] at e4; exact absurd e4.1 (by decide)
      rw [e1, ms_n m m40, if_pos rfl] at hC9
      rw [if_neg n37, if_pos rfl] at hZ9
      have R := ta_R (rk := rk) (Wi := Wi) c f t4 m40 e2 e5
      generalize F_k_X10_tells_0 (nI t) rk Wi z38 z39 A = ZZ at R hZ9
      generalize F_k_X9_tryAll_0 (DF A fe) s w g hn (sel4 t f0 f1 f2 f3) (nI m) = TT at R hC9
      obtain ⟨r1, r2, r3, r4, r5⟩ := R
      by_cases y : TT.1 ≤ 0
      · rw [if_pos y] at hC9
        rw [r1] at y
        rw [if_pos y] at hZ9
        subst hC9 hZ9
        exact ⟨r1, r2, PaR_g p (fun j hj => r4 j hj.1), r3⟩
      · rw [if_neg y] at hC9
        rw [r1] at y
        rw [if_neg y] at hZ9
        subst hC9 hZ9
        obtain ⟨k1, k2⟩ := kp_R (Wz := Wz) p c.2.2.2.1 r2 r4 r3
        exact ⟨r1, k1⟩
  · rw [if_neg h1, if_neg (by decide)] at hZ9
    have e : C = (-2, s, w, g, pc, ps, pv, pn) := by
      simp only [F_k_X9_perform_0] at hC9
      rcases isT a1 with ⟨q1, q2⟩ | ⟨q1, q2⟩ | ⟨q1, q2⟩
      · rw [q1, if_pos rfl] at hC9; exact hC9
      · rw [q1, if_neg (by decide), if_pos rfl] at hC9; exact hC9
      · exact absurd h1 (by omega)
    subst e hZ9
    exact ⟨rfl, ST9_r c.2.2.2.1 p⟩
-- a century
theorem dr_0 (x : Int32) : F_k_X10_draw_0 x = (((F_k_X9_drawnFrom_0 x).toUInt32 >>> ((16 : Int32).toUInt32 &&& Int32.toUInt32 31)).toInt32 - ((F_k_X9_drawnFrom_0 x).toUInt32 >>> ((16 : Int32).toUInt32 &&& Int32.toUInt32 31)).toInt32 / 6 * 6, F_k_X9_drawnFrom_0 x) := rfl
theorem dr_1 (x : Int32) : F_k_X10_draw_1 x = (((F_k_X9_drawnFrom_0 x).toUInt32 >>> ((16 : Int32).toUInt32 &&& Int32.toUInt32 31)).toInt32 - ((F_k_X9_drawnFrom_0 x).toUInt32 >>> ((16 : Int32).toUInt32 &&& Int32.toUInt32 31)).toInt32 / 10 * 10, F_k_X9_drawnFrom_0 x) := rfl
theorem dr_2 (x : Int32) : F_k_X10_draw_2 x = (((F_k_X9_drawnFrom_0 x).toUInt32 >>> ((16 : Int32).toUInt32 &&& Int32.toUInt32 31)).toInt32 - ((F_k_X9_drawnFrom_0 x).toUInt32 >>> ((16 : Int32).toUInt32 &&& Int32.toUInt32 31)).toInt32 / 4 * 4, F_k_X9_drawnFrom_0 x) := rfl
def sh9 (x : Int32) : Int32 := (x.toUInt32 >>> ((16 : Int32).toUInt32 &&& Int32.toUInt32 31)).toInt32
noncomputable def kd9 (x : Int32) : Int32 := sh9 (F_k_X9_drawnFrom_0 x) - sh9 (F_k_X9_drawnFrom_0 x) / 6 * 6
theorem dw_R (x : Int32) : (kd9 x ≤ 2 → F_k_X10_drawn_0 x = (0, F_k_X9_drawnFrom_0 x)) ∧ (¬ kd9 x ≤ 2 → F_k_X10_drawn_0 x = (F_k_X9_drawnDeed_0 (kd9 x) (sh9 (F_k_X9_drawnFrom_0 (F_k_X9_drawnFrom_0 x))), F_k_X9_drawnFrom_0 (F_k_X9_drawnFrom_0 x))) := by
  have z2 : (2 : Int32).toInt = 2 := by decide
  have z3 : (3 : Int32).toInt = 3 := by decide
  have k0 : F_k_X10_draw_0 x = (kd9 x, F_k_X9_drawnFrom_0 x) := rfl
  simp only [F_k_X10_drawn_0, F_k_X9_drawnDeed_0, bnd, k0]
  refine ⟨fun h => ?_, fun h => ?_⟩
  · rw [if_neg (fun q => by rw [Int32.le_iff_toInt_le] at q h; omega)]
  · rw [if_pos (Int32.le_iff_toInt_le.mpr (by rw [Int32.le_iff_toInt_le] at h; omega))]
    by_cases y : kd9 x = 3
    · rw [if_pos y, if_pos y]; rfl
    · rw [if_neg y, if_neg y]
      by_cases y4 : kd9 x = 4
      · rw [if_pos y4, if_pos y4]; rfl
      · rw [if_neg y4, if_neg y4]; rfl
theorem R_century {n : Nat} {hn s w g pc a1 a2 y19 : Int32} {A fe ps pv pn rk Wi Wz : Nat → Int32} (c : CO9 n hn s w g A) (f : FE9 n fe A) (p : PaR n pc ps pv pn A) {C : Int32 × Int32 × Int32 × Int32 × Int32 × (Nat → Int32) × (Nat → Int32) × (Nat → Int32)} (hC9 : C = F_k_X9_century_0 (DF A fe) a1 a2 s w g hn pc ps pv pn) {Z : Int32 × Int32 × Int32 × (Nat → Int32) × (Nat → Int32) × (Nat → Int32) × (Nat → Int32)} (hZ9 : Z = F_k_X10_century_0 a1 a2 y19 A rk Wi Wz) : C.1 = Z.1 ∧ ST9 n C.2.1 C.2.2.1 C.2.2.2.1 C.2.2.2.2.1 C.2.2.2.2.2.1 C.2.2.2.2.2.2.1 C.2.2.2.2.2.2.2 A Z.2.2.2.1 := by
  have z1 : (1 : Int64).toInt = 1 := by decide
  have z40 : (40 : Int64).toInt = 40 := by decide
  have y1 : (1 : Int32).toInt = 1 := by decide
  have y40 : (40 : Int32).toInt = 40 := by decide
  simp only [F_k_X9_century_0] at hC9
  simp only [F_k_X10_century_0, bnd] at hZ9
  by_cases h : 1 ≤ a2.toInt ∧ a2.toInt ≤ 40
  · rw [if_neg (show ¬ a2 < 1 from fun q => by rw [Int32.lt_iff_toInt_lt, y1] at q; omega), if_pos (show a2 ≤ 40 from Int32.le_iff_toInt_le.mpr (by rw [y40]; omega))] at hC9
    rw [wiY9 (by rw [z1, z40, z64]; exact h), if_neg (by decide)] at hZ9
    subst hC9 hZ9
    refine W9_sim (fun (x : Int32 × Int32 × Int32 × Int32 × Int32 × Int32) (y : Int32 × Int32 × (Nat → Int32) × (Nat → Int32) × Int32 × (Nat → Int32)) => ∃ k : Nat, (k : Int) ≤ a2.toInt ∧ x.1 = nI k ∧ y.1 = nI k ∧ y.2.1 = x.2.2.1 ∧ y.2.2.2.2.1 = x.2.1 ∧ SnR n x.2.2.2.1 x.2.2.2.2.1 x.2.2.2.2.2 y.2.2.2.2.2 46 ∧ AGR A y.2.2.2.2.2 ∧ ∀ j : Nat, 53 ≤ j → y.2.2.2.2.2 j = A j) (fun (C : Int32 × Int32 × Int32 × Int32 × Int32 × (Nat → Int32) × (Nat → Int32) × (Nat → Int32)) (Z : Int32 × Int32 × Int32 × (Nat → Int32) × (Nat → Int32) × (Nat → Int32) × (Nat → Int32)) => C.1 = Z.1 ∧ ST9 n C.2.1 C.2.2.1 C.2.2.2.1 C.2.2.2.2.1 C.2.2.2.2.2.1 C.2.2.2.2.2.2.1 C.2.2.2.2.2.2.2 A Z.2.2.2.1) (fun x => (a2.toInt - x.1.toInt).toNat) ?_ ⟨0, by omega, nI_0.symm, nI_0.symm, rfl, rfl, c.2.2.2.1, AGR.refl A, fun _ _ => rfl⟩
    rintro ⟨u, x1, d1, s1, w1, g1⟩ ⟨v, d2, rk1, Wi1, x2, A1⟩ ⟨k, hk, hu, hv, hd, hx, hS, hA, hB⟩
    have hu : u = nI k := hu
    have hv : v = nI k := hv
    have hd : d2 = d1 := hd
    have hx : x2 = x1 := hx
    subst hu hv hd hx
    have hS : SnR n s1 w1 g1 A1 46 := hS
    have hA : AGR A A1 := hA
    have hB : ∀ j : Nat, 53 ≤ j → A1 j = A j := hB
    by_cases l : (k : Int) < a2.toInt
    · left
      have c1 := CO9_g c hS hA
      have f1 := FE9_g c.2.2.1 f hA
      have g0 : ¬ a2 ≤ nI k := by rw [Int32.le_iff_toInt_le, nI_toInt (by omega)]; omega
      -- one deed, whatever it is
      have st9 : ∀ (v : Int32) (xx : Int32), (∀ T : Int32 × Int32 × Int32 × Int32, T = F_k_X9_tryDeed_0 (DF A fe) v.toInt64 s1 w1 g1 hn → B_k_X9_century_0_1 (DF A fe) a2 ps pv pn s w g pc hn (nI k) x2 d2 s1 w1 g1 = if T.1 = 0 then Sum.inl (nI k + 1, xx, d2 + 1, T.2.1, T.2.2.1, T.2.2.2) else Sum.inl (nI k + 1, xx, d2, T.2.1, T.2.2.1, T.2.2.2)) → F_k_X10_drawn_0 x2 = (v, xx) → (∃ x' y', L_k_X9_century_0_1 (DF A fe) a2 ps pv pn s w g pc hn (nI k, x2, d2, s1, w1, g1) = Sum.inl x' ∧ L_k_X10_century_0_1 a2 (F_k_X10_stores_0 Wz A) (nI k, d2, rk1, Wi1, x2, A1) = Sum.inl y' ∧ (∃ k : Nat, (k : Int) ≤ a2.toInt ∧ x'.1 = nI k ∧ y'.1 = nI k ∧ y'.2.1 = x'.2.2.1 ∧ y'.2.2.2.2.1 = x'.2.1 ∧ SnR n x'.2.2.2.1 x'.2.2.2.2.1 x'.2.2.2.2.2 y'.2.2.2.2.2 46 ∧ AGR A y'.2.2.2.2.2 ∧ ∀ j : Nat, 53 ≤ j → y'.2.2.2.2.2 j = A j) ∧ (a2.toInt - x'.1.toInt).toNat < (a2.toInt - (nI k).toInt).toNat) := by
        intro v xx hc hz
        have e1 := hc _ rfl
        have v32 : v.toInt64.toInt32 = v := i32 (by rw [v32_i (by rw [z64]; have := Int32.le_toInt v; have := Int32.toInt_lt v; omega), z64])
        have T := td_R (rk := rk1) (Wi := Wi1) c1 f1 v.toInt64
        rw [DF_agr hA, v32] at T
        generalize F_k_X9_tryDeed_0 (DF A fe) v.toInt64 s1 w1 g1 hn = TT at T e1
        obtain ⟨t1, t2, t3⟩ := T
        have mu : (a2.toInt - (nI (k + 1)).toInt).toNat < (a2.toInt - (nI k).toInt).toNat := by
          rw [nI_toInt (by omega), nI_toInt (by omega)]; omega
        have ez : L_k_X10_century_0_1 a2 (F_k_X10_stores_0 Wz A) (nI k, d2, rk1, Wi1, x2, A1) = if F_k_X10_whyNot_0 v.toInt64 A1 = 0 then Sum.inl (nI (k + 1), d2 + 1, (F_k_X10_does_0 v rk1 Wi1 A1).1, (F_k_X10_does_0 v rk1 Wi1 A1).2.1, xx, (F_k_X10_does_0 v rk1 Wi1 A1).2.2) else Sum.inl (nI (k + 1), d2, rk1, Wi1, xx, A1) := by
          show B_k_X10_century_0_1 a2 (F_k_X10_stores_0 Wz A) (nI k) d2 rk1 Wi1 x2 A1 = _
          unfold B_k_X10_century_0_1
          simp only [bnd]
          rw [if_neg g0, hz, nI_1]
        have ec : L_k_X9_century_0_1 (DF A fe) a2 ps pv pn s w g pc hn (nI k, x2, d2, s1, w1, g1) = B_k_X9_century_0_1 (DF A fe) a2 ps pv pn s w g pc hn (nI k) x2 d2 s1 w1 g1 := rfl
        rw [nI_1] at e1
        by_cases y : F_k_X10_whyNot_0 v.toInt64 A1 = 0
        · rw [if_pos y] at ez
          rw [if_pos (t1.trans y)] at e1
          obtain ⟨u1, u2, u3⟩ := t2 y
          exact ⟨_, _, ec.trans e1, ez, ⟨k + 1, by push_cast; omega, rfl, rfl, rfl, rfl, u1, AGR.trans hA u2, fun j hj => (u3 j hj).trans (hB j hj)⟩, mu⟩
        · rw [if_neg y] at ez
          rw [if_neg (fun q => y (t1.symm.trans q))] at e1
          have t3' := t3 y
          refine ⟨_, _, ec.trans e1, ez, ⟨k + 1, by push_cast; omega, rfl, rfl, rfl, rfl, ?_, hA, hB⟩, mu⟩
          show SnR n TT.2.1 TT.2.2.1 TT.2.2.2 A1 46
          rw [t3']; exact hS
      obtain ⟨w1', w2'⟩ := dw_R x2
      by_cases q : kd9 x2 ≤ 2
      · refine st9 0 (F_k_X9_drawnFrom_0 x2) (fun T hT => ?_) (w1' q)
        have z64' : (0 : Int32).toInt64 = 0 := by decide
        rw [z64'] at hT
        unfold B_k_X9_century_0_1
        simp only [bnd]
        rw [if_neg g0, if_pos (show ((F_k_X9_drawnFrom_0 x2).toUInt32 >>> ((16 : Int32).toUInt32 &&& Int32.toUInt32 31)).toInt32 - ((F_k_X9_drawnFrom_0 x2).toUInt32 >>> ((16 : Int32).toUInt32 &&& Int32.toUInt32 31)).toInt32 / 6 * 6 ≤ 2 from q), ← hT]
      · refine st9 _ _ (fun T hT => ?_) (w2' q)
        unfold B_k_X9_century_0_1
        simp only [bnd]
        rw [if_neg g0, if_neg (show ¬ ((F_k_X9_drawnFrom_0 x2).toUInt32 >>> ((16 : Int32).toUInt32 &&& Int32.toUInt32 31)).toInt32 - ((F_k_X9_drawnFrom_0 x2).toUInt32 >>> ((16 : Int32).toUInt32 &&& Int32.toUInt32 31)).toInt32 / 6 * 6 ≤ 2 from q)]
        have hT' : T = F_k_X9_tryDeed_0 (DF A fe) (F_k_X9_drawnDeed_0 (((F_k_X9_drawnFrom_0 x2).toUInt32 >>> ((16 : Int32).toUInt32 &&& Int32.toUInt32 31)).toInt32 - ((F_k_X9_drawnFrom_0 x2).toUInt32 >>> ((16 : Int32).toUInt32 &&& Int32.toUInt32 31)).toInt32 / 6 * 6) (((F_k_X9_drawnFrom_0 (F_k_X9_drawnFrom_0 x2)).toUInt32 >>> ((16 : Int32).toUInt32 &&& Int32.toUInt32 31)).toInt32)).toInt64 s1 w1 g1 hn := hT
        rw [← hT']
    · right
      have g0 : a2 ≤ nI k := by rw [Int32.le_iff_toInt_le, nI_toInt (by omega)]; omega
      by_cases y : d2 ≤ 0
      · refine ⟨(d2, s1, w1, g1, pc, ps, pv, pn), (d2, 0, x2, A1, rk1, Wi1, F_k_X10_stores_0 Wz A), ?_, ?_, rfl, hS, PaR_g p (fun j hj => hB j hj.1), hA⟩
        · show B_k_X9_century_0_1 (DF A fe) a2 ps pv pn s w g pc hn (nI k) x2 d2 s1 w1 g1 = _
          unfold B_k_X9_century_0_1
          simp only [bnd]
          rw [if_pos g0, if_pos y]
        · show B_k_X10_century_0_1 a2 (F_k_X10_stores_0 Wz A) (nI k) d2 rk1 Wi1 x2 A1 = _
          unfold B_k_X10_century_0_1
          simp only [bnd]
          rw [if_pos g0, if_pos y]
      · obtain ⟨k1, k2⟩ := kp_R (Wz := Wz) p c.2.2.2.1 hS hB hA
        refine ⟨(d2, s1, w1, g1, (F_k_X5_keep_0 s w g pc ps pv pn).1, (F_k_X5_keep_0 s w g pc ps pv pn).2.1, (F_k_X5_keep_0 s w g pc ps pv pn).2.2.1, (F_k_X5_keep_0 s w g pc ps pv pn).2.2.2), (d2, 0, x2, F_k_X10_notes_0 (F_k_X10_stores_0 Wz A) A1, rk1, Wi1, F_k_X10_stores_0 Wz A), ?_, ?_, rfl, k1⟩
        · show B_k_X9_century_0_1 (DF A fe) a2 ps pv pn s w g pc hn (nI k) x2 d2 s1 w1 g1 = _
          unfold B_k_X9_century_0_1
          simp only [bnd]
          rw [if_pos g0, if_neg y]
        · show B_k_X10_century_0_1 a2 (F_k_X10_stores_0 Wz A) (nI k) d2 rk1 Wi1 x2 A1 = _
          unfold B_k_X10_century_0_1
          simp only [bnd]
          rw [if_pos g0, if_neg y]
  · rw [wiN9 (by rw [z1, z40, z64]; exact h), if_pos rfl] at hZ9
    have e : C = (-3, s, w, g, pc, ps, pv, pn) := by
      by_cases q : a2 < 1
      · rw [if_pos q] at hC9; exact hC9
      · have q' : ¬ a2.toInt < 1 := fun z => q (Int32.lt_iff_toInt_lt.mpr (by rw [y1]; exact z))
        rw [if_neg q, if_neg (show ¬ a2 ≤ 40 from fun z => by rw [Int32.le_iff_toInt_le, y40] at z; omega)] at hC9
        exact hC9
    subst e hZ9
    exact ⟨rfl, ST9_r c.2.2.2.1 p⟩
-- what a night would bring
theorem nt_R {n : Nat} {hn s w g : Int32} {A fe rk Wi : Nat → Int32} (c : CO9 n hn s w g A) (f : FE9 n fe A) (fog : Int32) : ∃ d b : Nat → Int, DG n d b ∧ SC d b (bhS (DF A fe) s w fog hn.toNatClampNeg) ∧ SZ d b (F_k_X10_nightTo_0 (F_k_X10_standNow_0 A) fog (A 51) rk Wi A).1 := by
  obtain ⟨e1, e2, e3, ⟨d, b, h1, h2, h3, h4, h5, h6, h7⟩, e5⟩ := c
  have hnN : hn.toNatClampNeg = n := by rw [e1]; exact toNat_is e2
  have h5' : A 51 = w := h5
  rw [hnN, bh_F h1 h2 h6 f n (Nat.le_refl _), h5']
  exact ⟨_, _, dN_DG h1 h2, bh_n h1 h2 h6, F_nt h1 h2 (F_sn h1 e2 h3 h4) e2 e5⟩
theorem bit_t : ∀ m : Nat, m < 16 → ∀ k : Nat, k < 4 → (nI m >>> (nI k &&& 31)) &&& 1 = nI (m / 2 ^ k % 2) := by decide +kernel
theorem bit_v {n : Nat} {d b : Nat → Int} {s x : Int32} (hd : DG n d b) (hs : SC d b s) (hx : x.toInt = b 0 + 2 * b 1 + 4 * b 2 + 8 * b 3) {k : Nat} (hk : k < 4) : (x >>> (nI k &&& 31)) &&& 1 = tkF s k := by
  have r0 := DG_r hd 0
  have r1 := DG_r hd 1
  have r2 := DG_r hd 2
  have r3 := DG_r hd 3
  have v := (SC_v hd hs hk).2.2
  have cx := clampNat (x := x) (by omega)
  have ex : nI x.toNatClampNeg = x := nIc (by omega)
  have t := bit_t x.toNatClampNeg (by omega) k hk
  rw [ex] at t
  rw [t]
  refine i32 ?_
  rw [v, nI_toInt (by omega)]
  have c : k = 0 ∨ k = 1 ∨ k = 2 ∨ k = 3 := by omega
  rcases c with q | q | q | q <;> (subst q; simp only [Nat.reducePow]; omega)
theorem hl_k {n : Nat} {hn s w g a : Int32} {A : Nat → Int32} (c : CO9 n hn s w g A) (h : 0 ≤ a.toInt ∧ a.toInt < hn.toInt) : ∃ k : Nat, k < n ∧ a = nI k := by
  obtain ⟨e1, e2, e3, _⟩ := c
  rw [e1, e2] at h
  exact ⟨a.toInt.toNat, by omega, i32 (by rw [nI_toInt (by omega)]; omega)⟩
theorem R_takes {n : Nat} {hn s w g a1 a2 : Int32} {A fe rk Wi : Nat → Int32} (c : CO9 n hn s w g A) (f : FE9 n fe A) : F_k_X9_takes_0 (DF A fe) a1 a2 s w hn = (F_k_X10_takes_0 a1 a2 A rk Wi).1 := by
  have z := hZ (v := a2.toInt64) (A := A) (by have := c.2.1; omega)
  rw [z64, ← c.1] at z
  simp only [F_k_X9_takes_0, F_k_X10_takes_0, bnd, nz51]
  rcases hC a2 hn with ⟨h1, h2⟩ | ⟨h1, h2, h3⟩ | ⟨h1, h2, h3⟩
  · rw [if_neg (by omega)] at z
    rw [h1, z, if_pos rfl, if_pos rfl]
  · rw [if_neg (by omega)] at z
    rw [h1, z, if_neg (by decide), if_pos rfl, if_pos rfl]
  · rw [if_pos ⟨h2, h3⟩] at z
    rw [h1, z, if_neg (show ¬ (2 : Int32) = 0 by decide), if_neg (show ¬ (2 : Int32) = 1 by decide), if_neg (show ¬ (1 : Int32) = 0 by decide), nN c]
    by_cases y : F_k_X10_isNight_0 a1.toInt64 A = 0
    · rw [if_pos y, if_pos y]
    · rw [if_neg y, if_neg y]
      obtain ⟨d, b, g1, g2, g3⟩ := nt_R (rk := rk) (Wi := Wi) c f a1
      obtain ⟨k, hk, ek⟩ := hl_k c ⟨h2, h3⟩
      have k4 : k < 4 := by have := c.2.2.1; omega
      rw [ek, tkI, nI_clamp (by omega)]
      exact (bit_v g1 g2 (SZ_tk g1 g3) k4).symm
theorem R_by {n : Nat} {hn s w g a1 a2 : Int32} {A fe rk Wi : Nat → Int32} (c : CO9 n hn s w g A) (f : FE9 n fe A) : F_k_X9_by_0 (DF A fe) a1 a2 s w hn = (F_k_X10_by_0 a1 a2 A rk Wi).1 := by
  have z := hZ (v := a2.toInt64) (A := A) (by have := c.2.1; omega)
  rw [z64, ← c.1] at z
  simp only [F_k_X9_by_0, F_k_X10_by_0, bnd, nz51]
  rcases hC a2 hn with ⟨h1, h2⟩ | ⟨h1, h2, h3⟩ | ⟨h1, h2, h3⟩
  · rw [if_neg (by omega)] at z
    rw [h1, z, if_pos rfl, if_pos rfl]
  · rw [if_neg (by omega)] at z
    rw [h1, z, if_neg (by decide), if_pos rfl, if_pos rfl]
  · rw [if_pos ⟨h2, h3⟩] at z
    rw [h1, z, if_neg (show ¬ (2 : Int32) = 0 by decide), if_neg (show ¬ (2 : Int32) = 1 by decide), if_neg (show ¬ (1 : Int32) = 0 by decide), nN c]
    by_cases y : F_k_X10_isNight_0 a1.toInt64 A = 0
    · rw [if_pos y, if_pos y]
    · rw [if_neg y, if_neg y]
      obtain ⟨d, b, g1, g2, g3⟩ := nt_R (rk := rk) (Wi := Wi) c f a1
      obtain ⟨k, hk, ek⟩ := hl_k c ⟨h2, h3⟩
      have k4 : k < 4 := by have := c.2.2.1; omega
      rw [ek, stI, nI_clamp (by omega)]
      exact i32 ((SC_v g1 g2 k4).2.1.trans (SZ_st g1 g3 (nI_toInt (by omega)) k4).symm)
theorem R_hill {n : Nat} {hn s w g a1 a2 : Int32} {A fe ga : Nat → Int32} (c : CO9 n hn s w g A) (f : FE9 n fe A) (fg : ∀ k : Nat, k < n → ga k = A (14 + k)) : F_k_X9_hill_0 a1 a2 s hn fe ga = (F_k_X10_hill_0 a1 a2 A).1 := by
  have z := hZ (v := a1.toInt64) (A := A) (by have := c.2.1; omega)
  rw [z64, ← c.1] at z
  simp only [F_k_X9_hill_0, F_k_X10_hill_0, bnd, nz50]
  rcases hC a1 hn with ⟨h1, h2⟩ | ⟨h1, h2, h3⟩ | ⟨h1, h2, h3⟩
  · rw [if_neg (by omega)] at z
    rw [h1, z, if_pos rfl, if_pos rfl]
  · rw [if_neg (by omega)] at z
    rw [h1, z, if_neg (by decide), if_pos rfl, if_pos rfl]
  · rw [if_pos ⟨h2, h3⟩] at z
    rw [h1, z, if_neg (show ¬ (2 : Int32) = 0 by decide), if_neg (show ¬ (2 : Int32) = 1 by decide), if_neg (show ¬ (1 : Int32) = 0 by decide)]
    obtain ⟨k, hk, ek⟩ := hl_k c ⟨h2, h3⟩
    have k4 : k < 4 := by have := c.2.2.1; omega
    have nk : (nI k).toNatClampNeg = k := nI_clamp (by omega)
    rw [ek, ixp 46 46 (by decide) (by decide) (nI_toInt (by omega)) (by omega), ixp 10 10 (by decide) (by decide) (nI_toInt (by omega)) (by omega), ixp 14 14 (by decide) (by decide) (nI_toInt (by omega)) (by omega), stI, tkI, nk, st_A c.2.2.2.1 hk, f k hk, fg k hk]
    by_cases y0 : a2 = 0
    · rw [if_pos y0, if_pos y0]
    · rw [if_neg y0, if_neg y0]
      by_cases y1 : a2 = 1
      · rw [if_pos y1, if_pos y1]
      · rw [if_neg y1, if_neg y1]
        by_cases y2 : a2 = 2
        · rw [if_pos y2, if_pos y2]
          obtain ⟨d, b, g1, g2, g3, g4, _⟩ := c.2.2.2.1
          exact (bit_v g1 g2 g4 k4).symm
        · rw [if_neg y2, if_neg y2]
          by_cases y3 : a2 = 3
          · rw [if_pos y3, if_pos y3]
          · rw [if_neg y3, if_neg y3]
theorem R_village {a vn : Int32} {A ne : Nat → Int32} (e : vn = A 2) (i : iv 0 4 (A 2)) (f : ∀ j : Nat, (j : Int) < (A 2).toInt → ne j = A (18 + j)) : F_k_X9_village_0 a vn ne = (F_k_X10_village_0 a A).1 := by
  have z0 : (0 : Int64).toInt = 0 := by decide
  have y0 : (0 : Int32).toInt = 0 := by decide
  have i1 := i.1
  have i2 := i.2
  simp only [F_k_X9_village_0, F_k_X10_village_0, bnd, nz2]
  by_cases h : 0 ≤ a.toInt ∧ a.toInt < (A 2).toInt
  · rw [if_neg (show ¬ a < 0 from fun q => by rw [Int32.lt_iff_toInt_lt, y0] at q; omega), if_pos (show a < vn from Int32.lt_iff_toInt_lt.mpr (by rw [e]; exact h.2)), wiY9 (by rw [z0, z64, sb1 i1]; omega), if_neg (by decide)]
    have ca := clampNat h.1
    rw [ixp 18 18 (by decide) (by decide) (k := a.toNatClampNeg) (by omega) (by omega)]
    exact f _ (by omega)
  · rw [wiN9 (by rw [z0, z64, sb1 i1]; omega), if_pos rfl]
    by_cases q : a < 0
    · rw [if_pos q]
    · have q' : ¬ a.toInt < 0 := fun z => q (Int32.lt_iff_toInt_lt.mpr (by rw [y0]; exact z))
      rw [if_neg q, if_neg (fun z => by rw [Int32.lt_iff_toInt_lt, e] at z; omega)]
