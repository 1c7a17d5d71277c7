-- trays
def TrR (t : Nat) (c so : Int32) (f : Nat → Int64) (z37 z38 : Nat → Int32) (z39 : Nat → Int64) : Prop := (c = -1 ∧ z37 t = -1) ∨ (∃ m : Nat, m ≤ 40 ∧ c = nI m ∧ z38 t = nI m ∧ z37 t = so ∧ iv 0 3 so ∧ ∀ i : Nat, i < m → f i = z39 (40 * t + i))
theorem isT (a : Int32) : (F_k_X9_isTray_0 a = 0 ∧ a.toInt < 0) ∨ (F_k_X9_isTray_0 a = 1 ∧ 4 ≤ a.toInt) ∨ (F_k_X9_isTray_0 a = 2 ∧ 0 ≤ a.toInt ∧ a.toInt < 4) := by
  have z0 : (0 : Int32).toInt = 0 := by decide
  have z4 : (4 : Int32).toInt = 4 := by decide
  unfold F_k_X9_isTray_0
  by_cases p : a < 0
  · left; rw [if_pos p]
    rw [Int32.lt_iff_toInt_lt, z0] at p; exact ⟨rfl, p⟩
  · right
    rw [if_neg p]
    rw [Int32.lt_iff_toInt_lt, z0] at p
    by_cases q : 4 ≤ a
    · left; rw [if_pos q]
      rw [Int32.le_iff_toInt_le, z4] at q; exact ⟨rfl, q⟩
    · right; rw [if_neg q]
      rw [Int32.le_iff_toInt_le, z4] at q; exact ⟨rfl, by omega, by omega⟩
theorem msF {c : Int32} : (0 ≤ c.toInt → F_k_X7_isMissing_0 c = 0) ∧ (c.toInt < 0 → F_k_X7_isMissing_0 c = 1) := by
  have z0 : (0 : Int32).toInt = 0 := by decide
  unfold F_k_X7_isMissing_0
  refine ⟨fun h => ?_, fun h => ?_⟩
  · rw [if_pos (Int32.le_iff_toInt_le.mpr (by rw [z0]; exact h))]
  · rw [if_neg (fun q => by rw [Int32.le_iff_toInt_le, z0] at q; omega)]
theorem ms_n (m : Nat) (h : m ≤ 40) : F_k_X7_isMissing_0 (nI m) = 0 := msF.1 (by rw [nI_toInt (by omega)]; omega)
theorem ms_m : F_k_X7_isMissing_0 (-1) = 1 := msF.2 (by decide)
theorem noT {a : Int32} {z37 : Nat → Int32} : F_k_X10_noTray_0 a z37 = if 0 ≤ a.toInt ∧ a.toInt ≤ 3 then (if z37 a.toNatClampNeg = -1 then -6 else 0) else -2 := by
  have z0 : (0 : Int64).toInt = 0 := by decide
  have z3 : (3 : Int64).toInt = 3 := by decide
  simp only [F_k_X10_noTray_0, bnd]
  by_cases h : 0 ≤ a.toInt ∧ a.toInt ≤ 3
  · rw [wiY9 (by rw [z0, z3, z64]; exact h), if_neg (by decide), if_pos h]
  · rw [wiN9 (by rw [z0, z3, z64]; exact h), if_pos rfl, if_neg h]
theorem ta_1 : F_k_X9_tryAll_1 = F_k_X9_tryAll_0 := rfl
theorem ta_2 : F_k_X9_tryAll_2 = F_k_X9_tryAll_0 := rfl
theorem ta_3 : F_k_X9_tryAll_3 = F_k_X9_tryAll_0 := rfl
theorem ms_1 : F_k_X7_isMissing_1 = F_k_X7_isMissing_0 := rfl
theorem ms_2 : F_k_X7_isMissing_2 = F_k_X7_isMissing_0 := rfl
theorem ms_3 : F_k_X7_isMissing_3 = F_k_X7_isMissing_0 := rfl
theorem ix40 {t k : Nat} (ht : t < 4) (hk : k ≤ 40) : ((40 : Int32) * nI t + nI k).toNatClampNeg = 40 * t + k := by
  have q : ((40 : Int32) * nI t).toInt = 40 * (t : Int) := by rw [Int32.toInt_mul, nI_toInt (by omega), (by decide : (40 : Int32).toInt = 40), iv_bm (by omega) (by omega)]
  have e : ((40 : Int32) * nI t + nI k).toInt = ((40 * t + k : Nat) : Int) := by rw [Int32.toInt_add, q, nI_toInt (by omega), iv_bm (by omega) (by omega)]; push_cast; rfl
  exact toNat_is e
/-- what a tray tells, on both sides -/
def TA9 (n : Nat) (cnt : Nat) (num : Nat → Int64) (D : Nat → Int32) (hn : Int32) (A : Nat → Int32) (T : Int32 × Int32 × Int32 × Int32) (Z : Int32 × (Nat → Int32) × (Nat → Int32) × Int32 × (Nat → Int32)) : Prop := T.1 = Z.1 ∧ SnR n T.2.1 T.2.2.1 T.2.2.2 Z.2.2.2.2 46 ∧ AGR A Z.2.2.2.2 ∧ (∀ j : Nat, 53 ≤ j → Z.2.2.2.2 j = A j) ∧ ((Z.2.2.2.1 = 0 ∧ T.1 = nI cnt) ∨ (¬ Z.2.2.2.1 = 0 ∧ ∃ k : Nat, k < cnt ∧ T.1 = nI k ∧ F_k_X9_tryDeed_0 D (num k) T.2.1 T.2.2.1 T.2.2.2 hn = (Z.2.2.2.1, T.2)))
theorem ta_R {n cnt t : Nat} {hn s w g : Int32} {A fe rk Wi z38 : Nat → Int32} {num z39 : Nat → Int64} (c : CO9 n hn s w g A) (f : FE9 n fe A) (ht : t < 4) (hm : cnt ≤ 40) (h38 : z38 t = nI cnt) (hnum : ∀ i : Nat, i < cnt → num i = z39 (40 * t + i)) : TA9 n cnt num (DF A fe) hn A (F_k_X9_tryAll_0 (DF A fe) s w g hn num (nI cnt)) (F_k_X10_tells_0 (nI t) rk Wi z38 z39 A) := by
  have nt : (nI t).toNatClampNeg = t := nI_clamp (by omega)
  unfold F_k_X9_tryAll_0 F_k_X10_tells_0
  refine W9_sim (fun (x : Int32 × Int32 × Int32 × Int32) (y : Int32 × (Nat → Int32) × (Nat → Int32) × Int32 × (Nat → Int32)) => ∃ k : Nat, k ≤ cnt ∧ x.1 = nI k ∧ y.1 = nI k ∧ y.2.2.2.1 = 0 ∧ SnR n x.2.1 x.2.2.1 x.2.2.2 y.2.2.2.2 46 ∧ AGR A y.2.2.2.2 ∧ ∀ j : Nat, 53 ≤ j → y.2.2.2.2 j = A j) (TA9 n cnt num (DF A fe) hn A) (fun x => ((cnt : Int) - x.1.toInt).toNat) ?_ ⟨0, by omega, nI_0.symm, nI_0.symm, rfl, c.2.2.2.1, AGR.refl A, fun _ _ => rfl⟩
  rintro ⟨u, s1, w1, g1⟩ ⟨v, rk1, Wi1, y1, A1⟩ ⟨k, hk, hu, hv, hy, hS, hA, hB⟩
  have hu : u = nI k := hu
  have hv : v = nI k := hv
  have hy : y1 = 0 := hy
  subst hu hv hy
  have hS : SnR n s1 w1 g1 A1 46 := hS
  have hA : AGR A A1 := hA
  have hB : ∀ j : Nat, 53 ≤ j → A1 j = A j := hB
  have nk : (nI k).toNatClampNeg = k := nI_clamp (by omega)
  by_cases l : k < cnt
  · have c1 := CO9_g c hS hA
    have f1 := FE9_g c.2.2.1 f hA
    have T := td_R (rk := rk1) (Wi := Wi1) c1 f1 (num k)
    rw [DF_agr hA] at T
    obtain ⟨t1, t2, t3⟩ := T
    have g0 : ¬ nI cnt ≤ nI k := by rw [Int32.le_iff_toInt_le, nI_toInt (by omega), nI_toInt (by omega)]; omega
    have ej : z39 ((40 : Int32) * nI t + nI k).toNatClampNeg = num k := by rw [ix40 ht (by omega), hnum k l]
    by_cases y : F_k_X10_whyNot_0 (num k) A1 = 0
    · left
      obtain ⟨u1, u2, u3⟩ := t2 y
      refine ⟨(nI (k + 1), (F_k_X9_tryDeed_0 (DF A fe) (num k) s1 w1 g1 hn).2), (nI (k + 1), (F_k_X10_does_0 (num k).toInt32 rk1 Wi1 A1).1, (F_k_X10_does_0 (num k).toInt32 rk1 Wi1 A1).2.1, 0, (F_k_X10_does_0 (num k).toInt32 rk1 Wi1 A1).2.2), ?_, ?_, ⟨k + 1, by omega, rfl, rfl, rfl, u1, AGR.trans hA u2, fun j hj => (u3 j hj).trans (hB j hj)⟩, ?_⟩
      · show B_k_X9_tryAll_0_1 (DF A fe) num hn (nI cnt) (nI k) s1 w1 g1 = _
        unfold B_k_X9_tryAll_0_1
        simp only [bnd]
        rw [if_neg g0, nk, if_pos (t1.trans y), nI_1]
      · show B_k_X10_tells_0_1 (nI t) z38 z39 (nI k) rk1 Wi1 0 A1 = _
        unfold B_k_X10_tells_0_1
        simp only [bnd]
        rw [nt, h38, if_neg g0, ej, if_pos y, y, nI_1]
      · show ((cnt : Int) - (nI (k + 1)).toInt).toNat < ((cnt : Int) - (nI k).toInt).toNat
        rw [nI_toInt (by omega), nI_toInt (by omega)]; omega
    · right
      have t3' := t3 y
      have n0 : ¬ (F_k_X9_tryDeed_0 (DF A fe) (num k) s1 w1 g1 hn).1 = 0 := fun q => y (t1.symm.trans q)
      refine ⟨(nI k, s1, w1, g1), (nI k, rk1, Wi1, F_k_X10_whyNot_0 (num k) A1, A1), ?_, ?_, rfl, hS, hA, hB, Or.inr ⟨y, k, l, rfl, ?_⟩⟩
      · show B_k_X9_tryAll_0_1 (DF A fe) num hn (nI cnt) (nI k) s1 w1 g1 = _
        unfold B_k_X9_tryAll_0_1
        simp only [bnd]
        rw [if_neg g0, nk, if_neg n0, t3']
      · show B_k_X10_tells_0_1 (nI t) z38 z39 (nI k) rk1 Wi1 0 A1 = _
        unfold B_k_X10_tells_0_1
        simp only [bnd]
        rw [nt, h38, if_neg g0, ej, if_neg y]
      · exact Prod.ext t1 t3'
  · right
    have e : k = cnt := by omega
    subst e
    refine ⟨(nI k, s1, w1, g1), (nI k, rk1, Wi1, 0, A1), ?_, ?_, rfl, hS, hA, hB, Or.inl ⟨rfl, rfl⟩⟩
    · show B_k_X9_tryAll_0_1 (DF A fe) num hn (nI k) (nI k) s1 w1 g1 = _
      unfold B_k_X9_tryAll_0_1
      simp only [bnd]
      rw [if_pos (Int32.le_refl _)]
    · show B_k_X10_tells_0_1 (nI t) z38 z39 (nI k) rk1 Wi1 0 A1 = _
      unfold B_k_X10_tells_0_1
      simp only [bnd]
      rw [nt, h38, if_pos (Int32.le_refl _)]
theorem tkN_A {n : Nat} {hn s w g : Int32} {A : Nat → Int32} (c : CO9 n hn s w g A) : F_k_X9_tookBits_0 s = F_k_X10_tookIn_0 (F_k_X10_standNow_0 A) := by
  obtain ⟨e1, e2, e3, ⟨d, b, h1, h2, h3, h4, _⟩, e5⟩ := c
  rw [tb_F]
  exact i32 ((tb_v h1 h2).trans (SZ_tk h1 (F_sn h1 e2 h3 h4)).symm)
/-- a tray judged, the tray being found -/
noncomputable def jdF (D : Nat → Int32) (a2 s w g hn c : Int32) (f : Nat → Int64) : Int32 := if (F_k_X9_tryAll_0 D s w g hn f c).1 = c then (if a2 = 0 then -1 else if a2 = 1 then 0 else if a2 = 2 then F_k_X9_stacksTogether_0 (F_k_X9_tryAll_0 D s w g hn f c).2.1 else F_k_X9_tookBits_0 (F_k_X9_tryAll_0 D s w g hn f c).2.1) else (if a2 = 0 then (F_k_X9_tryAll_0 D s w g hn f c).1 else if a2 = 1 then (F_k_X9_tryDeed_0 D (f (F_k_X9_tryAll_0 D s w g hn f c).1.toNatClampNeg) (F_k_X9_tryAll_0 D s w g hn f c).2.1 (F_k_X9_tryAll_0 D s w g hn f c).2.2.1 (F_k_X9_tryAll_0 D s w g hn f c).2.2.2 hn).1 else if a2 = 2 then F_k_X9_stacksTogether_0 (F_k_X9_tryDeed_0 D (f (F_k_X9_tryAll_0 D s w g hn f c).1.toNatClampNeg) (F_k_X9_tryAll_0 D s w g hn f c).2.1 (F_k_X9_tryAll_0 D s w g hn f c).2.2.1 (F_k_X9_tryAll_0 D s w g hn f c).2.2.2 hn).2.1 else F_k_X9_tookBits_0 (F_k_X9_tryDeed_0 D (f (F_k_X9_tryAll_0 D s w g hn f c).1.toNatClampNeg) (F_k_X9_tryAll_0 D s w g hn f c).2.1 (F_k_X9_tryAll_0 D s w g hn f c).2.2.1 (F_k_X9_tryAll_0 D s w g hn f c).2.2.2 hn).2.1)
def sel4 {α : Type} (t : Nat) (a b c d : α) : α := if t = 0 then a else if t = 1 then b else if t = 2 then c else d
theorem jd_c {D : Nat → Int32} {a2 s w g hn c0 c1 c2 c3 : Int32} {f0 f1 f2 f3 : Nat → Int64} {t : Nat} (ht : t < 4) (h2 : 0 ≤ a2.toInt ∧ a2.toInt ≤ 3) : F_k_X9_judge_0 D (nI t) a2 s w g hn c0 f0 c1 f1 c2 f2 c3 f3 = if F_k_X7_isMissing_0 (sel4 t c0 c1 c2 c3) = 0 then (jdF D a2 s w g hn (sel4 t c0 c1 c2 c3) (sel4 t f0 f1 f2 f3), s, w, g) else (-6, s, w, g) := by
  have n0 : ¬ a2 < 0 := fun q => by rw [Int32.lt_iff_toInt_lt, (by decide : (0 : Int32).toInt = 0)] at q; omega
  have n3 : a2 ≤ 3 := Int32.le_iff_toInt_le.mpr (by rw [(by decide : (3 : Int32).toInt = 3)]; omega)
  have c : t = 0 ∨ t = 1 ∨ t = 2 ∨ t = 3 := by omega
  have fin : ∀ (cc : Int32) (ff : Nat → Int64), (if F_k_X7_isMissing_0 cc = 0 then (if (F_k_X9_tryAll_0 D s w g hn ff cc).1 = cc then (if a2 = 0 then ((-1 : Int32), s, w, g) else if a2 = 1 then (0, s, w, g) else if a2 = 2 then (F_k_X9_stacksTogether_0 (F_k_X9_tryAll_0 D s w g hn ff cc).2.1, s, w, g) else (F_k_X9_tookBits_0 (F_k_X9_tryAll_0 D s w g hn ff cc).2.1, s, w, g)) else (if a2 = 0 then ((F_k_X9_tryAll_0 D s w g hn ff cc).1, s, w, g) else if a2 = 1 then ((F_k_X9_tryDeed_0 D (ff (F_k_X9_tryAll_0 D s w g hn ff cc).1.toNatClampNeg) (F_k_X9_tryAll_0 D s w g hn ff cc).2.1 (F_k_X9_tryAll_0 D s w g hn ff cc).2.2.1 (F_k_X9_tryAll_0 D s w g hn ff cc).2.2.2 hn).1, s, w, g) else if a2 = 2 then (F_k_X9_stacksTogether_0 (F_k_X9_tryDeed_0 D (ff (F_k_X9_tryAll_0 D s w g hn ff cc).1.toNatClampNeg) (F_k_X9_tryAll_0 D s w g hn ff cc).2.1 (F_k_X9_tryAll_0 D s w g hn ff cc).2.2.1 (F_k_X9_tryAll_0 D s w g hn ff cc).2.2.2 hn).2.1, s, w, g) else (F_k_X9_tookBits_0 (F_k_X9_tryDeed_0 D (ff (F_k_X9_tryAll_0 D s w g hn ff cc).1.toNatClampNeg) (F_k_X9_tryAll_0 D s w g hn ff cc).2.1 (F_k_X9_tryAll_0 D s w g hn ff cc).2.2.1 (F_k_X9_tryAll_0 D s w g hn ff cc).2.2.2 hn).2.1, s, w, g))) else ((-6 : Int32), s, w, g)) = if F_k_X7_isMissing_0 cc = 0 then (jdF D a2 s w g hn cc ff, s, w, g) else (-6, s, w, g) := fun cc ff => by
    by_cases m : F_k_X7_isMissing_0 cc = 0
    · rw [if_pos m, if_pos m]
      unfold jdF
      split
      · split
        · rfl
        · split
          · rfl
          · split <;> rfl
      · split
        · rfl
        · split
          · rfl
          · split <;> rfl
    · rw [if_neg m, if_neg m]
  simp only [F_k_X9_judge_0, F_k_X9_bringBack_0, bnd, ta_1, ta_2, ta_3, ms_1, ms_2, ms_3]
  rw [if_neg n0, if_pos n3]
  rcases c with q | q | q | q
  · subst q
    have e : F_k_X9_isTray_0 (nI 0) = 2 := by decide
    rw [e, if_neg (by decide), if_neg (by decide), if_pos (by decide)]
    exact fin c0 f0
  · subst q
    have e : F_k_X9_isTray_0 (nI 1) = 2 := by decide
    rw [e, if_neg (by decide), if_neg (by decide), if_neg (by decide), if_pos (by decide)]
    exact fin c1 f1
  · subst q
    have e : F_k_X9_isTray_0 (nI 2) = 2 := by decide
    rw [e, if_neg (by decide), if_neg (by decide), if_neg (by decide), if_neg (by decide), if_pos (by decide)]
    exact fin c2 f2
  · subst q
    have e : F_k_X9_isTray_0 (nI 3) = 2 := by decide
    rw [e, if_neg (by decide), if_neg (by decide), if_neg (by decide), if_neg (by decide), if_neg (by decide)]
    exact fin c3 f3
theorem jd_n {D : Nat → Int32} {a1 a2 s w g hn c0 c1 c2 c3 : Int32} {f0 f1 f2 f3 : Nat → Int64} (h : ¬ (0 ≤ a2.toInt ∧ a2.toInt ≤ 3) ∨ ¬ (0 ≤ a1.toInt ∧ a1.toInt < 4)) : F_k_X9_judge_0 D a1 a2 s w g hn c0 f0 c1 f1 c2 f2 c3 f3 = (-2, s, w, g) := by
  have z0 : (0 : Int32).toInt = 0 := by decide
  have z3 : (3 : Int32).toInt = 3 := by decide
  simp only [F_k_X9_judge_0]
  rcases isT a1 with ⟨h1, h2⟩ | ⟨h1, h2⟩ | ⟨h1, h2⟩
  · rw [h1, if_pos rfl]
  · rw [h1, if_neg (by decide), if_pos rfl]
  · rw [h1, if_neg (by decide), if_neg (by decide)]
    by_cases q : a2 < 0
    · rw [if_pos q]
    · have q' : ¬ a2.toInt < 0 := fun z => q (Int32.lt_iff_toInt_lt.mpr (by rw [z0]; exact z))
      rw [if_neg q, if_neg (fun z => by rw [Int32.le_iff_toInt_le, z3] at z; omega)]
/-- all four trays -/
def Tr4 (c0 s0 : Int32) (f0 : Nat → Int64) (c1 s1 : Int32) (f1 : Nat → Int64) (c2 s2 : Int32) (f2 : Nat → Int64) (c3 s3 : Int32) (f3 : Nat → Int64) (z37 z38 : Nat → Int32) (z39 : Nat → Int64) : Prop := TrR 0 c0 s0 f0 z37 z38 z39 ∧ TrR 1 c1 s1 f1 z37 z38 z39 ∧ TrR 2 c2 s2 f2 z37 z38 z39 ∧ TrR 3 c3 s3 f3 z37 z38 z39
theorem Tr4_t {c0 s0 c1 s1 c2 s2 c3 s3 : Int32} {f0 f1 f2 f3 : Nat → Int64} {z37 z38 : Nat → Int32} {z39 : Nat → Int64} (h : Tr4 c0 s0 f0 c1 s1 f1 c2 s2 f2 c3 s3 f3 z37 z38 z39) {t : Nat} (ht : t < 4) : TrR t (sel4 t c0 c1 c2 c3) (sel4 t s0 s1 s2 s3) (sel4 t f0 f1 f2 f3) z37 z38 z39 := by
  have c : t = 0 ∨ t = 1 ∨ t = 2 ∨ t = 3 := by omega
  rcases c with q | q | q | q
  · subst q; exact h.1
  · subst q; exact h.2.1
  · subst q; exact h.2.2.1
  · subst q; exact h.2.2.2
theorem R_judge {n : Nat} {hn s w g a1 a2 y18 c0 s0 c1 s1 c2 s2 c3 s3 : Int32} {A fe rk Wi Wz z37 z38 : Nat → Int32} {f0 f1 f2 f3 z39 : Nat → Int64} (c : CO9 n hn s w g A) (f : FE9 n fe A) (tr : Tr4 c0 s0 f0 c1 s1 f1 c2 s2 f2 c3 s3 f3 z37 z38 z39) {C : Int32 × Int32 × Int32 × Int32} (hC9 : C = F_k_X9_judge_0 (DF A fe) a1 a2 s w g hn c0 f0 c1 f1 c2 f2 c3 f3) {Z : Int32 × Int32 × Int32 × (Nat → Int32) × (Nat → Int32) × (Nat → Int32) × (Nat → Int32)} (hZ9 : Z = F_k_X10_judge_0 a1 a2 y18 A rk Wi Wz z37 z38 z39) : C.1 = Z.1 ∧ C.2 = (s, w, g) ∧ ∀ j : Nat, Z.2.2.2.1 j = A j := by
  have z0 : (0 : Int64).toInt = 0 := by decide
  have z3 : (3 : Int64).toInt = 3 := by decide
  simp only [F_k_X10_judge_0, bnd, noT] at hZ9
  by_cases h2 : 0 ≤ a2.toInt ∧ a2.toInt ≤ 3
  · rw [wiY9 (by rw [z0, z3, z64]; exact h2), if_neg (by decide)] at hZ9
    by_cases h1 : 0 ≤ a1.toInt ∧ a1.toInt ≤ 3
    · obtain ⟨t, ht⟩ : ∃ t : Nat, a1.toInt = (t : Int) := ⟨a1.toInt.toNat, by omega⟩
      have ea : a1 = nI t := i32 (by rw [ht, nI_toInt (by omega)])
      have t4 : t < 4 := by omega
      rw [if_pos h1] at hZ9
      subst ea
      rw [nI_clamp (by omega)] at hZ9
      rw [jd_c t4 h2] at hC9
      rcases Tr4_t tr t4 with ⟨e1, e2⟩ | ⟨m, m40, e1, e2, e3, e4, e5⟩
      · rw [e1, ms_m, if_neg (by decide)] at hC9
        rw [e2, if_pos rfl, if_neg (by decide)] at hZ9
        subst hC9 hZ9
        exact ⟨rfl, rfl, fun _ => rfl⟩
      · have n37 : ¬ z37 t = -1 := fun q => by
          rw [e3] at q; rw [q] at e4; exact absurd e4.1 (by decide)
        rw [e1, ms_n m m40, if_pos rfl] at hC9
        rw [if_neg n37, if_pos rfl] at hZ9
        have R := ta_R (rk := rk) (Wi := Wi) c f t4 m40 e2 e5
        generalize F_k_X10_tells_0 (nI t) rk Wi z38 z39 A = ZZ at R hZ9
        unfold jdF at hC9
        generalize F_k_X9_tryAll_0 (DF A fe) s w g hn (sel4 t f0 f1 f2 f3) (nI m) = TT at R hC9
        obtain ⟨r1, r2, r3, r4, r5⟩ := R
        have cc := CO9_g c r2 r3
        have again : ∀ j : Nat, F_k_X10_isAgain_0 (F_k_X10_stores_0 Wz A) ZZ.2.2.2.2 j = A j := fun j => by
          obtain ⟨a1, a2⟩ := F_aga (Wz := F_k_X10_stores_0 Wz A) (A := ZZ.2.2.2.2)
          by_cases y : 46 ≤ j ∧ j < 53
          · obtain ⟨k, hk⟩ : ∃ k : Nat, j = 46 + k := ⟨j - 46, by omega⟩
            subst hk
            rw [a1 k (by omega), F_sto k (by omega)]
          · rw [a2 j (by omega)]
            by_cases y2 : j < 46
            · exact r3 j (Or.inl y2)
            · exact r4 j (by omega)
        have sm := sm_A cc (F_k_X10_isAgain_0 (F_k_X10_stores_0 Wz A) ZZ.2.2.2.2) (by rw [again, r3 1 (by decide)])
        have tk := tkN_A cc
        have a23 : a2 = 0 ∨ a2 = 1 ∨ a2 = 2 ∨ (¬ a2 = 0 ∧ ¬ a2 = 1 ∧ ¬ a2 = 2) := by
          by_cases q0 : a2 = 0
          · exact Or.inl q0
          · by_cases q1 : a2 = 1
            · exact Or.inr (Or.inl q1)
            · by_cases q2 : a2 = 2
              · exact Or.inr (Or.inr (Or.inl q2))
              · exact Or.inr (Or.inr (Or.inr ⟨q0, q1, q2⟩))
        rcases r5 with ⟨w0, wt⟩ | ⟨w0, k, kc, wt, wd⟩
        · rw [if_pos wt] at hC9
          rcases a23 with q | q | q | ⟨q0, q1, q2⟩
          · rw [q, if_pos rfl] at hC9
            rw [q, if_pos rfl, if_pos w0] at hZ9
            subst hC9 hZ9
            exact ⟨rfl, rfl, again⟩
          · rw [q, if_neg (by decide), if_pos rfl] at hC9
            rw [q, if_neg (by decide), if_pos rfl] at hZ9
            subst hC9 hZ9
            exact ⟨w0.symm, rfl, again⟩
          · rw [q, if_neg (by decide), if_neg (by decide), if_pos rfl] at hC9
            rw [q, if_neg (by decide), if_neg (by decide), if_pos rfl] at hZ9
            subst hC9 hZ9
            exact ⟨sm, rfl, again⟩
          · rw [if_neg q0, if_neg q1, if_neg q2] at hC9
            rw [if_neg q0, if_neg q1, if_neg q2] at hZ9
            subst hC9 hZ9
            exact ⟨tk, rfl, again⟩
        · have nk : (nI k).toNatClampNeg = k := nI_clamp (by omega)
          have nm : ¬ TT.1 = nI m := fun q => by
            have := congrArg Int32.toInt (wt.symm.trans q)
            rw [nI_toInt (by omega), nI_toInt (by omega)] at this
            omega
          have ntt : TT.1.toNatClampNeg = k := by rw [wt, nk]
          rw [if_neg nm, ntt, wd] at hC9
          rcases a23 with q | q | q | ⟨q0, q1, q2⟩
          · rw [q, if_pos rfl] at hC9
            rw [q, if_pos rfl, if_neg w0] at hZ9
            subst hC9 hZ9
            exact ⟨r1, rfl, again⟩
          · rw [q, if_neg (by decide), if_pos rfl] at hC9
            rw [q, if_neg (by decide), if_pos rfl] at hZ9
            subst hC9 hZ9
            exact ⟨rfl, rfl, again⟩
          · rw [q, if_neg (by decide), if_neg (by decide), if_pos rfl] at hC9
            rw [q, if_neg (by decide), if_neg (by decide), if_pos rfl] at hZ9
            subst hC9 hZ9
            exact ⟨sm, rfl, again⟩
          · rw [if_neg q0, if_neg q1, if_neg q2] at hC9
            rw [if_neg q0, if_neg q1, if_neg q2] at hZ9
            subst hC9 hZ9
            exact ⟨tk, rfl, again⟩
    · rw [if_neg h1, if_neg (by decide)] at hZ9
      rw [jd_n (Or.inr (by omega))] at hC9
      subst hC9 hZ9
      exact ⟨rfl, rfl, fun _ => rfl⟩
  · rw [wiN9 (by rw [z0, z3, z64]; exact h2), if_pos rfl] at hZ9
    rw [jd_n (Or.inl h2)] at hC9
    subst hC9 hZ9
    exact ⟨rfl, rfl, fun _ => rfl⟩
