theorem TrR_f {t : Nat} {c so : Int32} {f : Nat → Int64} {z37 z38 z37' z38' : Nat → Int32} {z39 z39' : Nat → Int64} (e1 : z37' t = z37 t) (e2 : z38' t = z38 t) (h : ∀ i : Nat, i < 40 → z39' (40 * t + i) = z39 (40 * t + i)) (r : TrR t c so f z37 z38 z39) : TrR t c so f z37' z38' z39' := by
  rcases r with ⟨a, b⟩ | ⟨m, a, b, c', d, e, g⟩
  · exact Or.inl ⟨a, e1.trans b⟩
  · exact Or.inr ⟨m, a, b, e2.trans c', e1.trans d, e, fun i hi => (g i hi).trans (h i (by omega)).symm⟩
theorem R_count {n : Nat} {hn s w g pc a tl ln vn rn p5 : Int32} {A ps pv pn : Nat → Int32} (c : CO9 n hn s w g A) (p : PaR n pc ps pv pn A) (e0 : ln = A 0) (e2 : vn = A 2) (e3 : rn = A 3) (et : tl = p5) : F_k_X9_count_0 a tl s w g ln hn vn rn pc = (F_k_X10_count_0 a p5 A).1 := by
  have S := c.2.2.2.1
  have t4 := sm_A c A rfl
  have t5 := tb_A S
  obtain ⟨d, b, h1, h2, h3, h4, h5, h6, h7⟩ := S
  have h5 : A 51 = w := h5
  have h7 : A 52 = g := h7
  obtain ⟨m, m1, m2, m3, m4⟩ := p
  simp only [F_k_X9_count_0, F_k_X10_count_0, bnd, nz0, nz1, nz2, nz3, nz50, nz51, nz52, nz53]
  rw [t4, t5, h5, h7, m2, m3, e0, e2, e3, et, c.1]
  repeat' split
  all_goals rfl
theorem ls_0 {n m k9 : Nat} {hn s w g : Int32} {A fe rk Wi z38 : Nat → Int32} {f0 f1 f2 f3 z39 : Nat → Int64} (c : CO9 n hn s w g A) (f : FE9 n fe A) (hk9 : k9 < n) (hm : m ≤ 40) (h38 : z38 0 = nI m) (hnum : ∀ i : Nat, i < m → f0 i = z39 (40 * 0 + i)) : (fun (R : Int32 × (Nat → Int64) × (Nat → Int64) × (Nat → Int64) × (Nat → Int64)) (Z : Int32 × Int32 × (Nat → Int32) × (Nat → Int32) × (Nat → Int64)) => R.1 = Z.1 ∧ (∀ i : Nat, i < m → R.2.1 i = Z.2.2.2.2 (40 * 0 + i)) ∧ R.2.2.1 = f1 ∧ R.2.2.2.1 = f2 ∧ R.2.2.2.2 = f3 ∧ ∀ j : Nat, (j < 0 ∨ 40 ≤ j) → Z.2.2.2.2 j = z39 j) (W9 (L_k_X9_lists_0_1 (DF A fe) (nI k9) f1 f2 f3 w hn (nI m)) (0, s, f0)) (W9 (L_k_X10_lists_0_1 (nI 0) (nI k9) A z38) (0, F_k_X10_standNow_0 A, rk, Wi, z39)) := by
  have nt : (nI 0).toNatClampNeg = 0 := nI_clamp (by decide)
  have n4 := c.2.2.1
  obtain ⟨e1, e2, e3, ⟨d0, b0, h1, h2, h3, h4, h5, h6, h7⟩, e5⟩ := c
  have h5 : A 51 = w := h5
  have hnN : hn.toNatClampNeg = n := by rw [e1]; exact toNat_is e2
  have nk9 : (nI k9).toNatClampNeg = k9 := nI_clamp (by omega)
  refine W9_sim (fun (x : Int32 × Int32 × (Nat → Int64)) (y : Int32 × Int32 × (Nat → Int32) × (Nat → Int32) × (Nat → Int64)) => ∃ (k : Nat) (d b : Nat → Int), k ≤ m ∧ x.1 = nI k ∧ y.1 = nI k ∧ DG n d b ∧ SC d b x.2.1 ∧ SZ d b y.2.1 ∧ (∀ i : Nat, i < m → x.2.2 i = y.2.2.2.2 (40 * 0 + i)) ∧ ∀ j : Nat, (j < 0 ∨ 40 ≤ j) → y.2.2.2.2 j = z39 j) (fun (R : Int32 × (Nat → Int64) × (Nat → Int64) × (Nat → Int64) × (Nat → Int64)) (Z : Int32 × Int32 × (Nat → Int32) × (Nat → Int32) × (Nat → Int64)) => R.1 = Z.1 ∧ (∀ i : Nat, i < m → R.2.1 i = Z.2.2.2.2 (40 * 0 + i)) ∧ R.2.2.1 = f1 ∧ R.2.2.2.1 = f2 ∧ R.2.2.2.2 = f3 ∧ ∀ j : Nat, (j < 0 ∨ 40 ≤ j) → Z.2.2.2.2 j = z39 j) (fun x => ((m : Int) - x.1.toInt).toNat) ?_ ⟨0, d0, b0, by omega, nI_0.symm, nI_0.symm, h1, h2, F_sn h1 e2 h3 h4, hnum, fun _ _ => rfl⟩
  rintro ⟨u, s1, f⟩ ⟨v, z1, rk1, Wi1, zz⟩ ⟨k, d, b, hk, hu, hv, g1, g2, g3, gf, go⟩
  have hu : u = nI k := hu
  have hv : v = nI k := hv
  subst hu hv
  have g2 : SC d b s1 := g2
  have g3 : SZ d b z1 := g3
  have gf : ∀ i : Nat, i < m → f i = zz (40 * 0 + i) := gf
  have go : ∀ j : Nat, (j < 0 ∨ 40 ≤ j) → zz j = z39 j := go
  have nk : (nI k).toNatClampNeg = k := nI_clamp (by omega)
  by_cases l : k < m
  · left
    have g0 : ¬ nI m ≤ nI k := by rw [Int32.le_iff_toInt_le, nI_toInt (by omega), nI_toInt (by omega)]; omega
    have B : bhS (DF A fe) s1 w 0 n = bhS (DA A) s1 w 0 n := bh_F (fog := 0) g1 g2 h6 ‹FE9 n fe A› n (Nat.le_refl _)
    have S' : SC (dN A s1 w 0 n) (bN A s1 w 0 n) (bhS (DF A fe) s1 w 0 n) := by rw [B]; exact bh_n g1 g2 h6
    have D' := dN_DG (A := A) (w := w) (fog := 0) g1 g2
    have Z' := F_nt (rk0 := rk1) (Wi := Wi1) (fog := 0) (w := w) g1 g2 g3 e2 e5
    have k94 : k9 < 4 := by omega
    have ev : F_k_X9_stackIn_0 (bhS (DF A fe) s1 w 0 n) (nI k9) = F_k_X10_stackIn_0 (F_k_X10_nightTo_0 z1 0 w rk1 Wi1 A).1 (nI k9) := by
      rw [stI, nk9]
      exact i32 ((SC_v D' S' k94).2.1.trans (SZ_st D' Z' (nI_toInt (by omega)) k94).symm)
    have ix : ((40 : Int32) * nI 0 + nI k).toNatClampNeg = 40 * 0 + k := ix40 (by decide) (by omega)
    refine ⟨(nI (k + 1), bhS (DF A fe) s1 w 0 n, vp_updL f k (F_k_X9_stackIn_0 (bhS (DF A fe) s1 w 0 n) (nI k9)).toInt64), (nI (k + 1), (F_k_X10_nightTo_0 z1 0 w rk1 Wi1 A).1, (F_k_X10_nightTo_0 z1 0 w rk1 Wi1 A).2.1, (F_k_X10_nightTo_0 z1 0 w rk1 Wi1 A).2.2, vp_updL zz (40 * 0 + k) (F_k_X9_stackIn_0 (bhS (DF A fe) s1 w 0 n) (nI k9)).toInt64), ?_, ?_, ⟨k + 1, _, _, by omega, rfl, rfl, D', S', Z', fun i hi => ?_, fun j hj => ?_⟩, ?_⟩
    · show B_k_X9_lists_0_1 (DF A fe) (nI k9) f1 f2 f3 w hn (nI m) (nI k) s1 f = _
      unfold B_k_X9_lists_0_1
      simp only [bnd]
      rw [if_neg g0, nk, hnN, nI_1]
    · show B_k_X10_lists_0_1 (nI 0) (nI k9) A z38 (nI k) z1 rk1 Wi1 zz = _
      unfold B_k_X10_lists_0_1
      simp only [bnd, nz51]
      rw [nt, h38, if_neg g0, h5, ix, nI_1, ev]
    · show vp_updL f k _ i = vp_updL zz (40 * 0 + k) _ (40 * 0 + i)
      by_cases y : i = k
      · rw [y, updL_at, updL_at]
      · rw [updL_ne y, updL_ne (by omega)]; exact gf i hi
    · show vp_updL zz (40 * 0 + k) _ j = z39 j
      rw [updL_ne (by omega)]; exact go j hj
    · show ((m : Int) - (nI (k + 1)).toInt).toNat < ((m : Int) - (nI k).toInt).toNat
      rw [nI_toInt (by omega), nI_toInt (by omega)]; omega
  · right
    have e : k = m := by omega
    subst e
    refine ⟨(nI k, f, f1, f2, f3), (nI k, 0, rk1, Wi1, zz), ?_, ?_, rfl, gf, rfl, rfl, rfl, go⟩
    · show B_k_X9_lists_0_1 (DF A fe) (nI k9) f1 f2 f3 w hn (nI k) (nI k) s1 f = _
      unfold B_k_X9_lists_0_1
      simp only [bnd]
      rw [if_pos (Int32.le_refl _)]
    · show B_k_X10_lists_0_1 (nI 0) (nI k9) A z38 (nI k) z1 rk1 Wi1 zz = _
      unfold B_k_X10_lists_0_1
      simp only [bnd, nz51]
      rw [nt, h38, if_pos (Int32.le_refl _)]
theorem ls_1 {n m k9 : Nat} {hn s w g : Int32} {A fe rk Wi z38 : Nat → Int32} {f0 f1 f2 f3 z39 : Nat → Int64} (c : CO9 n hn s w g A) (f : FE9 n fe A) (hk9 : k9 < n) (hm : m ≤ 40) (h38 : z38 1 = nI m) (hnum : ∀ i : Nat, i < m → f1 i = z39 (40 * 1 + i)) : (fun (R : Int32 × (Nat → Int64) × (Nat → Int64) × (Nat → Int64) × (Nat → Int64)) (Z : Int32 × Int32 × (Nat → Int32) × (Nat → Int32) × (Nat → Int64)) => R.1 = Z.1 ∧ (∀ i : Nat, i < m → R.2.2.1 i = Z.2.2.2.2 (40 * 1 + i)) ∧ R.2.1 = f0 ∧ R.2.2.2.1 = f2 ∧ R.2.2.2.2 = f3 ∧ ∀ j : Nat, (j < 40 ∨ 80 ≤ j) → Z.2.2.2.2 j = z39 j) (W9 (L_k_X9_lists_0_2 (DF A fe) (nI k9) f0 f2 f3 w hn (nI m)) (0, s, f1)) (W9 (L_k_X10_lists_0_1 (nI 1) (nI k9) A z38) (0, F_k_X10_standNow_0 A, rk, Wi, z39)) := by
  have nt : (nI 1).toNatClampNeg = 1 := nI_clamp (by decide)
  have n4 := c.2.2.1
  obtain ⟨e1, e2, e3, ⟨d0, b0, h1, h2, h3, h4, h5, h6, h7⟩, e5⟩ := c
  have h5 : A 51 = w := h5
  have hnN : hn.toNatClampNeg = n := by rw [e1]; exact toNat_is e2
  have nk9 : (nI k9).toNatClampNeg = k9 := nI_clamp (by omega)
  refine W9_sim (fun (x : Int32 × Int32 × (Nat → Int64)) (y : Int32 × Int32 × (Nat → Int32) × (Nat → Int32) × (Nat → Int64)) => ∃ (k : Nat) (d b : Nat → Int), k ≤ m ∧ x.1 = nI k ∧ y.1 = nI k ∧ DG n d b ∧ SC d b x.2.1 ∧ SZ d b y.2.1 ∧ (∀ i : Nat, i < m → x.2.2 i = y.2.2.2.2 (40 * 1 + i)) ∧ ∀ j : Nat, (j < 40 ∨ 80 ≤ j) → y.2.2.2.2 j = z39 j) (fun (R : Int32 × (Nat → Int64) × (Nat → Int64) × (Nat → Int64) × (Nat → Int64)) (Z : Int32 × Int32 × (Nat → Int32) × (Nat → Int32) × (Nat → Int64)) => R.1 = Z.1 ∧ (∀ i : Nat, i < m → R.2.2.1 i = Z.2.2.2.2 (40 * 1 + i)) ∧ R.2.1 = f0 ∧ R.2.2.2.1 = f2 ∧ R.2.2.2.2 = f3 ∧ ∀ j : Nat, (j < 40 ∨ 80 ≤ j) → Z.2.2.2.2 j = z39 j) (fun x => ((m : Int) - x.1.toInt).toNat) ?_ ⟨0, d0, b0, by omega, nI_0.symm, nI_0.symm, h1, h2, F_sn h1 e2 h3 h4, hnum, fun _ _ => rfl⟩
  rintro ⟨u, s1, f⟩ ⟨v, z1, rk1, Wi1, zz⟩ ⟨k, d, b, hk, hu, hv, g1, g2, g3, gf, go⟩
  have hu : u = nI k := hu
  have hv : v = nI k := hv
  subst hu hv
  have g2 : SC d b s1 := g2
  have g3 : SZ d b z1 := g3
  have gf : ∀ i : Nat, i < m → f i = zz (40 * 1 + i) := gf
  have go : ∀ j : Nat, (j < 40 ∨ 80 ≤ j) → zz j = z39 j := go
  have nk : (nI k).toNatClampNeg = k := nI_clamp (by omega)
  by_cases l : k < m
  · left
    have g0 : ¬ nI m ≤ nI k := by rw [Int32.le_iff_toInt_le, nI_toInt (by omega), nI_toInt (by omega)]; omega
    have B : bhS (DF A fe) s1 w 0 n = bhS (DA A) s1 w 0 n := bh_F (fog := 0) g1 g2 h6 ‹FE9 n fe A› n (Nat.le_refl _)
    have S' : SC (dN A s1 w 0 n) (bN A s1 w 0 n) (bhS (DF A fe) s1 w 0 n) := by rw [B]; exact bh_n g1 g2 h6
    have D' := dN_DG (A := A) (w := w) (fog := 0) g1 g2
    have Z' := F_nt (rk0 := rk1) (Wi := Wi1) (fog := 0) (w := w) g1 g2 g3 e2 e5
    have k94 : k9 < 4 := by omega
    have ev : F_k_X9_stackIn_0 (bhS (DF A fe) s1 w 0 n) (nI k9) = F_k_X10_stackIn_0 (F_k_X10_nightTo_0 z1 0 w rk1 Wi1 A).1 (nI k9) := by
      rw [stI, nk9]
      exact i32 ((SC_v D' S' k94).2.1.trans (SZ_st D' Z' (nI_toInt (by omega)) k94).symm)
    have ix : ((40 : Int32) * nI 1 + nI k).toNatClampNeg = 40 * 1 + k := ix40 (by decide) (by omega)
    refine ⟨(nI (k + 1), bhS (DF A fe) s1 w 0 n, vp_updL f k (F_k_X9_stackIn_0 (bhS (DF A fe) s1 w 0 n) (nI k9)).toInt64), (nI (k + 1), (F_k_X10_nightTo_0 z1 0 w rk1 Wi1 A).1, (F_k_X10_nightTo_0 z1 0 w rk1 Wi1 A).2.1, (F_k_X10_nightTo_0 z1 0 w rk1 Wi1 A).2.2, vp_updL zz (40 * 1 + k) (F_k_X9_stackIn_0 (bhS (DF A fe) s1 w 0 n) (nI k9)).toInt64), ?_, ?_, ⟨k + 1, _, _, by omega, rfl, rfl, D', S', Z', fun i hi => ?_, fun j hj => ?_⟩, ?_⟩
    · show B_k_X9_lists_0_2 (DF A fe) (nI k9) f0 f2 f3 w hn (nI m) (nI k) s1 f = _
      unfold B_k_X9_lists_0_2
      simp only [bnd]
      rw [if_neg g0, nk, hnN, nI_1]
    · show B_k_X10_lists_0_1 (nI 1) (nI k9) A z38 (nI k) z1 rk1 Wi1 zz = _
      unfold B_k_X10_lists_0_1
      simp only [bnd, nz51]
      rw [nt, h38, if_neg g0, h5, ix, nI_1, ev]
    · show vp_updL f k _ i = vp_updL zz (40 * 1 + k) _ (40 * 1 + i)
      by_cases y : i = k
      · rw [y, updL_at, updL_at]
      · rw [updL_ne y, updL_ne (by omega)]; exact gf i hi
    · show vp_updL zz (40 * 1 + k) _ j = z39 j
      rw [updL_ne (by omega)]; exact go j hj
    · show ((m : Int) - (nI (k + 1)).toInt).toNat < ((m : Int) - (nI k).toInt).toNat
      rw [nI_toInt (by omega), nI_toInt (by omega)]; omega
  · right
    have e : k = m := by omega
    subst e
    refine ⟨(nI k, f0, f, f2, f3), (nI k, 0, rk1, Wi1, zz), ?_, ?_, rfl, gf, rfl, rfl, rfl, go⟩
    · show B_k_X9_lists_0_2 (DF A fe) (nI k9) f0 f2 f3 w hn (nI k) (nI k) s1 f = _
      unfold B_k_X9_lists_0_2
      simp only [bnd]
      rw [if_pos (Int32.le_refl _)]
    · show B_k_X10_lists_0_1 (nI 1) (nI k9) A z38 (nI k) z1 rk1 Wi1 zz = _
      unfold B_k_X10_lists_0_1
      simp only [bnd, nz51]
      rw [nt, h38, if_pos (Int32.le_refl _)]
theorem ls_2 {n m k9 : Nat} {hn s w g : Int32} {A fe rk Wi z38 : Nat → Int32} {f0 f1 f2 f3 z39 : Nat → Int64} (c : CO9 n hn s w g A) (f : FE9 n fe A) (hk9 : k9 < n) (hm : m ≤ 40) (h38 : z38 2 = nI m) (hnum : ∀ i : Nat, i < m → f2 i = z39 (40 * 2 + i)) : (fun (R : Int32 × (Nat → Int64) × (Nat → Int64) × (Nat → Int64) × (Nat → Int64)) (Z : Int32 × Int32 × (Nat → Int32) × (Nat → Int32) × (Nat → Int64)) => R.1 = Z.1 ∧ (∀ i : Nat, i < m → R.2.2.2.1 i = Z.2.2.2.2 (40 * 2 + i)) ∧ R.2.1 = f0 ∧ R.2.2.1 = f1 ∧ R.2.2.2.2 = f3 ∧ ∀ j : Nat, (j < 80 ∨ 120 ≤ j) → Z.2.2.2.2 j = z39 j) (W9 (L_k_X9_lists_0_3 (DF A fe) (nI k9) f0 f1 f3 w hn (nI m)) (0, s, f2)) (W9 (L_k_X10_lists_0_1 (nI 2) (nI k9) A z38) (0, F_k_X10_standNow_0 A, rk, Wi, z39)) := by
  have nt : (nI 2).toNatClampNeg = 2 := nI_clamp (by decide)
  have n4 := c.2.2.1
  obtain ⟨e1, e2, e3, ⟨d0, b0, h1, h2, h3, h4, h5, h6, h7⟩, e5⟩ := c
  have h5 : A 51 = w := h5
  have hnN : hn.toNatClampNeg = n := by rw [e1]; exact toNat_is e2
  have nk9 : (nI k9).toNatClampNeg = k9 := nI_clamp (by omega)
  refine W9_sim (fun (x : Int32 × Int32 × (Nat → Int64)) (y : Int32 × Int32 × (Nat → Int32) × (Nat → Int32) × (Nat → Int64)) => ∃ (k : Nat) (d b : Nat → Int), k ≤ m ∧ x.1 = nI k ∧ y.1 = nI k ∧ DG n d b ∧ SC d b x.2.1 ∧ SZ d b y.2.1 ∧ (∀ i : Nat, i < m → x.2.2 i = y.2.2.2.2 (40 * 2 + i)) ∧ ∀ j : Nat, (j < 80 ∨ 120 ≤ j) → y.2.2.2.2 j = z39 j) (fun (R : Int32 × (Nat → Int64) × (Nat → Int64) × (Nat → Int64) × (Nat → Int64)) (Z : Int32 × Int32 × (Nat → Int32) × (Nat → Int32) × (Nat → Int64)) => R.1 = Z.1 ∧ (∀ i : Nat, i < m → R.2.2.2.1 i = Z.2.2.2.2 (40 * 2 + i)) ∧ R.2.1 = f0 ∧ R.2.2.1 = f1 ∧ R.2.2.2.2 = f3 ∧ ∀ j : Nat, (j < 80 ∨ 120 ≤ j) → Z.2.2.2.2 j = z39 j) (fun x => ((m : Int) - x.1.toInt).toNat) ?_ ⟨0, d0, b0, by omega, nI_0.symm, nI_0.symm, h1, h2, F_sn h1 e2 h3 h4, hnum, fun _ _ => rfl⟩
  rintro ⟨u, s1, f⟩ ⟨v, z1, rk1, Wi1, zz⟩ ⟨k, d, b, hk, hu, hv, g1, g2, g3, gf, go⟩
  have hu : u = nI k := hu
  have hv : v = nI k := hv
  subst hu hv
  have g2 : SC d b s1 := g2
  have g3 : SZ d b z1 := g3
  have gf : ∀ i : Nat, i < m → f i = zz (40 * 2 + i) := gf
  have go : ∀ j : Nat, (j < 80 ∨ 120 ≤ j) → zz j = z39 j := go
  have nk : (nI k).toNatClampNeg = k := nI_clamp (by omega)
  by_cases l : k < m
  · left
    have g0 : ¬ nI m ≤ nI k := by rw [Int32.le_iff_toInt_le, nI_toInt (by omega), nI_toInt (by omega)]; omega
    have B : bhS (DF A fe) s1 w 0 n = bhS (DA A) s1 w 0 n := bh_F (fog := 0) g1 g2 h6 ‹FE9 n fe A› n (Nat.le_refl _)
    have S' : SC (dN A s1 w 0 n) (bN A s1 w 0 n) (bhS (DF A fe) s1 w 0 n) := by rw [B]; exact bh_n g1 g2 h6
    have D' := dN_DG (A := A) (w := w) (fog := 0) g1 g2
    have Z' := F_nt (rk0 := rk1) (Wi := Wi1) (fog := 0) (w := w) g1 g2 g3 e2 e5
    have k94 : k9 < 4 := by omega
    have ev : F_k_X9_stackIn_0 (bhS (DF A fe) s1 w 0 n) (nI k9) = F_k_X10_stackIn_0 (F_k_X10_nightTo_0 z1 0 w rk1 Wi1 A).1 (nI k9) := by
      rw [stI, nk9]
      exact i32 ((SC_v D' S' k94).2.1.trans (SZ_st D' Z' (nI_toInt (by omega)) k94).symm)
    have ix : ((40 : Int32) * nI 2 + nI k).toNatClampNeg = 40 * 2 + k := ix40 (by decide) (by omega)
    refine ⟨(nI (k + 1), bhS (DF A fe) s1 w 0 n, vp_updL f k (F_k_X9_stackIn_0 (bhS (DF A fe) s1 w 0 n) (nI k9)).toInt64), (nI (k + 1), (F_k_X10_nightTo_0 z1 0 w rk1 Wi1 A).1, (F_k_X10_nightTo_0 z1 0 w rk1 Wi1 A).2.1, (F_k_X10_nightTo_0 z1 0 w rk1 Wi1 A).2.2, vp_updL zz (40 * 2 + k) (F_k_X9_stackIn_0 (bhS (DF A fe) s1 w 0 n) (nI k9)).toInt64), ?_, ?_, ⟨k + 1, _, _, by omega, rfl, rfl, D', S', Z', fun i hi => ?_, fun j hj => ?_⟩, ?_⟩
    · show B_k_X9_lists_0_3 (DF A fe) (nI k9) f0 f1 f3 w hn (nI m) (nI k) s1 f = _
      unfold B_k_X9_lists_0_3
      simp only [bnd]
      rw [if_neg g0, nk, hnN, nI_1]
    · show B_k_X10_lists_0_1 (nI 2) (nI k9) A z38 (nI k) z1 rk1 Wi1 zz = _
      unfold B_k_X10_lists_0_1
      simp only [bnd, nz51]
      rw [nt, h38, if_neg g0, h5, ix, nI_1, ev]
    · show vp_updL f k _ i = vp_updL zz (40 * 2 + k) _ (40 * 2 + i)
      by_cases y : i = k
      · rw [y, updL_at, updL_at]
      · rw [updL_ne y, updL_ne (by omega)]; exact gf i hi
    · show vp_updL zz (40 * 2 + k) _ j = z39 j
      rw [updL_ne (by omega)]; exact go j hj
    · show ((m : Int) - (nI (k + 1)).toInt).toNat < ((m : Int) - (nI k).toInt).toNat
      rw [nI_toInt (by omega), nI_toInt (by omega)]; omega
  · right
    have e : k = m := by omega
    subst e
    refine ⟨(nI k, f0, f1, f, f3), (nI k, 0, rk1, Wi1, zz), ?_, ?_, rfl, gf, rfl, rfl, rfl, go⟩
    · show B_k_X9_lists_0_3 (DF A fe) (nI k9) f0 f1 f3 w hn (nI k) (nI k) s1 f = _
      unfold B_k_X9_lists_0_3
      simp only [bnd]
      rw [if_pos (Int32.le_refl _)]
    · show B_k_X10_lists_0_1 (nI 2) (nI k9) A z38 (nI k) z1 rk1 Wi1 zz = _
      unfold B_k_X10_lists_0_1
      simp only [bnd, nz51]
      rw [nt, h38, if_pos (Int32.le_refl _)]
theorem ls_3 {n m k9 : Nat} {hn s w g : Int32} {A fe rk Wi z38 : Nat → Int32} {f0 f1 f2 f3 z39 : Nat → Int64} (c : CO9 n hn s w g A) (f : FE9 n fe A) (hk9 : k9 < n) (hm : m ≤ 40) (h38 : z38 3 = nI m) (hnum : ∀ i : Nat, i < m → f3 i = z39 (40 * 3 + i)) : (fun (R : Int32 × (Nat → Int64) × (Nat → Int64) × (Nat → Int64) × (Nat → Int64)) (Z : Int32 × Int32 × (Nat → Int32) × (Nat → Int32) × (Nat → Int64)) => R.1 = Z.1 ∧ (∀ i : Nat, i < m → R.2.2.2.2 i = Z.2.2.2.2 (40 * 3 + i)) ∧ R.2.1 = f0 ∧ R.2.2.1 = f1 ∧ R.2.2.2.1 = f2 ∧ ∀ j : Nat, (j < 120 ∨ 160 ≤ j) → Z.2.2.2.2 j = z39 j) (W9 (L_k_X9_lists_0_4 (DF A fe) (nI k9) f0 f1 f2 w hn (nI m)) (0, s, f3)) (W9 (L_k_X10_lists_0_1 (nI 3) (nI k9) A z38) (0, F_k_X10_standNow_0 A, rk, Wi, z39)) := by
  have nt : (nI 3).toNatClampNeg = 3 := nI_clamp (by decide)
  have n4 := c.2.2.1
  obtain ⟨e1, e2, e3, ⟨d0, b0, h1, h2, h3, h4, h5, h6, h7⟩, e5⟩ := c
  have h5 : A 51 = w := h5
  have hnN : hn.toNatClampNeg = n := by rw [e1]; exact toNat_is e2
  have nk9 : (nI k9).toNatClampNeg = k9 := nI_clamp (by omega)
  refine W9_sim (fun (x : Int32 × Int32 × (Nat → Int64)) (y : Int32 × Int32 × (Nat → Int32) × (Nat → Int32) × (Nat → Int64)) => ∃ (k : Nat) (d b : Nat → Int), k ≤ m ∧ x.1 = nI k ∧ y.1 = nI k ∧ DG n d b ∧ SC d b x.2.1 ∧ SZ d b y.2.1 ∧ (∀ i : Nat, i < m → x.2.2 i = y.2.2.2.2 (40 * 3 + i)) ∧ ∀ j : Nat, (j < 120 ∨ 160 ≤ j) → y.2.2.2.2 j = z39 j) (fun (R : Int32 × (Nat → Int64) × (Nat → Int64) × (Nat → Int64) × (Nat → Int64)) (Z : Int32 × Int32 × (Nat → Int32) × (Nat → Int32) × (Nat → Int64)) => R.1 = Z.1 ∧ (∀ i : Nat, i < m → R.2.2.2.2 i = Z.2.2.2.2 (40 * 3 + i)) ∧ R.2.1 = f0 ∧ R.2.2.1 = f1 ∧ R.2.2.2.1 = f2 ∧ ∀ j : Nat, (j < 120 ∨ 160 ≤ j) → Z.2.2.2.2 j = z39 j) (fun x => ((m : Int) - x.1.toInt).toNat) ?_ ⟨0, d0, b0, by omega, nI_0.symm, nI_0.symm, h1, h2, F_sn h1 e2 h3 h4, hnum, fun _ _ => rfl⟩
  rintro ⟨u, s1, f⟩ ⟨v, z1, rk1, Wi1, zz⟩ ⟨k, d, b, hk, hu, hv, g1, g2, g3, gf, go⟩
  have hu : u = nI k := hu
  have hv : v = nI k := hv
  subst hu hv
  have g2 : SC d b s1 := g2
  have g3 : SZ d b z1 := g3
  have gf : ∀ i : Nat, i < m → f i = zz (40 * 3 + i) := gf
  have go : ∀ j : Nat, (j < 120 ∨ 160 ≤ j) → zz j = z39 j := go
  have nk : (nI k).toNatClampNeg = k := nI_clamp (by omega)
  by_cases l : k < m
  · left
    have g0 : ¬ nI m ≤ nI k := by rw [Int32.le_iff_toInt_le, nI_toInt (by omega), nI_toInt (by omega)]; omega
    have B : bhS (DF A fe) s1 w 0 n = bhS (DA A) s1 w 0 n := bh_F (fog := 0) g1 g2 h6 ‹FE9 n fe A› n (Nat.le_refl _)
    have S' : SC (dN A s1 w 0 n) (bN A s1 w 0 n) (bhS (DF A fe) s1 w 0 n) := by rw [B]; exact bh_n g1 g2 h6
    have D' := dN_DG (A := A) (w := w) (fog := 0) g1 g2
    have Z' := F_nt (rk0 := rk1) (Wi := Wi1) (fog := 0) (w := w) g1 g2 g3 e2 e5
    have k94 : k9 < 4 := by omega
    have ev : F_k_X9_stackIn_0 (bhS (DF A fe) s1 w 0 n) (nI k9) = F_k_X10_stackIn_0 (F_k_X10_nightTo_0 z1 0 w rk1 Wi1 A).1 (nI k9) := by
      rw [stI, nk9]
      exact i32 ((SC_v D' S' k94).2.1.trans (SZ_st D' Z' (nI_toInt (by omega)) k94).symm)
    have ix : ((40 : Int32) * nI 3 + nI k).toNatClampNeg = 40 * 3 + k := ix40 (by decide) (by omega)
    refine ⟨(nI (k + 1), bhS (DF A fe) s1 w 0 n, vp_updL f k (F_k_X9_stackIn_0 (bhS (DF A fe) s1 w 0 n) (nI k9)).toInt64), (nI (k + 1), (F_k_X10_nightTo_0 z1 0 w rk1 Wi1 A).1, (F_k_X10_nightTo_0 z1 0 w rk1 Wi1 A).2.1, (F_k_X10_nightTo_0 z1 0 w rk1 Wi1 A).2.2, vp_updL zz (40 * 3 + k) (F_k_X9_stackIn_0 (bhS (DF A fe) s1 w 0 n) (nI k9)).toInt64), ?_, ?_, ⟨k + 1, _, _, by omega, rfl, rfl, D', S', Z', fun i hi => ?_, fun j hj => ?_⟩, ?_⟩
    · show B_k_X9_lists_0_4 (DF A fe) (nI k9) f0 f1 f2 w hn (nI m) (nI k) s1 f = _
      unfold B_k_X9_lists_0_4
      simp only [bnd]
      rw [if_neg g0, nk, hnN, nI_1]
    · show B_k_X10_lists_0_1 (nI 3) (nI k9) A z38 (nI k) z1 rk1 Wi1 zz = _
      unfold B_k_X10_lists_0_1
      simp only [bnd, nz51]
      rw [nt, h38, if_neg g0, h5, ix, nI_1, ev]
    · show vp_updL f k _ i = vp_updL zz (40 * 3 + k) _ (40 * 3 + i)
      by_cases y : i = k
      · rw [y, updL_at, updL_at]
      · rw [updL_ne y, updL_ne (by omega)]; exact gf i hi
    · show vp_updL zz (40 * 3 + k) _ j = z39 j
      rw [updL_ne (by omega)]; exact go j hj
    · show ((m : Int) - (nI (k + 1)).toInt).toNat < ((m : Int) - (nI k).toInt).toNat
      rw [nI_toInt (by omega), nI_toInt (by omega)]; omega
  · right
    have e : k = m := by omega
    subst e
    refine ⟨(nI k, f0, f1, f2, f), (nI k, 0, rk1, Wi1, zz), ?_, ?_, rfl, gf, rfl, rfl, rfl, go⟩
    · show B_k_X9_lists_0_4 (DF A fe) (nI k9) f0 f1 f2 w hn (nI k) (nI k) s1 f = _
      unfold B_k_X9_lists_0_4
      simp only [bnd]
      rw [if_pos (Int32.le_refl _)]
    · show B_k_X10_lists_0_1 (nI 3) (nI k9) A z38 (nI k) z1 rk1 Wi1 zz = _
      unfold B_k_X10_lists_0_1
      simp only [bnd, nz51]
      rw [nt, h38, if_pos (Int32.le_refl _)]
theorem R_lists {n : Nat} {hn s w g a1 a2 c0 s0 c1 s1 c2 s2 c3 s3 : Int32} {A fe rk Wi z37 z38 : Nat → Int32} {f0 f1 f2 f3 z39 : Nat → Int64} (c : CO9 n hn s w g A) (f : FE9 n fe A) (tr : Tr4 c0 s0 f0 c1 s1 f1 c2 s2 f2 c3 s3 f3 z37 z38 z39) {C : Int32 × (Nat → Int64) × (Nat → Int64) × (Nat → Int64) × (Nat → Int64)} (hC9 : C = F_k_X9_lists_0 (DF A fe) a1 a2 s w hn c0 f0 c1 f1 c2 f2 c3 f3) {Z : Int32 × Int32 × (Nat → Int32) × (Nat → Int32) × (Nat → Int64)} (hZ9 : Z = F_k_X10_lists_0 a1 a2 A rk Wi z37 z38 z39) : C.1 = Z.1 ∧ Tr4 c0 s0 C.2.1 c1 s1 C.2.2.1 c2 s2 C.2.2.2.1 c3 s3 C.2.2.2.2 z37 z38 Z.2.2.2.2 := by
  have z0 : (0 : Int64).toInt = 0 := by decide
  have z3 : (3 : Int64).toInt = 3 := by decide
  have zh := hZ (v := a2.toInt64) (A := A) (by have := c.2.1; omega)
  rw [z64, ← c.1] at zh
  simp only [F_k_X9_lists_0, bnd] at hC9
  simp only [F_k_X10_lists_0, bnd, noT] at hZ9
  by_cases h1 : 0 ≤ a1.toInt ∧ a1.toInt ≤ 3
  · have it : F_k_X9_isTray_0 a1 = 2 := by
      rcases isT a1 with ⟨q1, q2⟩ | ⟨q1, q2⟩ | ⟨q1, q2⟩
      · omega
      · omega
      · exact q1
    rw [it, if_neg (by decide), if_neg (by decide)] at hC9
    rw [wiY9 (by rw [z0, z3, z64]; exact h1), if_neg (by decide)] at hZ9
    by_cases h2 : 0 ≤ a2.toInt ∧ a2.toInt < hn.toInt
    · have ih : F_k_X9_isHill_0 a2 hn = 2 := by
        rcases hC a2 hn with ⟨q1, q2⟩ | ⟨q1, q2, q3⟩ | ⟨q1, q2⟩
        · omega
        · omega
        · exact q1
      rw [if_pos h2] at zh
      rw [ih, if_neg (by decide), if_neg (by decide)] at hC9
      rw [zh, if_neg (by decide), if_pos h1] at hZ9
      obtain ⟨k9, hk9, ek⟩ := hl_k c h2
      obtain ⟨t, ht⟩ : ∃ t : Nat, a1.toInt = (t : Int) := ⟨a1.toInt.toNat, by omega⟩
      have ea : a1 = nI t := i32 (by rw [ht, nI_toInt (by omega)])
      have t4 : t = 0 ∨ t = 1 ∨ t = 2 ∨ t = 3 := by omega
      rcases t4 with q | q | q | q
      · subst q
        rw [ea] at hC9 hZ9
        rw [ek] at hC9 hZ9
        rw [if_pos (by decide)] at hC9
        rw [nI_clamp (by decide)] at hZ9
        rcases id tr.1 with ⟨e1, e2⟩ | ⟨m, m40, e1, e2, e3, e4, e5⟩
        · rw [e1, if_neg (show ¬ F_k_X7_isMissing_0 (-1) = 0 from fun q => absurd (ms_m.symm.trans q) (by decide))] at hC9
          rw [e2, if_pos rfl, if_neg (by decide)] at hZ9
          subst hC9 hZ9
          exact ⟨rfl, tr⟩
        · have n37 : ¬ z37 0 = -1 := fun q => by
            rw [e3] at q; rw [q] at e4; exact absurd e4.1 (by decide)
          rw [e1, if_pos (show F_k_X7_isMissing_0 (nI m) = 0 from ms_n m m40)] at hC9
          rw [if_neg n37, if_pos rfl] at hZ9
          have Q := ls_0 (rk := rk) (Wi := Wi) (f0 := f0) (f1 := f1) (f2 := f2) (f3 := f3) c f hk9 m40 e2 e5
          rw [← hC9, ← hZ9] at Q
          obtain ⟨q1, q2, q3, q4, q5, q6⟩ := Q
          exact ⟨q1, Or.inr ⟨m, m40, e1, e2, e3, e4, q2⟩, by rw [q3]; exact TrR_f rfl rfl (fun j hj => q6 _ (by omega)) tr.2.1, by rw [q4]; exact TrR_f rfl rfl (fun j hj => q6 _ (by omega)) tr.2.2.1, by rw [q5]; exact TrR_f rfl rfl (fun j hj => q6 _ (by omega)) tr.2.2.2⟩
      · subst q
        rw [ea] at hC9 hZ9
        rw [ek] at hC9 hZ9
        rw [if_neg (by decide), if_pos (by decide)] at hC9
        rw [nI_clamp (by decide)] at hZ9
        rcases id tr.2.1 with ⟨e1, e2⟩ | ⟨m, m40, e1, e2, e3, e4, e5⟩
        · rw [e1, if_neg (show ¬ F_k_X7_isMissing_1 (-1) = 0 from fun q => absurd (ms_m.symm.trans q) (by decide))] at hC9
          rw [e2, if_pos rfl, if_neg (by decide)] at hZ9
          subst hC9 hZ9
          exact ⟨rfl, tr⟩
        · have n37 : ¬ z37 1 = -1 := fun q => by
            rw [e3] at q; rw [q] at e4; exact absurd e4.1 (by decide)
          rw [e1, if_pos (show F_k_X7_isMissing_1 (nI m) = 0 from ms_n m m40)] at hC9
          rw [if_neg n37, if_pos rfl] at hZ9
          have Q := ls_1 (rk := rk) (Wi := Wi) (f0 := f0) (f1 := f1) (f2 := f2) (f3 := f3) c f hk9 m40 e2 e5
          rw [← hC9, ← hZ9] at Q
          obtain ⟨q1, q2, q3, q4, q5, q6⟩ := Q
          exact ⟨q1, by rw [q3]; exact TrR_f rfl rfl (fun j hj => q6 _ (by omega)) tr.1, Or.inr ⟨m, m40, e1, e2, e3, e4, q2⟩, by rw [q4]; exact TrR_f rfl rfl (fun j hj => q6 _ (by omega)) tr.2.2.1, by rw [q5]; exact TrR_f rfl rfl (fun j hj => q6 _ (by omega)) tr.2.2.2⟩
      · subst q
        rw [ea] at hC9 hZ9
        rw [ek] at hC9 hZ9
        rw [if_neg (by decide), if_neg (by decide), if_pos (by decide)] at hC9
        rw [nI_clamp (by decide)] at hZ9
        rcases id tr.2.2.1 with ⟨e1, e2⟩ | ⟨m, m40, e1, e2, e3, e4, e5⟩
        · rw [e1, if_neg (show ¬ F_k_X7_isMissing_2 (-1) = 0 from fun q => absurd (ms_m.symm.trans q) (by decide))] at hC9
          rw [e2, if_pos rfl, if_neg (by decide)] at hZ9
          subst hC9 hZ9
          exact ⟨rfl, tr⟩
        · have n37 : ¬ z37 2 = -1 := fun q => by
            rw [e3] at q; rw [q] at e4; exact absurd e4.1 (by decide)
          rw [e1, if_pos (show F_k_X7_isMissing_2 (nI m) = 0 from ms_n m m40)] at hC9
          rw [if_neg n37, if_pos rfl] at hZ9
          have Q := ls_2 (rk := rk) (Wi := Wi) (f0 := f0) (f1 := f1) (f2 := f2) (f3 := f3) c f hk9 m40 e2 e5
          rw [← hC9, ← hZ9] at Q
          obtain ⟨q1, q2, q3, q4, q5, q6⟩ := Q
          exact ⟨q1, by rw [q3]; exact TrR_f rfl rfl (fun j hj => q6 _ (by omega)) tr.1, by rw [q4]; exact TrR_f rfl rfl (fun j hj => q6 _ (by omega)) tr.2.1, Or.inr ⟨m, m40, e1, e2, e3, e4, q2⟩, by rw [q5]; exact TrR_f rfl rfl (fun j hj => q6 _ (by omega)) tr.2.2.2⟩
      · subst q
        rw [ea] at hC9 hZ9
        rw [ek] at hC9 hZ9
        rw [if_neg (by decide), if_neg (by decide), if_neg (by decide)] at hC9
        rw [nI_clamp (by decide)] at hZ9
        rcases id tr.2.2.2 with ⟨e1, e2⟩ | ⟨m, m40, e1, e2, e3, e4, e5⟩
        · rw [e1, if_neg (show ¬ F_k_X7_isMissing_3 (-1) = 0 from fun q => absurd (ms_m.symm.trans q) (by decide))] at hC9
          rw [e2, if_pos rfl, if_neg (by decide)] at hZ9
          subst hC9 hZ9
          exact ⟨rfl, tr⟩
        · have n37 : ¬ z37 3 = -1 := fun q => by
            rw [e3] at q; rw [q] at e4; exact absurd e4.1 (by decide)
          rw [e1, if_pos (show F_k_X7_isMissing_3 (nI m) = 0 from ms_n m m40)] at hC9
          rw [if_neg n37, if_pos rfl] at hZ9
          have Q := ls_3 (rk := rk) (Wi := Wi) (f0 := f0) (f1 := f1) (f2 := f2) (f3 := f3) c f hk9 m40 e2 e5
          rw [← hC9, ← hZ9] at Q
          obtain ⟨q1, q2, q3, q4, q5, q6⟩ := Q
          exact ⟨q1, by rw [q3]; exact TrR_f rfl rfl (fun j hj => q6 _ (by omega)) tr.1, by rw [q4]; exact TrR_f rfl rfl (fun j hj => q6 _ (by omega)) tr.2.1, by rw [q5]; exact TrR_f rfl rfl (fun j hj => q6 _ (by omega)) tr.2.2.1, Or.inr ⟨m, m40, e1, e2, e3, e4, q2⟩⟩
    · rw [if_neg h2] at zh
      rw [zh, if_pos rfl] at hZ9
      have e : C = (-2, f0, f1, f2, f3) := by
        rcases hC a2 hn with ⟨q1, q2⟩ | ⟨q1, q2, q3⟩ | ⟨q1, q2⟩
        · rw [q1, if_pos rfl] at hC9; exact hC9
        · rw [q1, if_neg (by decide), if_pos rfl] at hC9; exact hC9
        · omega
      subst e hZ9
      exact ⟨rfl, tr⟩
  · rw [wiN9 (by rw [z0, z3, z64]; exact h1), if_pos rfl] at hZ9
    have e : C = (-2, f0, f1, f2, f3) := by
      rcases isT a1 with ⟨q1, q2⟩ | ⟨q1, q2⟩ | ⟨q1, q2⟩
      · rw [q1, if_pos rfl] at hC9; exact hC9
      · rw [q1, if_neg (by decide), if_pos rfl] at hC9; exact hC9
      · omega
    subst e hZ9
    exact ⟨rfl, tr⟩
theorem fl_0 (f : Nat → Int64) : ∀ i : Nat, i < 40 → F_k_J7_fill_d0a16_0 0 f i = 0 := by
  unfold F_k_J7_fill_d0a16_0
  refine W9_rule (fun x : Int32 × (Nat → Int64) => ∃ k : Nat, k ≤ 40 ∧ x.1 = nI k ∧ ∀ i : Nat, i < k → x.2 i = 0) (fun r : Nat → Int64 => ∀ i : Nat, i < 40 → r i = 0) (fun x => (40 - x.1.toInt).toNat) ?_ ⟨0, by decide, nI_0.symm, fun i hi => absurd hi (Nat.not_lt_zero _)⟩
  rintro ⟨u, g⟩ ⟨k, hk, hu, hg⟩
  have hu : u = nI k := hu
  subst hu
  have hg : ∀ i : Nat, i < k → g i = 0 := hg
  have nk : (nI k).toNatClampNeg = k := nI_clamp (by omega)
  have c40 : (40 : Int32) ≤ nI k ↔ 40 ≤ (k : Int) := by rw [Int32.le_iff_toInt_le, nI_toInt (by omega), (by decide : (40 : Int32).toInt = 40)]
  by_cases l : k < 40
  · left
    refine ⟨(nI (k + 1), vp_updL g k 0), ?_, ⟨k + 1, by omega, rfl, fun i hi => ?_⟩, ?_⟩
    · show B_k_J7_fill_d0a16_0_1 0 (nI k) g = _
      unfold B_k_J7_fill_d0a16_0_1
      simp only [bnd]
      rw [if_neg (fun q => absurd (c40.mp q) (by omega)), nk, nI_1]
    · show vp_updL g k 0 i = 0
      by_cases y : i = k
      · rw [y, updL_at]
      · rw [updL_ne y]; exact hg i (by omega)
    · show (40 - (nI (k + 1)).toInt).toNat < (40 - (nI k).toInt).toNat
      rw [nI_toInt (by omega), nI_toInt (by omega)]; omega
  · right
    have e : k = 40 := by omega
    subst e
    refine ⟨g, ?_, hg⟩
    show B_k_J7_fill_d0a16_0_1 0 (nI 40) g = _
    unfold B_k_J7_fill_d0a16_0_1
    simp only [bnd]
    rw [if_pos (c40.mpr (by decide))]
theorem fl_1 : F_k_J7_fill_d0a16_1 = F_k_J7_fill_d0a16_0 := rfl
theorem fl_2 : F_k_J7_fill_d0a16_2 = F_k_J7_fill_d0a16_0 := rfl
theorem fl_3 : F_k_J7_fill_d0a16_3 = F_k_J7_fill_d0a16_0 := rfl
theorem nm_R {t m : Nat} {g37 g38 : Nat → Int32} {z39 : Nat → Int64} (ht : t < 4) (hm : m ≤ 40) : (fun (Z : Int32 × Int32 × (Nat → Int32) × (Nat → Int32) × (Nat → Int64)) => Z.1 = 0 ∧ Z.2.2.1 = g37 ∧ Z.2.2.2.1 = g38 ∧ (∀ i : Nat, i < m → Z.2.2.2.2 (40 * t + i) = 0) ∧ ∀ j : Nat, (j < 40 * t ∨ 40 * t + 40 ≤ j) → Z.2.2.2.2 j = z39 j) (W9 (L_k_X10_numbers_0_1 (nI t) (nI m) g37 g38) (0, z39)) := by
  refine W9_rule (fun x : Int32 × (Nat → Int64) => ∃ k : Nat, k ≤ m ∧ x.1 = nI k ∧ (∀ i : Nat, i < k → x.2 (40 * t + i) = 0) ∧ ∀ j : Nat, (j < 40 * t ∨ 40 * t + 40 ≤ j) → x.2 j = z39 j) (fun (Z : Int32 × Int32 × (Nat → Int32) × (Nat → Int32) × (Nat → Int64)) => Z.1 = 0 ∧ Z.2.2.1 = g37 ∧ Z.2.2.2.1 = g38 ∧ (∀ i : Nat, i < m → Z.2.2.2.2 (40 * t + i) = 0) ∧ ∀ j : Nat, (j < 40 * t ∨ 40 * t + 40 ≤ j) → Z.2.2.2.2 j = z39 j) (fun x => ((m : Int) - x.1.toInt).toNat) ?_ ⟨0, by omega, nI_0.symm, fun i hi => absurd hi (Nat.not_lt_zero _), fun _ _ => rfl⟩
  rintro ⟨u, g⟩ ⟨k, hk, hu, hg, go⟩
  have hu : u = nI k := hu
  subst hu
  have hg : ∀ i : Nat, i < k → g (40 * t + i) = 0 := hg
  have go : ∀ j : Nat, (j < 40 * t ∨ 40 * t + 40 ≤ j) → g j = z39 j := go
  by_cases l : k < m
  · left
    have ix : ((40 : Int32) * nI t + nI k).toNatClampNeg = 40 * t + k := ix40 ht (by omega)
    refine ⟨(nI (k + 1), vp_updL g (40 * t + k) 0), ?_, ⟨k + 1, by omega, rfl, fun i hi => ?_, fun j hj => ?_⟩, ?_⟩
    · show B_k_X10_numbers_0_1 (nI t) (nI m) g37 g38 (nI k) g = _
      unfold B_k_X10_numbers_0_1
      simp only [bnd]
      rw [if_neg (by rw [Int32.le_iff_toInt_le, nI_toInt (by omega), nI_toInt (by omega)]; omega), ix, nI_1]
    · show vp_updL g (40 * t + k) 0 (40 * t + i) = 0
      by_cases y : i = k
      · rw [y, updL_at]
      · rw [updL_ne (by omega)]; exact hg i (by omega)
    · show vp_updL g (40 * t + k) 0 j = z39 j
      rw [updL_ne (by omega)]; exact go j hj
    · show ((m : Int) - (nI (k + 1)).toInt).toNat < ((m : Int) - (nI k).toInt).toNat
      rw [nI_toInt (by omega), nI_toInt (by omega)]; omega
  · right
    have e : k = m := by omega
    subst e
    refine ⟨(0, 0, g37, g38, g), ?_, rfl, rfl, rfl, hg, go⟩
    show B_k_X10_numbers_0_1 (nI t) (nI k) g37 g38 (nI k) g = _
    unfold B_k_X10_numbers_0_1
    simp only [bnd]
    rw [if_pos (Int32.le_refl _)]
theorem R_numbers {a1 a2 a3 c0 s0 c1 s1 c2 s2 c3 s3 : Int32} {z37 z38 : Nat → Int32} {f0 f1 f2 f3 z39 : Nat → Int64} (tr : Tr4 c0 s0 f0 c1 s1 f1 c2 s2 f2 c3 s3 f3 z37 z38 z39) {C : Int32 × Int32 × Int32 × (Nat → Int64) × Int32 × Int32 × (Nat → Int64) × Int32 × Int32 × (Nat → Int64) × Int32 × Int32 × (Nat → Int64)} (hC9 : C = F_k_X9_numbers_0 a1 a2 a3 c0 s0 f0 c1 s1 f1 c2 s2 f2 c3 s3 f3) {Z : Int32 × Int32 × (Nat → Int32) × (Nat → Int32) × (Nat → Int64)} (hZ9 : Z = F_k_X10_numbers_0 a1 a2 a3 z37 z38 z39) : C.1 = Z.1 ∧ Tr4 C.2.1 C.2.2.1 C.2.2.2.1 C.2.2.2.2.1 C.2.2.2.2.2.1 C.2.2.2.2.2.2.1 C.2.2.2.2.2.2.2.1 C.2.2.2.2.2.2.2.2.1 C.2.2.2.2.2.2.2.2.2.1 C.2.2.2.2.2.2.2.2.2.2.1 C.2.2.2.2.2.2.2.2.2.2.2.1 C.2.2.2.2.2.2.2.2.2.2.2.2 Z.2.2.1 Z.2.2.2.1 Z.2.2.2.2 := by
  have z0 : (0 : Int64).toInt = 0 := by decide
  have z3 : (3 : Int64).toInt = 3 := by decide
  have z40 : (40 : Int64).toInt = 40 := by decide
  have y0 : (0 : Int32).toInt = 0 := by decide
  have y3 : (3 : Int32).toInt = 3 := by decide
  have y40 : (40 : Int32).toInt = 40 := by decide
  simp only [F_k_X9_numbers_0, F_k_X7_begin_0, F_k_X7_begin_1, F_k_X7_begin_2, F_k_X7_begin_3, fl_1, fl_2, fl_3, bnd] at hC9
  simp only [F_k_X10_numbers_0, bnd] at hZ9
  by_cases h1 : 0 ≤ a1.toInt ∧ a1.toInt ≤ 3
  · have it : F_k_X9_isTray_0 a1 = 2 := by
      rcases isT a1 with ⟨q1, q2⟩ | ⟨q1, q2⟩ | ⟨q1, q2⟩
      · omega
      · omega
      · exact q1
    rw [it, if_neg (by decide), if_neg (by decide)] at hC9
    rw [wiY9 (by rw [z0, z3, z64]; exact h1), if_neg (by decide)] at hZ9
    by_cases h2 : 0 ≤ a2.toInt ∧ a2.toInt ≤ 3
    · rw [if_neg (show ¬ a2 < 0 from fun q => by rw [Int32.lt_iff_toInt_lt, y0] at q; omega), if_pos (show a2 ≤ 3 from Int32.le_iff_toInt_le.mpr (by rw [y3]; omega))] at hC9
      rw [wiY9 (by rw [z0, z3, z64]; exact h2), if_neg (by decide)] at hZ9
      by_cases h3 : 0 ≤ a3.toInt ∧ a3.toInt ≤ 40
      · rw [if_neg (show ¬ a3 < 0 from fun q => by rw [Int32.lt_iff_toInt_lt, y0] at q; omega), if_pos (show a3 ≤ 40 from Int32.le_iff_toInt_le.mpr (by rw [y40]; omega))] at hC9
        rw [wiY9 (by rw [z0, z40, z64]; exact h3), if_neg (by decide)] at hZ9
        obtain ⟨t, ht⟩ : ∃ t : Nat, a1.toInt = (t : Int) := ⟨a1.toInt.toNat, by omega⟩
        have ea : a1 = nI t := i32 (by rw [ht, nI_toInt (by omega)])
        obtain ⟨m, hm⟩ : ∃ m : Nat, a3.toInt = (m : Int) := ⟨a3.toInt.toNat, by omega⟩
        have em : a3 = nI m := i32 (by rw [hm, nI_toInt (by omega)])
        have m40 : m ≤ 40 := by omega
        have t4 : t = 0 ∨ t = 1 ∨ t = 2 ∨ t = 3 := by omega
        rw [em] at hC9 hZ9
        rcases t4 with q | q | q | q
        · subst q
          rw [ea] at hC9 hZ9
          rw [if_pos (by decide)] at hC9
          have Q := nm_R (g37 := upd z37 (nI 0).toNatClampNeg a2) (g38 := upd z38 (nI 0).toNatClampNeg (nI m)) (z39 := z39) (t := 0) (by decide) m40
          rw [← hZ9, nI_clamp (by decide)] at Q
          obtain ⟨q1, q2, q3, q4, q5⟩ := Q
          subst hC9
          exact ⟨q1.symm, Or.inr ⟨m, m40, rfl, by rw [q3, upd_at], by rw [q2, upd_at], h2, fun i hi => (fl_0 _ i (by omega)).trans (q4 i hi).symm⟩, TrR_f (by rw [q2, upd_ne (by decide)]) (by rw [q3, upd_ne (by decide)]) (fun j hj => q5 _ (by omega)) tr.2.1, TrR_f (by rw [q2, upd_ne (by decide)]) (by rw [q3, upd_ne (by decide)]) (fun j hj => q5 _ (by omega)) tr.2.2.1, TrR_f (by rw [q2, upd_ne (by decide)]) (by rw [q3, upd_ne (by decide)]) (fun j hj => q5 _ (by omega)) tr.2.2.2⟩
        · subst q
          rw [ea] at hC9 hZ9
          rw [if_neg (by decide), if_pos (by decide)] at hC9
          have Q := nm_R (g37 := upd z37 (nI 1).toNatClampNeg a2) (g38 := upd z38 (nI 1).toNatClampNeg (nI m)) (z39 := z39) (t := 1) (by decide) m40
          rw [← hZ9, nI_clamp (by decide)] at Q
          obtain ⟨q1, q2, q3, q4, q5⟩ := Q
          subst hC9
          exact ⟨q1.symm, TrR_f (by rw [q2, upd_ne (by decide)]) (by rw [q3, upd_ne (by decide)]) (fun j hj => q5 _ (by omega)) tr.1, Or.inr ⟨m, m40, rfl, by rw [q3, upd_at], by rw [q2, upd_at], h2, fun i hi => (fl_0 _ i (by omega)).trans (q4 i hi).symm⟩, TrR_f (by rw [q2, upd_ne (by decide)]) (by rw [q3, upd_ne (by decide)]) (fun j hj => q5 _ (by omega)) tr.2.2.1, TrR_f (by rw [q2, upd_ne (by decide)]) (by rw [q3, upd_ne (by decide)]) (fun j hj => q5 _ (by omega)) tr.2.2.2⟩
        · subst q
          rw [ea] at hC9 hZ9
          rw [if_neg (by decide), if_neg (by decide), if_pos (by decide)] at hC9
          have Q := nm_R (g37 := upd z37 (nI 2).toNatClampNeg a2) (g38 := upd z38 (nI 2).toNatClampNeg (nI m)) (z39 := z39) (t := 2) (by decide) m40
          rw [← hZ9, nI_clamp (by decide)] at Q
          obtain ⟨q1, q2, q3, q4, q5⟩ := Q
          subst hC9
          exact ⟨q1.symm, TrR_f (by rw [q2, upd_ne (by decide)]) (by rw [q3, upd_ne (by decide)]) (fun j hj => q5 _ (by omega)) tr.1, TrR_f (by rw [q2, upd_ne (by decide)]) (by rw [q3, upd_ne (by decide)]) (fun j hj => q5 _ (by omega)) tr.2.1, Or.inr ⟨m, m40, rfl, by rw [q3, upd_at], by rw [q2, upd_at], h2, fun i hi => (fl_0 _ i (by omega)).trans (q4 i hi).symm⟩, TrR_f (by rw [q2, upd_ne (by decide)]) (by rw [q3, upd_ne (by decide)]) (fun j hj => q5 _ (by omega)) tr.2.2.2⟩
        · subst q
          rw [ea] at hC9 hZ9
          rw [if_neg (by decide), if_neg (by decide), if_neg (by decide)] at hC9
          have Q := nm_R (g37 := upd z37 (nI 3).toNatClampNeg a2) (g38 := upd z38 (nI 3).toNatClampNeg (nI m)) (z39 := z39) (t := 3) (by decide) m40
          rw [← hZ9, nI_clamp (by decide)] at Q
          obtain ⟨q1, q2, q3, q4, q5⟩ := Q
          subst hC9
          exact ⟨q1.symm, TrR_f (by rw [q2, upd_ne (by decide)]) (by rw [q3, upd_ne (by decide)]) (fun j hj => q5 _ (by omega)) tr.1, TrR_f (by rw [q2, upd_ne (by decide)]) (by rw [q3, upd_ne (by decide)]) (fun j hj => q5 _ (by omega)) tr.2.1, TrR_f (by rw [q2, upd_ne (by decide)]) (by rw [q3, upd_ne (by decide)]) (fun j hj => q5 _ (by omega)) tr.2.2.1, Or.inr ⟨m, m40, rfl, by rw [q3, upd_at], by rw [q2, upd_at], h2, fun i hi => (fl_0 _ i (by omega)).trans (q4 i hi).symm⟩⟩
      · rw [wiN9 (by rw [z0, z40, z64]; exact h3), if_pos rfl] at hZ9
        have e : C = (-3, c0, s0, f0, c1, s1, f1, c2, s2, f2, c3, s3, f3) := by
          by_cases q : a3 < 0
          · rw [if_pos q] at hC9; exact hC9
          · have q' : ¬ a3.toInt < 0 := fun z => q (Int32.lt_iff_toInt_lt.mpr (by rw [y0]; exact z))
            rw [if_neg q, if_neg (fun z => by rw [Int32.le_iff_toInt_le, y40] at z; omega)] at hC9
            exact hC9
        subst e hZ9
        exact ⟨rfl, tr⟩
    · rw [wiN9 (by rw [z0, z3, z64]; exact h2), if_pos rfl] at hZ9
      have e : C = (-2, c0, s0, f0, c1, s1, f1, c2, s2, f2, c3, s3, f3) := by
        by_cases q : a2 < 0
        · rw [if_pos q] at hC9; exact hC9
        · have q' : ¬ a2.toInt < 0 := fun z => q (Int32.lt_iff_toInt_lt.mpr (by rw [y0]; exact z))
          rw [if_neg q, if_neg (fun z => by rw [Int32.le_iff_toInt_le, y3] at z; omega)] at hC9
          exact hC9
      subst e hZ9
      exact ⟨rfl, tr⟩
  · rw [wiN9 (by rw [z0, z3, z64]; exact h1), if_pos rfl] at hZ9
    have e : C = (-2, c0, s0, f0, c1, s1, f1, c2, s2, f2, c3, s3, f3) := by
      rcases isT a1 with ⟨q1, q2⟩ | ⟨q1, q2⟩ | ⟨q1, q2⟩
      · rw [q1, if_pos rfl] at hC9; exact hC9
      · rw [q1, if_neg (by decide), if_pos rfl] at hC9; exact hC9
      · omega
    subst e hZ9
    exact ⟨rfl, tr⟩
theorem ct_0 (v : Int64) (s : Int32) : F_k_X7_cut_0 v s = F_k_X10_cut_0 v s := rfl
theorem ct_1 (v : Int64) (s : Int32) : F_k_X7_cut_1 v s = F_k_X10_cut_0 v s := rfl
theorem ct_2 (v : Int64) (s : Int32) : F_k_X7_cut_2 v s = F_k_X10_cut_0 v s := rfl
theorem ct_3 (v : Int64) (s : Int32) : F_k_X7_cut_3 v s = F_k_X10_cut_0 v s := rfl
theorem R_write {a1 a2 c0 s0 c1 s1 c2 s2 c3 s3 : Int32} {k3 : Int64} {z37 z38 : Nat → Int32} {f0 f1 f2 f3 z39 : Nat → Int64} (tr : Tr4 c0 s0 f0 c1 s1 f1 c2 s2 f2 c3 s3 f3 z37 z38 z39) {C : Int64 × (Nat → Int64) × (Nat → Int64) × (Nat → Int64) × (Nat → Int64)} (hC9 : C = F_k_X9_write_0 a1 a2 k3 c0 s0 f0 c1 s1 f1 c2 s2 f2 c3 s3 f3) {Z : Int64 × Int32 × (Nat → Int64)} (hZ9 : Z = F_k_X10_write_0 a1 a2 k3 z37 z38 z39) : C.1 = Z.1 ∧ Tr4 c0 s0 C.2.1 c1 s1 C.2.2.1 c2 s2 C.2.2.2.1 c3 s3 C.2.2.2.2 z37 z38 Z.2.2 := by
  have z0 : (0 : Int64).toInt = 0 := by decide
  have y0 : (0 : Int32).toInt = 0 := by decide
  simp only [F_k_X9_write_0, bnd, ct_0, ct_1, ct_2, ct_3] at hC9
  simp only [F_k_X10_write_0, bnd, noT] at hZ9
  by_cases h1 : 0 ≤ a1.toInt ∧ a1.toInt ≤ 3
  · have it : F_k_X9_isTray_0 a1 = 2 := by
      rcases isT a1 with ⟨q1, q2⟩ | ⟨q1, q2⟩ | ⟨q1, q2⟩
      · omega
      · omega
      · exact q1
    rw [it, if_neg (by decide), if_neg (by decide)] at hC9
    rw [if_pos h1] at hZ9
    obtain ⟨t, ht⟩ : ∃ t : Nat, a1.toInt = (t : Int) := ⟨a1.toInt.toNat, by omega⟩
    have ea : a1 = nI t := i32 (by rw [ht, nI_toInt (by omega)])
    have t4 : t = 0 ∨ t = 1 ∨ t = 2 ∨ t = 3 := by omega
    rcases t4 with q | q | q | q
    · subst q
      rw [ea] at hC9 hZ9
      rw [if_pos (by decide)] at hC9
      rw [nI_clamp (by decide)] at hZ9
      rcases id tr.1 with ⟨e1, e2⟩ | ⟨m, m40, e1, e2, e3, e4, e5⟩
      · rw [e1, if_neg (show ¬ F_k_X7_isMissing_0 (-1) = 0 from fun q => absurd (ms_m.symm.trans q) (by decide))] at hC9
        rw [e2, if_pos rfl, if_neg (by decide)] at hZ9
        subst hC9 hZ9
        exact ⟨(by decide : (-6 : Int64) = (-6 : Int32).toInt64), tr⟩
      · have n37 : ¬ z37 0 = -1 := fun q => by
          rw [e3] at q; rw [q] at e4; exact absurd e4.1 (by decide)
        rw [e1, if_pos (show F_k_X7_isMissing_0 (nI m) = 0 from ms_n m m40)] at hC9
        rw [if_neg n37, if_pos rfl, e2] at hZ9
        have sb : (nI m - 1).toInt64.toInt = (m : Int) - 1 := by rw [sb1 (by rw [nI_toInt (by omega)]; omega), nI_toInt (by omega)]
        by_cases h2 : 0 ≤ a2.toInt ∧ a2.toInt < (m : Int)
        · obtain ⟨k, hk⟩ : ∃ k : Nat, a2.toInt = (k : Int) := ⟨a2.toInt.toNat, by omega⟩
          have ek : a2 = nI k := i32 (by rw [hk, nI_toInt (by omega)])
          have nk : (nI k).toNatClampNeg = k := nI_clamp (by omega)
          rw [if_neg (show ¬ a2 < 0 from fun q => by rw [Int32.lt_iff_toInt_lt, y0] at q; omega), if_pos (show a2 < nI m from Int32.lt_iff_toInt_lt.mpr (by rw [nI_toInt (by omega)]; omega)), ek, nk, updL_at] at hC9
          rw [wiY9 (by rw [z0, z64, sb]; omega), if_neg (by decide), ek, ix40 (by decide) (by omega), e3] at hZ9
          subst hC9 hZ9
          refine ⟨rfl, Or.inr ⟨m, m40, e1, e2, e3, e4, fun i hi => ?_⟩, TrR_f rfl rfl (fun j hj => updL_ne (by omega)) tr.2.1, TrR_f rfl rfl (fun j hj => updL_ne (by omega)) tr.2.2.1, TrR_f rfl rfl (fun j hj => updL_ne (by omega)) tr.2.2.2⟩
          show vp_updL f0 k _ i = vp_updL z39 (40 * 0 + k) _ (40 * 0 + i)
          by_cases y : i = k
          · rw [y, updL_at, updL_at]
          · rw [updL_ne y, updL_ne (by omega)]; exact e5 i hi
        · rw [wiN9 (by rw [z0, z64, sb]; omega), if_pos rfl] at hZ9
          have e : C = (-7, f0, f1, f2, f3) := by
            by_cases q : a2 < 0
            · rw [if_pos q] at hC9; exact hC9
            · have q' : ¬ a2.toInt < 0 := fun z => q (Int32.lt_iff_toInt_lt.mpr (by rw [y0]; exact z))
              rw [if_neg q, if_neg (fun z => by rw [Int32.lt_iff_toInt_lt, nI_toInt (by omega)] at z; omega)] at hC9
              exact hC9
          subst e hZ9
          exact ⟨rfl, tr⟩
    · subst q
      rw [ea] at hC9 hZ9
      rw [if_neg (by decide), if_pos (by decide)] at hC9
      rw [nI_clamp (by decide)] at hZ9
      rcases id tr.2.1 with ⟨e1, e2⟩ | ⟨m, m40, e1, e2, e3, e4, e5⟩
      · rw [e1, if_neg (show ¬ F_k_X7_isMissing_1 (-1) = 0 from fun q => absurd (ms_m.symm.trans q) (by decide))] at hC9
        rw [e2, if_pos rfl, if_neg (by decide)] at hZ9
        subst hC9 hZ9
        exact ⟨(by decide : (-6 : Int64) = (-6 : Int32).toInt64), tr⟩
      · have n37 : ¬ z37 1 = -1 := fun q => by
          rw [e3] at q; rw [q] at e4; exact absurd e4.1 (by decide)
        rw [e1, if_pos (show F_k_X7_isMissing_1 (nI m) = 0 from ms_n m m40)] at hC9
        rw [if_neg n37, if_pos rfl, e2] at hZ9
        have sb : (nI m - 1).toInt64.toInt = (m : Int) - 1 := by rw [sb1 (by rw [nI_toInt (by omega)]; omega), nI_toInt (by omega)]
        by_cases h2 : 0 ≤ a2.toInt ∧ a2.toInt < (m : Int)
        · obtain ⟨k, hk⟩ : ∃ k : Nat, a2.toInt = (k : Int) := ⟨a2.toInt.toNat, by omega⟩
          have ek : a2 = nI k := i32 (by rw [hk, nI_toInt (by omega)])
          have nk : (nI k).toNatClampNeg = k := nI_clamp (by omega)
          rw [if_neg (show ¬ a2 < 0 from fun q => by rw [Int32.lt_iff_toInt_lt, y0] at q; omega), if_pos (show a2 < nI m from Int32.lt_iff_toInt_lt.mpr (by rw [nI_toInt (by omega)]; omega)), ek, nk, updL_at] at hC9
          rw [wiY9 (by rw [z0, z64, sb]; omega), if_neg (by decide), ek, ix40 (by decide) (by omega), e3] at hZ9
          subst hC9 hZ9
          refine ⟨rfl, TrR_f rfl rfl (fun j hj => updL_ne (by omega)) tr.1, Or.inr ⟨m, m40, e1, e2, e3, e4, fun i hi => ?_⟩, TrR_f rfl rfl (fun j hj => updL_ne (by omega)) tr.2.2.1, TrR_f rfl rfl (fun j hj => updL_ne (by omega)) tr.2.2.2⟩
          show vp_updL f1 k _ i = vp_updL z39 (40 * 1 + k) _ (40 * 1 + i)
          by_cases y : i = k
          · rw [y, updL_at, updL_at]
          · rw [updL_ne y, updL_ne (by omega)]; exact e5 i hi
        · rw [wiN9 (by rw [z0, z64, sb]; omega), if_pos rfl] at hZ9
          have e : C = (-7, f0, f1, f2, f3) := by
            by_cases q : a2 < 0
            · rw [if_pos q] at hC9; exact hC9
            · have q' : ¬ a2.toInt < 0 := fun z => q (Int32.lt_iff_toInt_lt.mpr (by rw [y0]; exact z))
              rw [if_neg q, if_neg (fun z => by rw [Int32.lt_iff_toInt_lt, nI_toInt (by omega)] at z; omega)] at hC9
              exact hC9
          subst e hZ9
          exact ⟨rfl, tr⟩
    · subst q
      rw [ea] at hC9 hZ9
      rw [if_neg (by decide), if_neg (by decide), if_pos (by decide)] at hC9
      rw [nI_clamp (by decide)] at hZ9
      rcases id tr.2.2.1 with ⟨e1, e2⟩ | ⟨m, m40, e1, e2, e3, e4, e5⟩
      · rw [e1, if_neg (show ¬ F_k_X7_isMissing_2 (-1) = 0 from fun q => absurd (ms_m.symm.trans q) (by decide))] at hC9
        rw [e2, if_pos rfl, if_neg (by decide)] at hZ9
        subst hC9 hZ9
        exact ⟨(by decide : (-6 : Int64) = (-6 : Int32).toInt64), tr⟩
      · have n37 : ¬ z37 2 = -1 := fun q => by
          rw [e3] at q; rw [q] at e4; exact absurd e4.1 (by decide)
        rw [e1, if_pos (show F_k_X7_isMissing_2 (nI m) = 0 from ms_n m m40)] at hC9
        rw [if_neg n37, if_pos rfl, e2] at hZ9
        have sb : (nI m - 1).toInt64.toInt = (m : Int) - 1 := by rw [sb1 (by rw [nI_toInt (by omega)]; omega), nI_toInt (by omega)]
        by_cases h2 : 0 ≤ a2.toInt ∧ a2.toInt < (m : Int)
        · obtain ⟨k, hk⟩ : ∃ k : Nat, a2.toInt = (k : Int) := ⟨a2.toInt.toNat, by omega⟩
          have ek : a2 = nI k := i32 (by rw [hk, nI_toInt (by omega)])
          have nk : (nI k).toNatClampNeg = k := nI_clamp (by omega)
          rw [if_neg (show ¬ a2 < 0 from fun q => by rw [Int32.lt_iff_toInt_lt, y0] at q; omega), if_pos (show a2 < nI m from Int32.lt_iff_toInt_lt.mpr (by rw [nI_toInt (by omega)]; omega)), ek, nk, updL_at] at hC9
          rw [wiY9 (by rw [z0, z64, sb]; omega), if_neg (by decide), ek, ix40 (by decide) (by omega), e3] at hZ9
          subst hC9 hZ9
          refine ⟨rfl, TrR_f rfl rfl (fun j hj => updL_ne (by omega)) tr.1, TrR_f rfl rfl (fun j hj => updL_ne (by omega)) tr.2.1, Or.inr ⟨m, m40, e1, e2, e3, e4, fun i hi => ?_⟩, TrR_f rfl rfl (fun j hj => updL_ne (by omega)) tr.2.2.2⟩
          show vp_updL f2 k _ i = vp_updL z39 (40 * 2 + k) _ (40 * 2 + i)
          by_cases y : i = k
          · rw [y, updL_at, updL_at]
          · rw [updL_ne y, updL_ne (by omega)]; exact e5 i hi
        · rw [wiN9 (by rw [z0, z64, sb]; omega), if_pos rfl] at hZ9
          have e : C = (-7, f0, f1, f2, f3) := by
            by_cases q : a2 < 0
            · rw [if_pos q] at hC9; exact hC9
            · have q' : ¬ a2.toInt < 0 := fun z => q (Int32.lt_iff_toInt_lt.mpr (by rw [y0]; exact z))
              rw [if_neg q, if_neg (fun z => by rw [Int32.lt_iff_toInt_lt, nI_toInt (by omega)] at z; omega)] at hC9
              exact hC9
          subst e hZ9
          exact ⟨rfl, tr⟩
    · subst q
      rw [ea] at hC9 hZ9
      rw [if_neg (by decide), if_neg (by decide), if_neg (by decide)] at hC9
      rw [nI_clamp (by decide)] at hZ9
      rcases id tr.2.2.2 with ⟨e1, e2⟩ | ⟨m, m40, e1, e2, e3, e4, e5⟩
      · rw [e1, if_neg (show ¬ F_k_X7_isMissing_3 (-1) = 0 from fun q => absurd (ms_m.symm.trans q) (by decide))] at hC9
        rw [e2, if_pos rfl, if_neg (by decide)] at hZ9
        subst hC9 hZ9
        exact ⟨(by decide : (-6 : Int64) = (-6 : Int32).toInt64), tr⟩
      · have n37 : ¬ z37 3 = -1 := fun q => by
          rw [e3] at q; rw [q] at e4; exact absurd e4.1 (by decide)
        rw [e1, if_pos (show F_k_X7_isMissing_3 (nI m) = 0 from ms_n m m40)] at hC9
        rw [if_neg n37, if_pos rfl, e2] at hZ9
        have sb : (nI m - 1).toInt64.toInt = (m : Int) - 1 := by rw [sb1 (by rw [nI_toInt (by omega)]; omega), nI_toInt (by omega)]
        by_cases h2 : 0 ≤ a2.toInt ∧ a2.toInt < (m : Int)
        · obtain ⟨k, hk⟩ : ∃ k : Nat, a2.toInt = (k : Int) := ⟨a2.toInt.toNat, by omega⟩
          have ek : a2 = nI k := i32 (by rw [hk, nI_toInt (by omega)])
          have nk : (nI k).toNatClampNeg = k := nI_clamp (by omega)
          rw [if_neg (show ¬ a2 < 0 from fun q => by rw [Int32.lt_iff_toInt_lt, y0] at q; omega), if_pos (show a2 < nI m from Int32.lt_iff_toInt_lt.mpr (by rw [nI_toInt (by omega)]; omega)), ek, nk, updL_at] at hC9
          rw [wiY9 (by rw [z0, z64, sb]; omega), if_neg (by decide), ek, ix40 (by decide) (by omega), e3] at hZ9
          subst hC9 hZ9
          refine ⟨rfl, TrR_f rfl rfl (fun j hj => updL_ne (by omega)) tr.1, TrR_f rfl rfl (fun j hj => updL_ne (by omega)) tr.2.1, TrR_f rfl rfl (fun j hj => updL_ne (by omega)) tr.2.2.1, Or.inr ⟨m, m40, e1, e2, e3, e4, fun i hi => ?_⟩⟩
          show vp_updL f3 k _ i = vp_updL z39 (40 * 3 + k) _ (40 * 3 + i)
          by_cases y : i = k
          · rw [y, updL_at, updL_at]
          · rw [updL_ne y, updL_ne (by omega)]; exact e5 i hi
        · rw [wiN9 (by rw [z0, z64, sb]; omega), if_pos rfl] at hZ9
          have e : C = (-7, f0, f1, f2, f3) := by
            by_cases q : a2 < 0
            · rw [if_pos q] at hC9; exact hC9
            · have q' : ¬ a2.toInt < 0 := fun z => q (Int32.lt_iff_toInt_lt.mpr (by rw [y0]; exact z))
              rw [if_neg q, if_neg (fun z => by rw [Int32.lt_iff_toInt_lt, nI_toInt (by omega)] at z; omega)] at hC9
              exact hC9
          subst e hZ9
          exact ⟨rfl, tr⟩
  · rw [if_neg h1, if_neg (by decide)] at hZ9
    have e : C = (-2, f0, f1, f2, f3) := by
      rcases isT a1 with ⟨q1, q2⟩ | ⟨q1, q2⟩ | ⟨q1, q2⟩
      · rw [q1, if_pos rfl] at hC9; exact hC9
      · rw [q1, if_neg (by decide), if_pos rfl] at hC9; exact hC9
      · omega
    subst e hZ9
    exact ⟨(by decide : (-2 : Int64) = (-2 : Int32).toInt64), tr⟩

def sh9A (A : Nat → Int32) (o : Nat) : Nat → Int32 := fun j => A (o + j)
def ImR (A : Nat → Int32) (o : Nat) (hz mk s w g ln hn vn rn : Int32) (fe ga ne rf rt ca st : Nat → Int32) (sc tb te ab ae : Int32) : Prop := (hz = 0 ∧ mk = 0) ∨ (hz = 1 ∧ mk = 1 ∧ CoR (sh9A A o) ln hn vn rn fe ga ne rf rt ca st sc tb te ab ae ∧ SnR (sh9A A o 1).toNatClampNeg s w g (sh9A A o) 46)
theorem ImR_f {A A' : Nat → Int32} {o : Nat} {hz hz' mk s w g ln hn vn rn : Int32} {fe ga ne rf rt ca st : Nat → Int32} {sc tb te ab ae : Int32} (e : hz' = hz) (h : ∀ j : Nat, j < 1025 → A' (o + j) = A (o + j)) (t : RowT (sh9A A o)) (r : ImR A o hz mk s w g ln hn vn rn fe ga ne rf rt ca st sc tb te ab ae) : ImR A' o hz' mk s w g ln hn vn rn fe ga ne rf rt ca st sc tb te ab ae := by
  rcases r with ⟨a, b⟩ | ⟨a, b, c, d⟩
  · exact Or.inl ⟨e.trans a, b⟩
  · refine Or.inr ⟨e.trans a, b, CoR_cg (fun j _ hj => h j hj) t c, ?_⟩
    have e1 : sh9A A' o 1 = sh9A A o 1 := h 1 (by decide)
    rw [e1]
    exact SnR_cg d (fun k hk => h _ (by omega))
theorem RowT_s {A : Nat → Int32} {o i : Nat} (ho : o = 1025 * i) (h : ivT tA A) (w : WF A o) : RowT (sh9A A o) := by
  refine ⟨fun j hj => ?_, fun law hl => ?_⟩
  · have e : tA j = tA (o + j) := tA_mod (by omega)
    rw [e]; exact h (o + j)
  · have q := w law hl
    have e6 : o + (0 + 6 + law) = o + 6 + law := by omega
    have e8 : o + (0 + 8 + law) = o + 8 + law := by omega
    show (A (o + (0 + 6 + law))).toNatClampNeg + (A (o + (0 + 8 + law))).toNatClampNeg ≤ 900 ∧ Seg (sh9A A o) (0 + 125 + (A (o + (0 + 6 + law))).toNatClampNeg) (A (o + (0 + 8 + law))).toNatClampNeg
    rw [e6, e8]
    refine ⟨q.1, fun k hk => ?_⟩
    have s := q.2 k hk
    have ix : ∀ i : Nat, sh9A A o (0 + 125 + (A (o + 6 + law)).toNatClampNeg + i) = A (o + 125 + (A (o + 6 + law)).toNatClampNeg + i) := fun i => by unfold sh9A; congr 1; omega
    have dpe : ∀ i : Nat, dp (sh9A A o) (0 + 125 + (A (o + 6 + law)).toNatClampNeg) i = dp A (o + 125 + (A (o + 6 + law)).toNatClampNeg) i := fun i => by
      induction i with
      | zero => rfl
      | succ i ih => simp only [dp]; rw [ih, ix i]
    rw [ix k, dpe k]; exact s
theorem im_Z0 (A hz : Nat → Int32) : (fun (Z : Int32 × Int32 × (Nat → Int32) × (Nat → Int32)) => Z.1 = 0 ∧ Z.2.2.2 = upd hz 0 1 ∧ (∀ j : Nat, j < 1025 → Z.2.2.1 (1025 + j) = A j) ∧ ∀ j : Nat, (j < 1025 ∨ 2050 ≤ j) → Z.2.2.1 j = A j) (W9 (L_k_X10_image_0_1 hz) (0, A)) := by
  refine W9_rule (fun x : Int32 × (Nat → Int32) => ∃ k : Nat, k ≤ 1025 ∧ x.1 = nI k ∧ (∀ j : Nat, j < k → x.2 (1025 + j) = A j) ∧ ∀ j : Nat, (j < 1025 ∨ 2050 ≤ j) → x.2 j = A j) (fun (Z : Int32 × Int32 × (Nat → Int32) × (Nat → Int32)) => Z.1 = 0 ∧ Z.2.2.2 = upd hz 0 1 ∧ (∀ j : Nat, j < 1025 → Z.2.2.1 (1025 + j) = A j) ∧ ∀ j : Nat, (j < 1025 ∨ 2050 ≤ j) → Z.2.2.1 j = A j) (fun x => (1025 - x.1.toInt).toNat) ?_ ⟨0, by decide, nI_0.symm, fun j hj => absurd hj (Nat.not_lt_zero _), fun _ _ => rfl⟩
  rintro ⟨u, g⟩ ⟨k, hk, hu, h1, h2⟩
  have hu : u = nI k := hu
  subst hu
  have h1 : ∀ j : Nat, j < k → g (1025 + j) = A j := h1
  have h2 : ∀ j : Nat, (j < 1025 ∨ 2050 ≤ j) → g j = A j := h2
  have nk : (nI k).toNatClampNeg = k := nI_clamp (by omega)
  have cc : (1025 : Int32) ≤ nI k ↔ 1025 ≤ (k : Int) := by rw [Int32.le_iff_toInt_le, nI_toInt (by omega), (by decide : (1025 : Int32).toInt = 1025)]
  by_cases l : k < 1025
  · left
    refine ⟨(nI (k + 1), upd g (1025 + k) (g k)), ?_, ⟨k + 1, by omega, rfl, fun j hj => ?_, fun j hj => ?_⟩, ?_⟩
    · show B_k_X10_image_0_1 hz (nI k) g = _
      unfold B_k_X10_image_0_1
      simp only [bnd]
      rw [if_neg (fun q => absurd (cc.mp q) (by omega)), nk, ixp 1025 1025 (by decide) (by decide) (nI_toInt (by omega)) (by omega), nI_1]
    · show upd g (1025 + k) (g k) (1025 + j) = A j
      by_cases y : j = k
      · rw [y, upd_at]; exact h2 k (by omega)
      · rw [upd_ne (by omega)]; exact h1 j (by omega)
    · show upd g (1025 + k) (g k) j = A j
      rw [upd_ne (by omega)]; exact h2 j hj
    · show (1025 - (nI (k + 1)).toInt).toNat < (1025 - (nI k).toInt).toNat
      rw [nI_toInt (by omega), nI_toInt (by omega)]; omega
  · right
    have e : k = 1025 := by omega
    subst e
    refine ⟨(0, 0, g, upd hz 0 1), ?_, rfl, rfl, h1, h2⟩
    show B_k_X10_image_0_1 hz (nI 1025) g = _
    unfold B_k_X10_image_0_1
    simp only [bnd, nz0, nz1]
    rw [if_pos (cc.mpr (by decide))]
    rfl
theorem re_Z0 (A : Nat → Int32) : (fun (Z : Int32 × Int32 × (Nat → Int32)) => Z.1 = 0 ∧ Z.2.2 53 = 0 ∧ (∀ j : Nat, j < 1025 → j ≠ 53 → Z.2.2 j = A (1025 + j)) ∧ ∀ j : Nat, 1025 ≤ j → Z.2.2 j = A j) (W9 L_k_X10_restore_0_1 (0, A)) := by
  refine W9_rule (fun x : Int32 × (Nat → Int32) => ∃ k : Nat, k ≤ 1025 ∧ x.1 = nI k ∧ (∀ j : Nat, j < k → x.2 j = A (1025 + j)) ∧ ∀ j : Nat, 1025 ≤ j → x.2 j = A j) (fun (Z : Int32 × Int32 × (Nat → Int32)) => Z.1 = 0 ∧ Z.2.2 53 = 0 ∧ (∀ j : Nat, j < 1025 → j ≠ 53 → Z.2.2 j = A (1025 + j)) ∧ ∀ j : Nat, 1025 ≤ j → Z.2.2 j = A j) (fun x => (1025 - x.1.toInt).toNat) ?_ ⟨0, by decide, nI_0.symm, fun j hj => absurd hj (Nat.not_lt_zero _), fun _ _ => rfl⟩
  rintro ⟨u, g⟩ ⟨k, hk, hu, h1, h2⟩
  have hu : u = nI k := hu
  subst hu
  have h1 : ∀ j : Nat, j < k → g j = A (1025 + j) := h1
  have h2 : ∀ j : Nat, 1025 ≤ j → g j = A j := h2
  have nk : (nI k).toNatClampNeg = k := nI_clamp (by omega)
  have cc : (1025 : Int32) ≤ nI k ↔ 1025 ≤ (k : Int) := by rw [Int32.le_iff_toInt_le, nI_toInt (by omega), (by decide : (1025 : Int32).toInt = 1025)]
  by_cases l : k < 1025
  · left
    refine ⟨(nI (k + 1), upd g k (g (1025 + k))), ?_, ⟨k + 1, by omega, rfl, fun j hj => ?_, fun j hj => ?_⟩, ?_⟩
    · show B_k_X10_restore_0_1 (nI k) g = _
      unfold B_k_X10_restore_0_1
      simp only [bnd]
      rw [if_neg (fun q => absurd (cc.mp q) (by omega)), nk, ixp 1025 1025 (by decide) (by decide) (nI_toInt (by omega)) (by omega), nI_1]
    · show upd g k (g (1025 + k)) j = A (1025 + j)
      by_cases y : j = k
      · rw [y, upd_at]; exact h2 _ (by omega)
      · rw [upd_ne y]; exact h1 j (by omega)
    · show upd g k (g (1025 + k)) j = A j
      rw [upd_ne (by omega)]; exact h2 j hj
    · show (1025 - (nI (k + 1)).toInt).toNat < (1025 - (nI k).toInt).toNat
      rw [nI_toInt (by omega), nI_toInt (by omega)]; omega
  · right
    have e : k = 1025 := by omega
    subst e
    refine ⟨(0, 0, upd g 53 0), ?_, rfl, (show upd g 53 0 53 = 0 from upd_at), fun j hj h5 => ?_, fun j hj => ?_⟩
    · show B_k_X10_restore_0_1 (nI 1025) g = _
      unfold B_k_X10_restore_0_1
      simp only [bnd, nz53]
      rw [if_pos (cc.mpr (by decide))]
    · show upd g 53 0 j = _
      rw [upd_ne h5]; exact h1 j hj
    · show upd g 53 0 j = _
      rw [upd_ne (by omega)]; exact h2 j hj
theorem im_Z1 (A hz : Nat → Int32) : (fun (Z : Int32 × Int32 × (Nat → Int32) × (Nat → Int32)) => Z.1 = 0 ∧ Z.2.2.2 = upd hz 1 1 ∧ (∀ j : Nat, j < 1025 → Z.2.2.1 (2050 + j) = A j) ∧ ∀ j : Nat, (j < 2050 ∨ 3075 ≤ j) → Z.2.2.1 j = A j) (W9 (L_k_X10_image_0_2 hz) (0, A)) := by
  refine W9_rule (fun x : Int32 × (Nat → Int32) => ∃ k : Nat, k ≤ 1025 ∧ x.1 = nI k ∧ (∀ j : Nat, j < k → x.2 (2050 + j) = A j) ∧ ∀ j : Nat, (j < 2050 ∨ 3075 ≤ j) → x.2 j = A j) (fun (Z : Int32 × Int32 × (Nat → Int32) × (Nat → Int32)) => Z.1 = 0 ∧ Z.2.2.2 = upd hz 1 1 ∧ (∀ j : Nat, j < 1025 → Z.2.2.1 (2050 + j) = A j) ∧ ∀ j : Nat, (j < 2050 ∨ 3075 ≤ j) → Z.2.2.1 j = A j) (fun x => (1025 - x.1.toInt).toNat) ?_ ⟨0, by decide, nI_0.symm, fun j hj => absurd hj (Nat.not_lt_zero _), fun _ _ => rfl⟩
  rintro ⟨u, g⟩ ⟨k, hk, hu, h1, h2⟩
  have hu : u = nI k := hu
  subst hu
  have h1 : ∀ j : Nat, j < k → g (2050 + j) = A j := h1
  have h2 : ∀ j : Nat, (j < 2050 ∨ 3075 ≤ j) → g j = A j := h2
  have nk : (nI k).toNatClampNeg = k := nI_clamp (by omega)
  have cc : (1025 : Int32) ≤ nI k ↔ 1025 ≤ (k : Int) := by rw [Int32.le_iff_toInt_le, nI_toInt (by omega), (by decide : (1025 : Int32).toInt = 1025)]
  by_cases l : k < 1025
  · left
    refine ⟨(nI (k + 1), upd g (2050 + k) (g k)), ?_, ⟨k + 1, by omega, rfl, fun j hj => ?_, fun j hj => ?_⟩, ?_⟩
    · show B_k_X10_image_0_2 hz (nI k) g = _
      unfold B_k_X10_image_0_2
      simp only [bnd]
      rw [if_neg (fun q => absurd (cc.mp q) (by omega)), nk, ixp 2050 2050 (by decide) (by decide) (nI_toInt (by omega)) (by omega), nI_1]
    · show upd g (2050 + k) (g k) (2050 + j) = A j
      by_cases y : j = k
      · rw [y, upd_at]; exact h2 k (by omega)
      · rw [upd_ne (by omega)]; exact h1 j (by omega)
    · show upd g (2050 + k) (g k) j = A j
      rw [upd_ne (by omega)]; exact h2 j hj
    · show (1025 - (nI (k + 1)).toInt).toNat < (1025 - (nI k).toInt).toNat
      rw [nI_toInt (by omega), nI_toInt (by omega)]; omega
  · right
    have e : k = 1025 := by omega
    subst e
    refine ⟨(0, 0, g, upd hz 1 1), ?_, rfl, rfl, h1, h2⟩
    show B_k_X10_image_0_2 hz (nI 1025) g = _
    unfold B_k_X10_image_0_2
    simp only [bnd, nz0, nz1]
    rw [if_pos (cc.mpr (by decide))]
    rfl
theorem re_Z1 (A : Nat → Int32) : (fun (Z : Int32 × Int32 × (Nat → Int32)) => Z.1 = 0 ∧ Z.2.2 53 = 0 ∧ (∀ j : Nat, j < 1025 → j ≠ 53 → Z.2.2 j = A (2050 + j)) ∧ ∀ j : Nat, 1025 ≤ j → Z.2.2 j = A j) (W9 L_k_X10_restore_0_2 (0, A)) := by
  refine W9_rule (fun x : Int32 × (Nat → Int32) => ∃ k : Nat, k ≤ 1025 ∧ x.1 = nI k ∧ (∀ j : Nat, j < k → x.2 j = A (2050 + j)) ∧ ∀ j : Nat, 1025 ≤ j → x.2 j = A j) (fun (Z : Int32 × Int32 × (Nat → Int32)) => Z.1 = 0 ∧ Z.2.2 53 = 0 ∧ (∀ j : Nat, j < 1025 → j ≠ 53 → Z.2.2 j = A (2050 + j)) ∧ ∀ j : Nat, 1025 ≤ j → Z.2.2 j = A j) (fun x => (1025 - x.1.toInt).toNat) ?_ ⟨0, by decide, nI_0.symm, fun j hj => absurd hj (Nat.not_lt_zero _), fun _ _ => rfl⟩
  rintro ⟨u, g⟩ ⟨k, hk, hu, h1, h2⟩
  have hu : u = nI k := hu
  subst hu
  have h1 : ∀ j : Nat, j < k → g j = A (2050 + j) := h1
  have h2 : ∀ j : Nat, 1025 ≤ j → g j = A j := h2
  have nk : (nI k).toNatClampNeg = k := nI_clamp (by omega)
  have cc : (1025 : Int32) ≤ nI k ↔ 1025 ≤ (k : Int) := by rw [Int32.le_iff_toInt_le, nI_toInt (by omega), (by decide : (1025 : Int32).toInt = 1025)]
  by_cases l : k < 1025
  · left
    refine ⟨(nI (k + 1), upd g k (g (2050 + k))), ?_, ⟨k + 1, by omega, rfl, fun j hj => ?_, fun j hj => ?_⟩, ?_⟩
    · show B_k_X10_restore_0_2 (nI k) g = _
      unfold B_k_X10_restore_0_2
      simp only [bnd]
      rw [if_neg (fun q => absurd (cc.mp q) (by omega)), nk, ixp 2050 2050 (by decide) (by decide) (nI_toInt (by omega)) (by omega), nI_1]
    · show upd g k (g (2050 + k)) j = A (2050 + j)
      by_cases y : j = k
      · rw [y, upd_at]; exact h2 _ (by omega)
      · rw [upd_ne y]; exact h1 j (by omega)
    · show upd g k (g (2050 + k)) j = A j
      rw [upd_ne (by omega)]; exact h2 j hj
    · show (1025 - (nI (k + 1)).toInt).toNat < (1025 - (nI k).toInt).toNat
      rw [nI_toInt (by omega), nI_toInt (by omega)]; omega
  · right
    have e : k = 1025 := by omega
    subst e
    refine ⟨(0, 0, upd g 53 0), ?_, rfl, (show upd g 53 0 53 = 0 from upd_at), fun j hj h5 => ?_, fun j hj => ?_⟩
    · show B_k_X10_restore_0_2 (nI 1025) g = _
      unfold B_k_X10_restore_0_2
      simp only [bnd, nz53]
      rw [if_pos (cc.mpr (by decide))]
    · show upd g 53 0 j = _
      rw [upd_ne h5]; exact h1 j hj
    · show upd g 53 0 j = _
      rw [upd_ne (by omega)]; exact h2 j hj
