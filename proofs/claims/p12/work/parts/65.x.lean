-- who took, how high all are together
theorem tb_F (s : Int32) : F_k_X9_tookBits_0 s = tbS s 4 := by
  unfold F_k_X9_tookBits_0
  refine W9_rule (fun x : Int32 × Int32 => ∃ k : Nat, k ≤ 4 ∧ x.1 = nI k ∧ x.2 = tbS s k) (fun r => r = tbS s 4) (fun x => (4 - x.1.toInt).toNat) ?_ ⟨0, by decide, nI_0.symm, rfl⟩
  rintro ⟨u, v⟩ ⟨k, hk, hu, hv⟩
  have hu : u = nI k := hu
  have hv : v = tbS s k := hv
  subst hu hv
  by_cases h : k < 4
  · left
    refine ⟨(nI (k + 1), tbS s (k + 1)), ?_, ⟨k + 1, by omega, rfl, rfl⟩, ?_⟩
    · show B_k_X9_tookBits_0_1 s (nI k) (tbS s k) = _
      unfold B_k_X9_tookBits_0_1
      simp only [bnd]
      rw [if_neg (by rw [Int32.le_iff_toInt_le, nI_toInt (by omega), (by decide : (4 : Int32).toInt = 4)]; omega), tkI, nI_clamp (by omega), nI_1]
      rfl
    · show (4 - (nI (k + 1)).toInt).toNat < (4 - (nI k).toInt).toNat
      rw [nI_toInt (by omega), nI_toInt (by omega)]; omega
  · right
    have e : k = 4 := by omega
    subst e
    refine ⟨tbS s 4, ?_, rfl⟩
    show B_k_X9_tookBits_0_1 s (nI 4) (tbS s 4) = _
    unfold B_k_X9_tookBits_0_1
    simp only [bnd]
    rw [if_pos (by decide)]
theorem sm_F (s : Int32) : F_k_X9_stacksTogether_0 s = smS s 4 := by
  unfold F_k_X9_stacksTogether_0
  refine W9_rule (fun x : Int32 × Int32 => ∃ k : Nat, k ≤ 4 ∧ x.1 = nI k ∧ x.2 = smS s k) (fun r => r = smS s 4) (fun x => (4 - x.1.toInt).toNat) ?_ ⟨0, by decide, nI_0.symm, rfl⟩
  rintro ⟨u, v⟩ ⟨k, hk, hu, hv⟩
  have hu : u = nI k := hu
  have hv : v = smS s k := hv
  subst hu hv
  by_cases h : k < 4
  · left
    refine ⟨(nI (k + 1), smS s (k + 1)), ?_, ⟨k + 1, by omega, rfl, rfl⟩, ?_⟩
    · show B_k_X9_stacksTogether_0_1 s (nI k) (smS s k) = _
      unfold B_k_X9_stacksTogether_0_1
      simp only [bnd]
      rw [if_neg (by rw [Int32.le_iff_toInt_le, nI_toInt (by omega), (by decide : (4 : Int32).toInt = 4)]; omega), stI, nI_clamp (by omega), nI_1]
      rfl
    · show (4 - (nI (k + 1)).toInt).toNat < (4 - (nI k).toInt).toNat
      rw [nI_toInt (by omega), nI_toInt (by omega)]; omega
  · right
    have e : k = 4 := by omega
    subst e
    refine ⟨smS s 4, ?_, rfl⟩
    show B_k_X9_stacksTogether_0_1 s (nI 4) (smS s 4) = _
    unfold B_k_X9_stacksTogether_0_1
    simp only [bnd]
    rw [if_pos (by decide)]
theorem tb_t : ∀ a : Nat, a < 2 → ∀ b : Nat, b < 2 → ∀ c : Nat, c < 2 → ∀ d : Nat, d < 2 → (((0 ||| nI a <<< (nI 0 &&& 31)) ||| nI b <<< (nI 1 &&& 31)) ||| nI c <<< (nI 2 &&& 31)) ||| nI d <<< (nI 3 &&& 31) = nI (a + 2 * b + 4 * c + 8 * d) := by decide +kernel
theorem tb_v {n : Nat} {d b : Nat → Int} {s : Int32} (hd : DG n d b) (hs : SC d b s) : (tbS s 4).toInt = b 0 + 2 * b 1 + 4 * b 2 + 8 * b 3 := by
  have f : ∀ k : Nat, k < 4 → ∃ m : Nat, m < 2 ∧ tkF s k = nI m ∧ b k = (m : Int) := fun k hk => by
    have v := (SC_v hd hs hk).2.2
    have r := DG_r hd k
    refine ⟨(b k).toNat, by omega, i32 ?_, by omega⟩
    rw [v, nI_toInt (by omega)]; omega
  obtain ⟨m0, l0, e0, b0⟩ := f 0 (by decide)
  obtain ⟨m1, l1, e1, b1⟩ := f 1 (by decide)
  obtain ⟨m2, l2, e2, b2⟩ := f 2 (by decide)
  obtain ⟨m3, l3, e3, b3⟩ := f 3 (by decide)
  have E : tbS s 4 = (((0 ||| tkF s 0 <<< (nI 0 &&& 31)) ||| tkF s 1 <<< (nI 1 &&& 31)) ||| tkF s 2 <<< (nI 2 &&& 31)) ||| tkF s 3 <<< (nI 3 &&& 31) := rfl
  rw [E, e0, e1, e2, e3, tb_t m0 l0 m1 l1 m2 l2 m3 l3, nI_toInt (by omega), b0, b1, b2, b3]
  push_cast; omega
theorem tb_A {n : Nat} {s w g : Int32} {A : Nat → Int32} (h : SnR n s w g A 46) : F_k_X9_tookBits_0 s = A 50 := by
  obtain ⟨d, b, h1, h2, h3, h4, _⟩ := h
  rw [tb_F]
  exact i32 ((tb_v h1 h2).trans h4.symm)
theorem sm_v {n : Nat} {d b : Nat → Int} {s : Int32} (hd : DG n d b) (hs : SC d b s) : (smS s 4).toInt = d 0 + d 1 + d 2 + d 3 := by
  have v0 := (SC_v hd hs (k := 0) (by decide)).2.1
  have v1 := (SC_v hd hs (k := 1) (by decide)).2.1
  have v2 := (SC_v hd hs (k := 2) (by decide)).2.1
  have v3 := (SC_v hd hs (k := 3) (by decide)).2.1
  have r0 := DG_r hd 0
  have r1 := DG_r hd 1
  have r2 := DG_r hd 2
  have r3 := DG_r hd 3
  have E : smS s 4 = (((0 + stW s 0) + stW s 1) + stW s 2) + stW s 3 := rfl
  have z0 : (0 : Int32).toInt = 0 := by decide
  have a0 : (0 + stW s 0).toInt = d 0 := by rw [Int32.toInt_add, z0, v0, iv_bm (by omega) (by omega)]; omega
  have a1 : ((0 + stW s 0) + stW s 1).toInt = d 0 + d 1 := by rw [Int32.toInt_add, a0, v1, iv_bm (by omega) (by omega)]
  have a2 : (((0 + stW s 0) + stW s 1) + stW s 2).toInt = d 0 + d 1 + d 2 := by rw [Int32.toInt_add, a1, v2, iv_bm (by omega) (by omega)]
  rw [E, Int32.toInt_add, a2, v3, iv_bm (by omega) (by omega)]
def dsum (d : Nat → Int) : Nat → Int
  | 0 => 0
  | k + 1 => dsum d k + d k
theorem su_F {n : Nat} {d b : Nat → Int} {z : Int32} {A : Nat → Int32} (hd : DG n d b) (hz : SZ d b z) (hn : (A 1).toInt = (n : Int)) : (F_k_X10_sumIn_0 z A).toInt = d 0 + d 1 + d 2 + d 3 := by
  have h4 := hd.1
  have r0 := DG_r hd 0
  have r1 := DG_r hd 1
  have r2 := DG_r hd 2
  have r3 := DG_r hd 3
  have z0 := (hd.2 0).2
  have z1 := (hd.2 1).2
  have z2 := (hd.2 2).2
  have z3 := (hd.2 3).2
  have s1 : dsum d 1 = d 0 := by simp only [dsum]; omega
  have s2 : dsum d 2 = d 0 + d 1 := by simp only [dsum]; omega
  have s3 : dsum d 3 = d 0 + d 1 + d 2 := by simp only [dsum]; omega
  have s4 : dsum d 4 = d 0 + d 1 + d 2 + d 3 := by simp only [dsum]; omega
  have s0 : dsum d 0 = 0 := rfl
  have sb : ∀ k : Nat, k ≤ 4 → 0 ≤ dsum d k ∧ dsum d k ≤ 16 := fun k hk => by
    have c : k = 0 ∨ k = 1 ∨ k = 2 ∨ k = 3 ∨ k = 4 := by omega
    rcases c with q | q | q | q | q <;> subst q <;> omega
  unfold F_k_X10_sumIn_0
  refine W9_rule (fun x : Int32 × Int32 => ∃ k : Nat, k ≤ n ∧ x.1 = nI k ∧ x.2.toInt = dsum d k) (fun r : Int32 => r.toInt = d 0 + d 1 + d 2 + d 3) (fun x => (4 - x.1.toInt).toNat) ?_ ⟨0, by omega, nI_0.symm, (by decide : (0 : Int32).toInt = 0)⟩
  rintro ⟨u, v⟩ ⟨k, hk, hu, hv⟩
  have hu : u = nI k := hu
  subst hu
  have hv : v.toInt = dsum d k := hv
  by_cases h : k < n
  · left
    have st := SZ_st hd hz (x := nI k) (k := k) (nI_toInt (by omega)) (by omega)
    have rk := DG_r hd k
    have b0 := sb k (by omega)
    refine ⟨(nI (k + 1), v + F_k_X10_stackIn_0 z (nI k)), ?_, ⟨k + 1, by omega, rfl, ?_⟩, ?_⟩
    · show B_k_X10_sumIn_0_1 z A (nI k) v = _
      unfold B_k_X10_sumIn_0_1
      simp only [bnd, nz1]
      rw [if_neg (by rw [Int32.le_iff_toInt_le, nI_toInt (by omega), hn]; omega), nI_1]
    · show (v + F_k_X10_stackIn_0 z (nI k)).toInt = dsum d k + d k
      rw [Int32.toInt_add, hv, st, iv_bm (by omega) (by omega)]
    · show (4 - (nI (k + 1)).toInt).toNat < (4 - (nI k).toInt).toNat
      rw [nI_toInt (by omega), nI_toInt (by omega)]; omega
  · right
    have e : k = n := by omega
    subst e
    refine ⟨v, ?_, ?_⟩
    · show B_k_X10_sumIn_0_1 z A (nI k) v = _
      unfold B_k_X10_sumIn_0_1
      simp only [bnd, nz1]
      rw [if_pos (by rw [Int32.le_iff_toInt_le, nI_toInt (by omega), hn]; omega)]
    · rw [hv]
      have c : k = 0 ∨ k = 1 ∨ k = 2 ∨ k = 3 ∨ k = 4 := by omega
      rcases c with q | q | q | q | q
      · subst q
        have := z0 (by omega)
        have := z1 (by omega)
        have := z2 (by omega)
        have := z3 (by omega)
        omega
      · subst q
        have := z1 (by omega)
        have := z2 (by omega)
        have := z3 (by omega)
        omega
      · subst q
        have := z2 (by omega)
        have := z3 (by omega)
        omega
      · subst q
        have := z3 (by omega)
        omega
      · subst q
        omega
theorem sm_A {n : Nat} {hn s w g : Int32} {A : Nat → Int32} (c : CO9 n hn s w g A) (A' : Nat → Int32) (h1 : A' 1 = A 1) : F_k_X9_stacksTogether_0 s = F_k_X10_sumIn_0 (F_k_X10_standNow_0 A) A' := by
  obtain ⟨e1, e2, e3, ⟨d, b, h1', h2, h3, h4, _⟩, e5⟩ := c
  rw [sm_F]
  exact i32 ((sm_v h1' h2).trans (su_F h1' (F_sn h1' e2 h3 h4) (by rw [h1]; exact e2)).symm)
-- what is stored, what is noted
theorem sto_R {n : Nat} {s w g : Int32} {A : Nat → Int32} (h : SnR n s w g A 46) (Wz : Nat → Int32) : SnR n s w g (F_k_X10_stores_0 Wz A) 0 := SnR_cg h (fun k hk => by rw [Nat.zero_add]; exact F_sto k hk)
/-- behind a deed that was noted: all of both sides -/
def ST9 (n : Nat) (s w g pc : Int32) (ps pv pn : Nat → Int32) (A A' : Nat → Int32) : Prop := SnR n s w g A' 46 ∧ PaR n pc ps pv pn A' ∧ AGR A A'
theorem kp_R {n : Nat} {s w g s' w' g' c : Int32} {ps pv pn A B Wz : Nat → Int32} (hp : PaR n c ps pv pn A) (h : SnR n s w g A 46) (hB : SnR n s' w' g' B 46) (hb : ∀ j : Nat, 53 ≤ j → B j = A j) (ha : AGR A B) : ST9 n s' w' g' (F_k_X5_keep_0 s w g c ps pv pn).1 (F_k_X5_keep_0 s w g c ps pv pn).2.1 (F_k_X5_keep_0 s w g c ps pv pn).2.2.1 (F_k_X5_keep_0 s w g c ps pv pn).2.2.2 A (F_k_X10_notes_0 (F_k_X10_stores_0 Wz A) B) ∧ ∀ j : Nat, j < 53 → F_k_X10_notes_0 (F_k_X10_stores_0 Wz A) B j = B j := by
  obtain ⟨k1, k2⟩ := F_kp (B := B) (Wz := F_k_X10_stores_0 Wz A) hp (fun j hj => hb j hj.1) (sto_R h Wz)
  exact ⟨⟨SnR_cg hB (fun k hk => k2 _ (by omega)), k1, fun j hj => by rw [k2 j (by omega)]; exact ha j hj⟩, fun j hj => k2 j (Or.inl hj)⟩
theorem PaR_g {n : Nat} {c : Int32} {ps pv pn A B : Nat → Int32} (hp : PaR n c ps pv pn A) (hb : ∀ j : Nat, 53 ≤ j ∧ j < 124 → B j = A j) : PaR n c ps pv pn B := by
  obtain ⟨m, h1, h2, h3, h4⟩ := hp
  exact ⟨m, h1, h2, (hb 53 (by decide)).trans h3, fun i hi => SnR_cg (h4 i hi) (fun k hk => hb _ (by omega))⟩
theorem ST9_r {n : Nat} {s w g pc : Int32} {ps pv pn A : Nat → Int32} (h : SnR n s w g A 46) (p : PaR n pc ps pv pn A) : ST9 n s w g pc ps pv pn A A := ⟨h, p, AGR.refl A⟩
theorem R_night {n : Nat} {hn s w g pc a : Int32} {A fe ps pv pn rk Wi Wz : Nat → Int32} (c : CO9 n hn s w g A) (f : FE9 n fe A) (p : PaR n pc ps pv pn A) {C : Int32 × Int32 × Int32 × Int32 × Int32 × (Nat → Int32) × (Nat → Int32) × (Nat → Int32)} (hC9 : C = F_k_X9_night_0 (DF A fe) a s w g hn pc ps pv pn) {Z : Int32 × Int32 × (Nat → Int32) × (Nat → Int32) × (Nat → Int32) × (Nat → Int32)} (hZ9 : Z = F_k_X10_night_0 a A rk Wi Wz) : C.1 = Z.1 ∧ ST9 n C.2.1 C.2.2.1 C.2.2.2.1 C.2.2.2.2.1 C.2.2.2.2.2.1 C.2.2.2.2.2.2.1 C.2.2.2.2.2.2.2 A Z.2.2.1 := by
  have q := nN c a.toInt64
  have T := td_R (rk := rk) (Wi := Wi) c f a.toInt64
  have ez := nZ (v := a.toInt64) (A := A) (by have := c.2.1; omega)
  simp only [F_k_X9_night_0, bnd] at hC9
  simp only [F_k_X10_night_0, bnd, nz50] at hZ9
  by_cases y : F_k_X10_isNight_0 a.toInt64 A = 0
  · rw [q, if_pos y] at hC9
    rw [if_pos y] at hZ9
    subst hC9 hZ9
    exact ⟨rfl, ST9_r c.2.2.2.1 p⟩
  · rw [q, if_neg y] at hC9
    rw [if_neg y] at hZ9
    by_cases t : a.toInt64.toInt = 0 ∨ (0 < a.toInt64.toInt ∧ a.toInt64.toInt < (A 1).toInt)
    · rw [if_pos t] at ez
      have r9 : 0 ≤ a.toInt64.toInt ∧ a.toInt64.toInt ≤ 9 := by have := c.2.1; have := c.2.2.1; omega
      have w9 : F_k_X10_whyNot_0 a.toInt64 A = 0 := by rw [wyC r9, ez, if_neg (by decide)]
      have a32 : a.toInt64.toInt32 = a := i32 (by rw [v32_i (by omega), z64])
      rw [w9] at T
      obtain ⟨t1, t2, -⟩ := T
      obtain ⟨u1, u2, u3⟩ := t2 rfl
      rw [a32, doC (by rw [z64] at r9; omega)] at u1 u2 u3
      subst hC9 hZ9
      obtain ⟨k1, k2⟩ := kp_R (Wz := Wz) p c.2.2.2.1 u1 u3 u2
      refine ⟨?_, k1⟩
      show F_k_X9_tookBits_0 _ = F_k_X10_notes_0 _ _ 50
      rw [k2 50 (by decide)]; exact tb_A u1
    · rw [if_neg t] at ez
      exact absurd ez y
theorem R_steal {n : Nat} {hn s w g pc a : Int32} {A ps pv pn Wz : Nat → Int32} (c : CO9 n hn s w g A) (p : PaR n pc ps pv pn A) {C : Int32 × Int32 × Int32 × (Nat → Int32) × (Nat → Int32) × (Nat → Int32)} (hC9 : C = F_k_X9_steal_0 a s w g hn pc ps pv pn) {Z : Int32 × Int32 × (Nat → Int32) × (Nat → Int32)} (hZ9 : Z = F_k_X10_steal_0 a A Wz) : C.1 = Z.1 ∧ ST9 n C.2.1 w g C.2.2.1 C.2.2.2.1 C.2.2.2.2.1 C.2.2.2.2.2 A Z.2.2.1 := by
  have n4 := c.2.2.1
  simp only [F_k_X9_steal_0, bnd, thI] at hC9
  simp only [F_k_X10_steal_0, bnd] at hZ9
  rcases why_R c (z64 a) with ⟨q1, q2, q3⟩ | ⟨q1, q3⟩ | ⟨q1, ⟨k, hk, ek, hs⟩, q3⟩ | ⟨q1, q3⟩
  · rw [q1, if_pos rfl] at hC9
    rw [q3, if_neg (by decide)] at hZ9
    subst hC9 hZ9
    exact ⟨(by decide : (-11 : Int32) = -10 - 1), ST9_r c.2.2.2.1 p⟩
  · rw [q1, if_neg (by decide), if_pos rfl] at hC9
    rw [q3, if_neg (by decide)] at hZ9
    subst hC9 hZ9
    exact ⟨(by decide : (-11 : Int32) = -10 - 1), ST9_r c.2.2.2.1 p⟩
  · rw [q1, if_neg (by decide), if_neg (by decide), if_pos rfl] at hC9
    rw [q3, if_pos rfl] at hZ9
    subst hC9 hZ9
    rw [ek]
    obtain ⟨u1, u2, u3⟩ := th_R c.2.2.2.1 hk hs
    obtain ⟨k1, k2⟩ := kp_R (Wz := Wz) p c.2.2.2.1 u1 u3 u2
    refine ⟨?_, k1⟩
    have ix : ((46 : Int32) + nI k).toNatClampNeg = 46 + k := ixp 46 46 (by decide) (by decide) (nI_toInt (by omega)) (by omega)
    show F_k_X9_stackIn_0 (thF s (nI k)) (nI k) = F_k_X10_notes_0 _ _ ((46 : Int32) + nI k).toNatClampNeg
    rw [ix, k2 _ (by omega), stI, nI_clamp (by omega)]
    exact st_A u1 hk
  · rw [q1, if_neg (by decide), if_neg (by decide), if_neg (by decide)] at hC9
    rw [q3, if_neg (by decide)] at hZ9
    subst hC9 hZ9
    exact ⟨(by decide : (-12 : Int32) = -10 - 2), ST9_r c.2.2.2.1 p⟩
theorem R_weather {n : Nat} {hn s w g pc a : Int32} {A ps pv pn Wz : Nat → Int32} (c : CO9 n hn s w g A) (p : PaR n pc ps pv pn A) {C : Int32 × Int32 × Int32 × (Nat → Int32) × (Nat → Int32) × (Nat → Int32)} (hC9 : C = F_k_X9_weather_0 a s w g pc ps pv pn) {Z : Int32 × Int32 × (Nat → Int32) × (Nat → Int32)} (hZ9 : Z = F_k_X10_weather_0 a A Wz) : C.1 = Z.1 ∧ ST9 n s C.2.1 g C.2.2.1 C.2.2.2.1 C.2.2.2.2.1 C.2.2.2.2.2 A Z.2.2.1 := by
  have z0 : (0 : Int64).toInt = 0 := by decide
  have z9 : (9 : Int64).toInt = 9 := by decide
  have y0 : (0 : Int32).toInt = 0 := by decide
  have y10 : (10 : Int32).toInt = 10 := by decide
  have S := c.2.2.2.1
  simp only [F_k_X9_weather_0, bnd] at hC9
  simp only [F_k_X10_weather_0, bnd, nz51, nz5] at hZ9
  by_cases h : 0 ≤ a.toInt ∧ a.toInt ≤ 9
  · rw [if_neg (show ¬ a < 0 from fun q => by rw [Int32.lt_iff_toInt_lt, y0] at q; omega), if_pos (show a < 10 from Int32.lt_iff_toInt_lt.mpr (by rw [y10]; omega))] at hC9
    rw [wiY9 (by rw [z0, z9, z64]; exact h), if_neg (by decide)] at hZ9
    subst hC9 hZ9
    have u1 : SnR n s a g (upd A 51 a) 46 := by
      obtain ⟨d, bb, h1, h2, h3, h4, h5, h6, h7⟩ := S
      exact ⟨d, bb, h1, h2, fun k hk => by rw [upd_ne (by have := h1.1; omega)]; exact h3 k hk, by rw [upd_ne (by decide)]; exact h4, upd_at, h, by rw [upd_ne (by decide)]; exact h7⟩
    obtain ⟨k1, k2⟩ := kp_R (Wz := Wz) p S u1 (fun j hj => upd_ne (by omega)) (fun j hj => upd_ne (by omega))
    refine ⟨?_, k1⟩
    show w = F_k_X10_stores_0 Wz A 5
    rw [F_sto 5 (by decide)]
    obtain ⟨d, bb, h1, h2, h3, h4, h5, h6, h7⟩ := S
    exact h5.symm
  · rw [wiN9 (by rw [z0, z9, z64]; exact h), if_pos rfl] at hZ9
    have e : C = (-11, w, pc, ps, pv, pn) := by
      by_cases q : a < 0
      · rw [if_pos q] at hC9; exact hC9
      · have q' : ¬ a.toInt < 0 := fun z => q (Int32.lt_iff_toInt_lt.mpr (by rw [y0]; exact z))
        rw [if_neg q, if_neg (show ¬ a < 10 from fun z => by rw [Int32.lt_iff_toInt_lt, y10] at z; omega)] at hC9
        exact hC9
    subst e hZ9
    exact ⟨rfl, ST9_r S p⟩
theorem R_undo {n : Nat} {hn s w g pc a : Int32} {A ps pv pn : Nat → Int32} (c : CO9 n hn s w g A) (p : PaR n pc ps pv pn A) {C : Int32 × Int32 × Int32 × Int32 × Int32} (hC9 : C = F_k_X9_undo_0 a s w g pc ps pv pn) {Z : Int32 × Int32 × (Nat → Int32)} (hZ9 : Z = F_k_X10_undo_0 a A) : C.1 = Z.1 ∧ ST9 n C.2.1 C.2.2.1 C.2.2.2.1 C.2.2.2.2 ps pv pn A Z.2.2 := by
  have z1 : (1 : Int64).toInt = 1 := by decide
  have z10 : (10 : Int64).toInt = 10 := by decide
  have y1 : (1 : Int32).toInt = 1 := by decide
  have y10 : (10 : Int32).toInt = 10 := by decide
  have S := c.2.2.2.1
  have p' := p
  obtain ⟨m, m10, ec, e53, hm⟩ := p
  simp only [F_k_X9_undo_0, F_k_X9_bringBack_0, bnd] at hC9
  simp only [F_k_X10_undo_0, bnd, nz46, nz47, nz48, nz49, nz50, nz51, nz52, nz53] at hZ9
  by_cases h : 1 ≤ a.toInt ∧ a.toInt ≤ 10
  · rw [if_neg (show ¬ a < 1 from fun q => by rw [Int32.lt_iff_toInt_lt, y1] at q; omega), if_neg (show ¬ 10 < a from fun q => by rw [Int32.lt_iff_toInt_lt, y10] at q; omega)] at hC9
    rw [wiY9 (by rw [z1, z10, z64]; exact h), if_neg (by decide), e53] at hZ9
    rw [ec] at hC9
    by_cases q : a ≤ nI m
    · rw [if_pos q] at hC9 hZ9
      have q' := Int32.le_iff_toInt_le.mp q
      rw [nI_toInt (by omega)] at q'
      obtain ⟨i, hi⟩ : ∃ i : Nat, (i : Int) = (m : Int) - a.toInt := ⟨m - a.toInt.toNat, by omega⟩
      have ei : nI m - a = nI i := i32 (by rw [Int32.toInt_sub, nI_toInt (by omega), iv_bm (by omega) (by omega), nI_toInt (by omega)]; omega)
      rw [ei] at hC9 hZ9
      have ix : ((54 : Int32) + 7 * nI i).toInt = ((54 + 7 * i : Nat) : Int) := by
        have q : (7 * nI i).toInt = 7 * (i : Int) := by rw [Int32.toInt_mul, nI_toInt (by omega), (by decide : (7 : Int32).toInt = 7), iv_bm (by omega) (by omega)]
        rw [Int32.toInt_add, q, (by decide : (54 : Int32).toInt = 54), iv_bm (by omega) (by omega)]; push_cast; rfl
      obtain ⟨x0, x1, x2, x3, x4, x5, x6⟩ := x_p ix (by omega)
      rw [x0, x1, x2, x3, x4, x5, x6] at hZ9
      rw [nI_clamp (show i < 2 ^ 31 by omega)] at hC9
      subst hC9 hZ9
      have H := hm i (by omega)
      have rd : ∀ k : Nat, k < 7 → upd (upd (upd (upd (upd (upd (upd (upd A 53 (nI i)) 46 (A (54 + 7 * i))) 47 (A (54 + 7 * i + 1))) 48 (A (54 + 7 * i + 2))) 49 (A (54 + 7 * i + 3))) 50 (A (54 + 7 * i + 4))) 51 (A (54 + 7 * i + 5))) 52 (A (54 + 7 * i + 6)) (46 + k) = A (54 + 7 * i + k) := fun k hk => by
        rcases k7 hk with q | q | q | q | q | q | q <;> (subst q; simp [upd])
      have ro : ∀ j : Nat, (j < 46 ∨ 53 < j) → upd (upd (upd (upd (upd (upd (upd (upd A 53 (nI i)) 46 (A (54 + 7 * i))) 47 (A (54 + 7 * i + 1))) 48 (A (54 + 7 * i + 2))) 49 (A (54 + 7 * i + 3))) 50 (A (54 + 7 * i + 4))) 51 (A (54 + 7 * i + 5))) 52 (A (54 + 7 * i + 6)) j = A j := fun j hj => by
        rw [upd_ne (by omega), upd_ne (by omega), upd_ne (by omega), upd_ne (by omega), upd_ne (by omega), upd_ne (by omega), upd_ne (by omega), upd_ne (by omega)]
      refine ⟨rfl, SnR_cg H rd, ⟨i, by omega, rfl, ?_, fun j hj => SnR_cg (hm j (by omega)) (fun k hk => ro _ (by omega))⟩, fun j hj => ro j (by omega)⟩
      rfl
    · rw [if_neg q] at hC9 hZ9
      rw [← ec] at hC9
      subst hC9 hZ9
      exact ⟨rfl, ST9_r S p'⟩
  · rw [wiN9 (by rw [z1, z10, z64]; exact h), if_pos rfl] at hZ9
    have e : C = (-3, s, w, g, pc) := by
      by_cases q : a < 1
      · rw [if_pos q] at hC9; exact hC9
      · have q' : ¬ a.toInt < 1 := fun z => q (Int32.lt_iff_toInt_lt.mpr (by rw [y1]; exact z))
        rw [if_neg q, if_pos (show 10 < a from Int32.lt_iff_toInt_lt.mpr (by rw [y10]; omega))] at hC9
        exact hC9
    subst e hZ9
    exact ⟨rfl, ST9_r S p'⟩
theorem R_nights {n : Nat} {hn s w g pc a : Int32} {A fe ps pv pn rk Wi Wz : Nat → Int32} (c : CO9 n hn s w g A) (f : FE9 n fe A) (p : PaR n pc ps pv pn A) {C : Int32 × Int32 × Int32 × Int32 × Int32 × (Nat → Int32) × (Nat → Int32) × (Nat → Int32)} (hC9 : C = F_k_X9_nights_0 (DF A fe) a s w g hn pc ps pv pn) {Z : Int32 × Int32 × (Nat → Int32) × (Nat → Int32) × (Nat → Int32) × (Nat → Int32)} (hZ9 : Z = F_k_X10_nights_0 a A rk Wi Wz) : C.1 = Z.1 ∧ ST9 n C.2.1 C.2.2.1 C.2.2.2.1 C.2.2.2.2.1 C.2.2.2.2.2.1 C.2.2.2.2.2.2.1 C.2.2.2.2.2.2.2 A Z.2.2.1 := by
  have z1 : (1 : Int64).toInt = 1 := by decide
  have z99 : (99 : Int64).toInt = 99 := by decide
  have y1 : (1 : Int32).toInt = 1 := by decide
  have y99 : (99 : Int32).toInt = 99 := by decide
  simp only [F_k_X9_nights_0, bnd] at hC9
  simp only [F_k_X10_nights_0, bnd] at hZ9
  by_cases h : 1 ≤ a.toInt ∧ a.toInt ≤ 99
  · rw [if_neg (show ¬ a < 1 from fun q => by rw [Int32.lt_iff_toInt_lt, y1] at q; omega), if_pos (show a ≤ 99 from Int32.le_iff_toInt_le.mpr (by rw [y99]; omega))] at hC9
    rw [wiY9 (by rw [z1, z99, z64]; exact h), if_neg (by decide)] at hZ9
    subst hC9 hZ9
    refine W9_sim (fun (x : Int32 × Int32 × Int32 × Int32) (y : Int32 × (Nat → Int32) × (Nat → Int32) × (Nat → Int32)) => ∃ k : Nat, (k : Int) ≤ a.toInt ∧ x.1 = nI k ∧ y.1 = nI k ∧ SnR n x.2.1 x.2.2.1 x.2.2.2 y.2.2.2 46 ∧ AGR A y.2.2.2 ∧ ∀ j : Nat, 53 ≤ j → y.2.2.2 j = A j) (fun (C : Int32 × Int32 × Int32 × Int32 × Int32 × (Nat → Int32) × (Nat → Int32) × (Nat → Int32)) (Z : Int32 × Int32 × (Nat → Int32) × (Nat → Int32) × (Nat → Int32) × (Nat → Int32)) => C.1 = Z.1 ∧ ST9 n C.2.1 C.2.2.1 C.2.2.2.1 C.2.2.2.2.1 C.2.2.2.2.2.1 C.2.2.2.2.2.2.1 C.2.2.2.2.2.2.2 A Z.2.2.1) (fun x => (a.toInt - x.1.toInt).toNat) ?_ ⟨0, by omega, nI_0.symm, nI_0.symm, c.2.2.2.1, AGR.refl A, fun _ _ => rfl⟩
    rintro ⟨u, s1, w1, g1⟩ ⟨v, rk1, Wi1, A1⟩ ⟨k, hk, hu, hv, hS, hA, hB⟩
    have hu : u = nI k := hu
    have hv : v = nI k := hv
    subst hu hv
    have hS : SnR n s1 w1 g1 A1 46 := hS
    have hA : AGR A A1 := hA
    have hB : ∀ j : Nat, 53 ≤ j → A1 j = A j := hB
    by_cases l : (k : Int) < a.toInt
    · left
      have c1 := CO9_g c hS hA
      have f1 := FE9_g c.2.2.1 f hA
      have T := td_R (rk := rk1) (Wi := Wi1) c1 f1 0
      have ez := nZ (v := 0) (A := A1) (by have := c1.2.1; omega)
      have z0 : (0 : Int64).toInt = 0 := by decide
      rw [if_pos (Or.inl z0)] at ez
      have w9 : F_k_X10_whyNot_0 0 A1 = 0 := by rw [wyC (by rw [z0]; decide), ez, if_neg (by decide)]
      have a32 : (0 : Int64).toInt32 = 0 := by decide
      rw [w9] at T
      obtain ⟨t1, t2, -⟩ := T
      obtain ⟨u1, u2, u3⟩ := t2 rfl
      rw [a32, doC (by decide), DF_agr hA] at u1
      rw [a32, doC (by decide)] at u2 u3
      refine ⟨(nI (k + 1), (F_k_X9_tryDeed_0 (DF A fe) 0 s1 w1 g1 hn).2), (nI (k + 1), F_k_X10_goesNight_0 0 rk1 Wi1 A1), ?_, ?_, ⟨k + 1, by push_cast; omega, rfl, rfl, u1, AGR.trans hA u2, fun j hj => (u3 j hj).trans (hB j hj)⟩, ?_⟩
      · show B_k_X9_nights_0_1 _ a _ _ _ hn _ (nI k) s1 w1 g1 = _
        unfold B_k_X9_nights_0_1
        simp only [bnd]
        rw [if_neg (by rw [Int32.le_iff_toInt_le, nI_toInt (by omega)]; omega), nI_1]
      · show B_k_X10_nights_0_1 a _ (nI k) rk1 Wi1 A1 = _
        unfold B_k_X10_nights_0_1
        simp only [bnd]
        rw [if_neg (by rw [Int32.le_iff_toInt_le, nI_toInt (by omega)]; omega), nI_1]
      · show (a.toInt - (nI (k + 1)).toInt).toNat < (a.toInt - (nI k).toInt).toNat
        rw [nI_toInt (by omega), nI_toInt (by omega)]; omega
    · right
      obtain ⟨k1, k2⟩ := kp_R (Wz := Wz) p c.2.2.2.1 hS hB hA
      refine ⟨(F_k_X9_tookBits_0 s1, s1, w1, g1, (F_k_X5_keep_0 s w g pc ps pv pn).1, (F_k_X5_keep_0 s w g pc ps pv pn).2.1, (F_k_X5_keep_0 s w g pc ps pv pn).2.2.1, (F_k_X5_keep_0 s w g pc ps pv pn).2.2.2), (F_k_X10_notes_0 (F_k_X10_stores_0 Wz A) A1 50, 0, F_k_X10_notes_0 (F_k_X10_stores_0 Wz A) A1, rk1, Wi1, F_k_X10_stores_0 Wz A), ?_, ?_, ?_, k1⟩
      · show B_k_X9_nights_0_1 _ a _ _ _ hn _ (nI k) s1 w1 g1 = _
        unfold B_k_X9_nights_0_1
        simp only [bnd]
        rw [if_pos (by rw [Int32.le_iff_toInt_le, nI_toInt (by omega)]; omega)]
      · show B_k_X10_nights_0_1 a _ (nI k) rk1 Wi1 A1 = _
        unfold B_k_X10_nights_0_1
        simp only [bnd, nz50]
        rw [if_pos (by rw [Int32.le_iff_toInt_le, nI_toInt (by omega)]; omega)]
      · show F_k_X9_tookBits_0 s1 = F_k_X10_notes_0 _ A1 50
        rw [k2 50 (by decide)]; exact tb_A hS
  · rw [wiN9 (by rw [z1, z99, z64]; exact h), if_pos rfl] at hZ9
    have e : C = (-3, s, w, g, pc, ps, pv, pn) := by
      by_cases q : a < 1
      · rw [if_pos q] at hC9; exact hC9
      · have q' : ¬ a.toInt < 1 := fun z => q (Int32.lt_iff_toInt_lt.mpr (by rw [y1]; exact z))
        rw [if_neg q, if_neg (show ¬ a ≤ 99 from fun z => by rw [Int32.le_iff_toInt_le, y99] at z; omega)] at hC9
        exact hC9
    subst e hZ9
    exact ⟨rfl, ST9_r c.2.2.2.1 p⟩
