theorem W9_sim {X Y R S : Type} [Nonempty R] [Nonempty S] {s : X → X ⊕ R} {t : Y → Y ⊕ S} (I : X → Y → Prop) (Q : R → S → Prop) (mu : X → Nat) (h : ∀ x y, I x y → (∃ x' y', s x = Sum.inl x' ∧ t y = Sum.inl y' ∧ I x' y' ∧ mu x' < mu x) ∨ (∃ r q, s x = Sum.inr r ∧ t y = Sum.inr q ∧ Q r q)) {x : X} {y : Y} (h0 : I x y) : Q (W9 s x) (W9 t y) := by
  have key : ∀ n x y, mu x ≤ n → I x y → Q (W9 s x) (W9 t y) := by
    intro n
    induction n with
    | zero =>
      intro x y hn hx
      rcases h x y hx with ⟨x', y', e, f, hy, hm⟩ | ⟨r, q, e, f, hr⟩
      · omega
      · rw [W9_eq, W9_eq (s := t), e, f]; exact hr
    | succ n ih =>
      intro x y hn hx
      rcases h x y hx with ⟨x', y', e, f, hy, hm⟩ | ⟨r, q, e, f, hr⟩
      · rw [W9_eq, W9_eq (s := t), e, f]; exact ih x' y' (by omega) hy
      · rw [W9_eq, W9_eq (s := t), e, f]; exact hr
  exact key _ x y (Nat.le_refl _) h0
/-- the present, on both sides -/
def CO9 (n : Nat) (hn s w g : Int32) (A : Nat → Int32) : Prop := hn = A 1 ∧ (A 1).toInt = (n : Int) ∧ n ≤ 4 ∧ SnR n s w g A 46 ∧ LK A
def FE9 (n : Nat) (fe A : Nat → Int32) : Prop := ∀ k : Nat, k < n → fe k = A (10 + k)
theorem CO9_g {n : Nat} {hn s w g s' w' g' : Int32} {A A' : Nat → Int32} (c : CO9 n hn s w g A) (h : SnR n s' w' g' A' 46) (a : AGR A A') : CO9 n hn s' w' g' A' := ⟨c.1.trans (a 1 (by decide)).symm, by rw [a 1 (by decide)]; exact c.2.1, c.2.2.1, h, LK_agr a c.2.2.2.2⟩
theorem FE9_g {n : Nat} {fe A A' : Nat → Int32} (hn : n ≤ 4) (f : FE9 n fe A) (a : AGR A A') : FE9 n fe A' := fun k hk => (f k hk).trans (a (10 + k) (by omega)).symm
theorem z64 (k : Int32) : k.toInt64.toInt = k.toInt := toI64 k
theorem hC (a hn : Int32) : (F_k_X9_isHill_0 a hn = 0 ∧ a.toInt < 0) ∨ (F_k_X9_isHill_0 a hn = 1 ∧ 0 ≤ a.toInt ∧ hn.toInt ≤ a.toInt) ∨ (F_k_X9_isHill_0 a hn = 2 ∧ 0 ≤ a.toInt ∧ a.toInt < hn.toInt) := by
  have z0 : (0 : Int32).toInt = 0 := by decide
  unfold F_k_X9_isHill_0
  by_cases p : a < 0
  · left; rw [if_pos p]
    rw [Int32.lt_iff_toInt_lt, z0] at p; exact ⟨rfl, p⟩
  · right
    rw [if_neg p]
    rw [Int32.lt_iff_toInt_lt, z0] at p
    by_cases q : hn ≤ a
    · left; rw [if_pos q]
      rw [Int32.le_iff_toInt_le] at q; exact ⟨rfl, by omega, q⟩
    · right; rw [if_neg q]
      rw [Int32.le_iff_toInt_le] at q; exact ⟨rfl, by omega, by omega⟩
theorem wiZ (v lo hi : Int64) : F_k_X10_within_0 v lo hi = if lo.toInt ≤ v.toInt ∧ v.toInt ≤ hi.toInt then 1 else 0 := by
  unfold F_k_X10_within_0
  by_cases p : v < lo
  · have p' := Int64.lt_iff_toInt_lt.mp p
    rw [if_pos p, if_neg (fun q => absurd q.1 (by omega))]
  · have p' : ¬ v.toInt < lo.toInt := fun q => p (Int64.lt_iff_toInt_lt.mpr q)
    rw [if_neg p]
    by_cases q : hi < v
    · have q' := Int64.lt_iff_toInt_lt.mp q
      rw [if_pos q, if_neg (fun z => absurd z.2 (by omega))]
    · have q' : ¬ hi.toInt < v.toInt := fun z => q (Int64.lt_iff_toInt_lt.mpr z)
      rw [if_neg q, if_pos ⟨by omega, by omega⟩]
theorem wiY9 {v lo hi : Int64} (h : lo.toInt ≤ v.toInt ∧ v.toInt ≤ hi.toInt) : F_k_X10_within_0 v lo hi = 1 := by rw [wiZ, if_pos h]
theorem wiN9 {v lo hi : Int64} (h : ¬ (lo.toInt ≤ v.toInt ∧ v.toInt ≤ hi.toInt)) : F_k_X10_within_0 v lo hi = 0 := by rw [wiZ, if_neg h]
theorem sb1 {x : Int32} (h : 0 ≤ x.toInt) : (x - 1).toInt64.toInt = x.toInt - 1 := by
  have := Int32.toInt_lt x
  rw [z64, Int32.toInt_sub, (by decide : (1 : Int32).toInt = 1), iv_bm (by omega) (by omega)]
theorem hZ {v : Int64} {A : Nat → Int32} (h0 : 0 ≤ (A 1).toInt) : F_k_X10_isHill_0 v A = if 0 ≤ v.toInt ∧ v.toInt < (A 1).toInt then 1 else 0 := by
  have z0 : (0 : Int64).toInt = 0 := by decide
  simp only [F_k_X10_isHill_0, bnd, nz1]
  by_cases p : 0 ≤ v.toInt ∧ v.toInt < (A 1).toInt
  · rw [wiY9 (by rw [z0, sb1 h0]; omega), if_pos p, if_neg (by decide)]
  · rw [wiN9 (by rw [z0, sb1 h0]; omega), if_neg p, if_pos rfl]
theorem nC (v : Int64) (hn : Int32) : F_k_X9_isNight_0 v hn = if v.toInt = 0 ∨ (0 < v.toInt ∧ v.toInt < hn.toInt) then 1 else 0 := by
  have z0 : (0 : Int64).toInt = 0 := by decide
  simp only [F_k_X9_isNight_0, bnd]
  by_cases p : v = 0
  · rw [if_pos p, if_pos (Or.inl (by rw [p, z0]))]
  · have p' : v.toInt ≠ 0 := fun q => p (Int64.toInt_inj.mp (by rw [q, z0]))
    rw [if_neg p]
    by_cases q : v ≤ 0
    · have q' := Int64.le_iff_toInt_le.mp q
      rw [z0] at q'
      rw [if_pos q, if_neg (by omega)]
    · have q' : ¬ v.toInt ≤ 0 := fun z => q (Int64.le_iff_toInt_le.mpr (by rw [z0]; exact z))
      rw [if_neg q]
      by_cases r : hn.toInt64 ≤ v
      · have r' := Int64.le_iff_toInt_le.mp r
        rw [z64] at r'
        rw [if_pos r, if_neg (by omega)]
      · have r' : ¬ hn.toInt ≤ v.toInt := fun z => r (Int64.le_iff_toInt_le.mpr (by rw [z64]; exact z))
        rw [if_neg r, if_pos (by omega)]
theorem nZ {v : Int64} {A : Nat → Int32} (h0 : 0 ≤ (A 1).toInt) : F_k_X10_isNight_0 v A = if v.toInt = 0 ∨ (0 < v.toInt ∧ v.toInt < (A 1).toInt) then 1 else 0 := by
  have z0 : (0 : Int64).toInt = 0 := by decide
  have z1 : (1 : Int64).toInt = 1 := by decide
  simp only [F_k_X10_isNight_0, bnd, nz1]
  by_cases p : v = 0
  · rw [if_pos p, if_pos (Or.inl (by rw [p, z0]))]
  · have p' : v.toInt ≠ 0 := fun q => p (Int64.toInt_inj.mp (by rw [q, z0]))
    rw [if_neg p]
    by_cases q : 1 ≤ v.toInt ∧ v.toInt ≤ (A 1).toInt - 1
    · rw [wiY9 (by rw [z1, sb1 h0]; exact q), if_neg (by decide), if_pos (by omega)]
    · rw [wiN9 (by rw [z1, sb1 h0]; exact q), if_pos rfl, if_neg (by omega)]
theorem nN {n : Nat} {hn s w g : Int32} {A : Nat → Int32} (c : CO9 n hn s w g A) (v : Int64) : F_k_X9_isNight_0 v hn = F_k_X10_isNight_0 v A := by
  rw [nC, nZ (by have := c.2.1; omega), c.1]
theorem st_A {n : Nat} {s w g : Int32} {A : Nat → Int32} (h : SnR n s w g A 46) {k : Nat} (hk : k < n) : stW s k = A (46 + k) := by
  obtain ⟨d, b, h1, h2, h3, _⟩ := h
  have h4 := h1.1
  exact i32 (by rw [(SC_v h1 h2 (by omega)).2.1, h3 k hk])
theorem ixp (c : Int32) (m : Nat) {x : Int32} {k : Nat} (hc : c.toInt = (m : Int)) (hm : m ≤ 3000) (hx : x.toInt = (k : Int)) (hk : k ≤ 3000) : (c + x).toNatClampNeg = m + k := by
  have e : (c + x).toInt = (m : Int) + k := by rw [Int32.toInt_add, hc, hx, iv_bm (by omega) (by omega)]
  exact toNat_is (by rw [e]; push_cast; rfl)
/-- why wood can't be taken by hand, on both sides -/
theorem why_R {n : Nat} {hn s w g a : Int32} {A : Nat → Int32} {v : Int64} (c : CO9 n hn s w g A) (hv : v.toInt = a.toInt) : (F_k_X9_whyNoStealing_0 a s hn = 0 ∧ a.toInt < 0 ∧ F_k_X10_whySteal_0 v A = 1) ∨ (F_k_X9_whyNoStealing_0 a s hn = 1 ∧ F_k_X10_whySteal_0 v A = 1) ∨ (F_k_X9_whyNoStealing_0 a s hn = 2 ∧ (∃ k : Nat, k < n ∧ a = nI k ∧ ¬ stW s k = 0) ∧ F_k_X10_whySteal_0 v A = 0) ∨ (F_k_X9_whyNoStealing_0 a s hn = 3 ∧ F_k_X10_whySteal_0 v A = 2) := by
  obtain ⟨e1, e2, e3, e4, -⟩ := c
  have v32 : v.toInt32 = a := i32 (by rw [Int64.toInt_toInt32, hv]; exact iv_bm (Int32.le_toInt a) (by have := Int32.toInt_lt a; omega))
  have z := hZ (v := v) (A := A) (by omega)
  simp only [F_k_X9_whyNoStealing_0, F_k_X10_whySteal_0, bnd]
  rcases hC a hn with ⟨h1, h2⟩ | ⟨h1, h2, h3⟩ | ⟨h1, h2, h3⟩
  · left
    rw [if_neg (by omega)] at z
    rw [h1, z, if_pos rfl, if_pos rfl]
    exact ⟨rfl, h2, rfl⟩
  · right; left
    rw [e1] at h3
    rw [if_neg (by omega)] at z
    rw [h1, z, if_neg (by decide), if_pos rfl, if_pos rfl]
    exact ⟨rfl, rfl⟩
  · right; right
    rw [e1] at h3
    rw [if_pos (by omega)] at z
    obtain ⟨k, hk⟩ : ∃ k : Nat, a.toInt = (k : Int) := ⟨a.toInt.toNat, by omega⟩
    have ea : a = nI k := i32 (by rw [hk, nI_toInt (by omega)])
    have ns : a.toNatClampNeg = k := toNat_is hk
    have ix : ((46 : Int32) + v.toInt32).toNatClampNeg = 46 + k := by rw [v32]; exact ixp 46 46 (by decide) (by decide) hk (by omega)
    have st := st_A e4 (k := k) (by omega)
    rw [h1, z, if_neg (show ¬ (2 : Int32) = 0 by decide), if_neg (show ¬ (2 : Int32) = 1 by decide), if_neg (show ¬ (1 : Int32) = 0 by decide), stI, ns, ix, ← st]
    by_cases y : stW s k = 0
    · right; rw [if_pos y, if_pos y]; exact ⟨rfl, rfl⟩
    · left; rw [if_neg y, if_neg y]; exact ⟨rfl, ⟨k, by omega, ea, y⟩, rfl⟩
theorem th_v {s h : Int32} (hs : iv 0 9999 s) (hh : iv 0 3 h) (h0 : ¬ stW s h.toNatClampNeg = 0) : ∃ P : Int, (pw h.toNatClampNeg).toInt = P ∧ (P = 1 ∨ P = 10 ∨ P = 100 ∨ P = 1000) ∧ (thF s h).toInt = s.toInt - (1 + (tkF s h.toNatClampNeg).toInt) * P := by
  obtain ⟨P, hP, hc⟩ := pw_v hh
  have s1 := hs.1
  have s2 := hs.2
  obtain ⟨d1, d2, d3⟩ := dg_v (s := s) (k := h.toNatClampNeg) s1 hP (by omega)
  have n0 : ¬ (stW s h.toNatClampNeg).toInt = 0 := fun z => h0 (Int32.toInt_inj.mp z)
  have g0 : 0 ≤ s.toInt / P := Int.ediv_nonneg s1 (by omega)
  have key : ((stW s h.toNatClampNeg - 1) * 2 + 1 - (stW s h.toNatClampNeg * 2 + tkF s h.toNatClampNeg)).toInt = -(1 + (tkF s h.toNatClampNeg).toInt) := by
    generalize eq1 : stW s h.toNatClampNeg = u at d2 n0 ⊢
    generalize eq2 : tkF s h.toNatClampNeg = v at d3 ⊢
    have u1 : 0 ≤ u.toInt ∧ u.toInt ≤ 4 := by omega
    have v1 : 0 ≤ v.toInt ∧ v.toInt ≤ 1 := by omega
    have a1 : (u - 1).toInt = u.toInt - 1 := by rw [Int32.toInt_sub, (by decide : (1 : Int32).toInt = 1), iv_bm (by omega) (by omega)]
    have a2 : ((u - 1) * 2).toInt = (u.toInt - 1) * 2 := by rw [Int32.toInt_mul, a1, (by decide : (2 : Int32).toInt = 2), iv_bm (by omega) (by omega)]
    have a3 : ((u - 1) * 2 + 1).toInt = (u.toInt - 1) * 2 + 1 := by rw [Int32.toInt_add, a2, (by decide : (1 : Int32).toInt = 1), iv_bm (by omega) (by omega)]
    have a4 : (u * 2).toInt = u.toInt * 2 := by rw [Int32.toInt_mul, (by decide : (2 : Int32).toInt = 2), iv_bm (by omega) (by omega)]
    have a5 : (u * 2 + v).toInt = u.toInt * 2 + v.toInt := by rw [Int32.toInt_add, a4, iv_bm (by omega) (by omega)]
    rw [Int32.toInt_sub, a3, a5, iv_bm (by omega) (by omega)]; omega
  have t1 : 0 ≤ (tkF s h.toNatClampNeg).toInt ∧ (tkF s h.toNatClampNeg).toInt ≤ 1 := by omega
  have two : 2 ≤ s.toInt / P := by omega
  have mul : (((stW s h.toNatClampNeg - 1) * 2 + 1 - (stW s h.toNatClampNeg * 2 + tkF s h.toNatClampNeg)) * pw h.toNatClampNeg).toInt = -(1 + (tkF s h.toNatClampNeg).toInt) * P := by
    rw [Int32.toInt_mul, key, hP]
    rcases hc with c | c | c | c <;> (rw [c]; exact iv_bm (by omega) (by omega))
  refine ⟨P, hP, hc, ?_⟩
  unfold thF
  rw [Int32.toInt_add, mul]
  rcases hc with c | c | c | c <;> (rw [c] at two ⊢; rw [iv_bm (by omega) (by omega)]; omega)
theorem thI (a s : Int32) : F_k_X9_takeByHand_0 a s = thF s a := rfl
theorem or_b : ∀ m : Nat, m < 16 → ∀ k : Nat, k < 4 → nI m ||| ((1 : Int32) <<< (nI k &&& 31)) = nI (if m / 2 ^ k % 2 = 1 then m else m + 2 ^ k) := by decide +kernel
/-- wood is taken by hand, on both sides -/
theorem th_R {n : Nat} {s w g : Int32} {A : Nat → Int32} {k : Nat} (h : SnR n s w g A 46) (hk : k < n) (h0 : ¬ stW s k = 0) : SnR n (thF s (nI k)) w g (F_k_X10_steals_0 (nI k) A) 46 ∧ AGR A (F_k_X10_steals_0 (nI k) A) ∧ ∀ j : Nat, 53 ≤ j → F_k_X10_steals_0 (nI k) A j = A j := by
  have sA := st_A h hk
  obtain ⟨d, b, h1, h2, h3, h4, h5, h6, h7⟩ := h
  have n4 := h1.1
  have nk : (nI k).toNatClampNeg = k := nI_clamp (by omega)
  have ik : (nI k).toInt = (k : Int) := nI_toInt (by omega)
  have v := SC_v h1 h2 (k := k) (by omega)
  have d0 : d k ≠ 0 := fun q => h0 (i32 (by rw [v.2.1, q]; decide))
  have r := fun i => DG_r h1 i
  have rk := r k
  have sr := SC_r h1 h2
  obtain ⟨P, hP, hc, tv⟩ := th_v (s := s) (h := nI k) sr (by unfold iv; rw [ik]; omega) (by rw [nk]; exact h0)
  rw [nk] at hP tv
  rw [v.2.2] at tv
  have ix : ((46 : Int32) + nI k).toNatClampNeg = 46 + k := ixp 46 46 (by decide) (by decide) ik (by omega)
  have E : F_k_X10_steals_0 (nI k) A = upd (upd A (46 + k) (A (46 + k) - 1)) 50 (A 50 ||| ((1 : Int32) <<< (nI k &&& 31))) := by
    simp only [F_k_X10_steals_0, bnd, nz50, ix]
  rw [E]
  have h4' : (A 50).toInt = b 0 + 2 * b 1 + 4 * b 2 + 8 * b 3 := h4
  have r0 := r 0
  have r1 := r 1
  have r2 := r 2
  have r3 := r 3
  have c50 := clampNat (x := A 50) (by omega)
  have e50 : nI (A 50).toNatClampNeg = A 50 := nIc (by omega)
  have ob := or_b (A 50).toNatClampNeg (by omega) k (by omega)
  rw [e50] at ob
  refine ⟨⟨fun i => if i = k then d k - 1 else d i, fun i => if i = k then 1 else b i, ⟨n4, fun i => ⟨fun hi => ?_, fun hi => ?_⟩⟩, ?_, fun i hi => ?_, ?_, ?_, h6, ?_⟩, fun j hj => ?_, fun j hj => ?_⟩
  · show 0 ≤ (if i = k then d k - 1 else d i) ∧ (if i = k then d k - 1 else d i) ≤ 4 ∧ 0 ≤ (if i = k then (1 : Int) else b i) ∧ (if i = k then (1 : Int) else b i) ≤ 1
    have ri := r i
    by_cases y : i = k
    · rw [if_pos y, if_pos y]; omega
    · rw [if_neg y, if_neg y]; omega
  · show (if i = k then d k - 1 else d i) = 0 ∧ (if i = k then (1 : Int) else b i) = 0
    rw [if_neg (by omega), if_neg (by omega)]; exact (h1.2 i).2 hi
  · unfold SC at h2 ⊢
    show (thF s (nI k)).toInt = _
    rw [tv]
    have c : k = 0 ∨ k = 1 ∨ k = 2 ∨ k = 3 := by omega
    rcases c with q | q | q | q
    · subst q
      have : P = 1 := hP.symm.trans (by decide)
      subst this
      simp only [Nat.reduceEqDiff, ↓reduceIte]; omega
    · subst q
      have : P = 10 := hP.symm.trans (by decide)
      subst this
      simp only [Nat.reduceEqDiff, ↓reduceIte]; omega
    · subst q
      have : P = 100 := hP.symm.trans (by decide)
      subst this
      simp only [Nat.reduceEqDiff, ↓reduceIte]; omega
    · subst q
      have : P = 1000 := hP.symm.trans (by decide)
      subst this
      simp only [Nat.reduceEqDiff, ↓reduceIte]; omega
  · show _ = if i = k then d k - 1 else d i
    rw [upd_ne (by omega)]
    by_cases y : i = k
    · subst y
      have dk := h3 i hk
      rw [upd_at, if_pos rfl, Int32.toInt_sub, dk, (by decide : (1 : Int32).toInt = 1), iv_bm (by omega) (by omega)]
    · rw [upd_ne (by omega), if_neg y]; exact h3 i hi
  · show (upd (upd A (46 + k) (A (46 + k) - 1)) 50 (A 50 ||| ((1 : Int32) <<< (nI k &&& 31))) (46 + 4)).toInt = _
    rw [upd_at, ob]
    have c : k = 0 ∨ k = 1 ∨ k = 2 ∨ k = 3 := by omega
    generalize (A 50).toNatClampNeg = m at c50
    rcases c with q | q | q | q
    · subst q
      simp only [Nat.reducePow, Nat.reduceEqDiff, ↓reduceIte]
      by_cases y : m / 1 % 2 = 1
      · rw [if_pos y, nI_toInt (by omega)]; omega
      · rw [if_neg y, nI_toInt (by omega)]; push_cast; omega
    · subst q
      simp only [Nat.reducePow, Nat.reduceEqDiff, ↓reduceIte]
      by_cases y : m / 2 % 2 = 1
      · rw [if_pos y, nI_toInt (by omega)]; omega
      · rw [if_neg y, nI_toInt (by omega)]; push_cast; omega
    · subst q
      simp only [Nat.reducePow, Nat.reduceEqDiff, ↓reduceIte]
      by_cases y : m / 4 % 2 = 1
      · rw [if_pos y, nI_toInt (by omega)]; omega
      · rw [if_neg y, nI_toInt (by omega)]; push_cast; omega
    · subst q
      simp only [Nat.reducePow, Nat.reduceEqDiff, ↓reduceIte]
      by_cases y : m / 8 % 2 = 1
      · rw [if_pos y, nI_toInt (by omega)]; omega
      · rw [if_neg y, nI_toInt (by omega)]; push_cast; omega
  · show upd (upd A (46 + k) (A (46 + k) - 1)) 50 (A 50 ||| ((1 : Int32) <<< (nI k &&& 31))) (46 + 5) = w
    rw [upd_ne (by omega), upd_ne (by omega)]; exact h5
  · show upd (upd A (46 + k) (A (46 + k) - 1)) 50 (A 50 ||| ((1 : Int32) <<< (nI k &&& 31))) (46 + 6) = g
    rw [upd_ne (by omega), upd_ne (by omega)]; exact h7
  · rw [upd_ne (by omega), upd_ne (by omega)]
  · rw [upd_ne (by omega), upd_ne (by omega)]

-- the deeds
theorem tdC {D : Nat → Int32} {v : Int64} {s w g hn : Int32} (h : v.toInt < 10 ∨ 29 < v.toInt) : F_k_X9_tryDeed_0 D v s w g hn = if F_k_X9_isNight_0 v hn = 0 then (1, s, w, g) else (0, bhS D s w v.toInt32 hn.toNatClampNeg, w, g + 1) := by
  have z10 : (10 : Int64).toInt = 10 := by decide
  have z20 : (20 : Int64).toInt = 20 := by decide
  have z19 : (19 : Int64).toInt = 19 := by decide
  have z29 : (29 : Int64).toInt = 29 := by decide
  simp only [F_k_X9_tryDeed_0, bnd]
  rcases h with h | h
  · rw [if_pos (show v < 10 from Int64.lt_iff_toInt_lt.mpr (by omega)), if_pos (show v < 20 from Int64.lt_iff_toInt_lt.mpr (by omega))]
  · rw [if_neg (show ¬ v < 10 from fun q => by rw [Int64.lt_iff_toInt_lt] at q; omega), if_pos (show (19 : Int64) < v from Int64.lt_iff_toInt_lt.mpr (by omega)), if_neg (show ¬ v < 20 from fun q => by rw [Int64.lt_iff_toInt_lt] at q; omega), if_pos (show (29 : Int64) < v from Int64.lt_iff_toInt_lt.mpr (by omega))]
theorem tdB {D : Nat → Int32} {v : Int64} {s w g hn : Int32} (h : 20 ≤ v.toInt ∧ v.toInt ≤ 29) : F_k_X9_tryDeed_0 D v s w g hn = (0, s, v.toInt32 - 20, g) := by
  have z10 : (10 : Int64).toInt = 10 := by decide
  have z20 : (20 : Int64).toInt = 20 := by decide
  have z19 : (19 : Int64).toInt = 19 := by decide
  have z29 : (29 : Int64).toInt = 29 := by decide
  simp only [F_k_X9_tryDeed_0, bnd]
  rw [if_neg (show ¬ v < 10 from fun q => by rw [Int64.lt_iff_toInt_lt] at q; omega), if_pos (show (19 : Int64) < v from Int64.lt_iff_toInt_lt.mpr (by omega)), if_neg (show ¬ v < 20 from fun q => by rw [Int64.lt_iff_toInt_lt] at q; omega), if_neg (show ¬ (29 : Int64) < v from fun q => by rw [Int64.lt_iff_toInt_lt] at q; omega)]
theorem tdA {D : Nat → Int32} {v : Int64} {s w g hn : Int32} (h : 10 ≤ v.toInt ∧ v.toInt ≤ 19) : F_k_X9_tryDeed_0 D v s w g hn = if F_k_X9_whyNoStealing_0 (v.toInt32 - 10) s hn = 0 then default else if F_k_X9_whyNoStealing_0 (v.toInt32 - 10) s hn = 1 then (1, s, w, g) else if F_k_X9_whyNoStealing_0 (v.toInt32 - 10) s hn = 2 then (0, thF s (v.toInt32 - 10), w, g) else (2, s, w, g) := by
  have z10 : (10 : Int64).toInt = 10 := by decide
  have z19 : (19 : Int64).toInt = 19 := by decide
  simp only [F_k_X9_tryDeed_0, bnd, thI]
  rw [if_neg (show ¬ v < 10 from fun q => by rw [Int64.lt_iff_toInt_lt] at q; omega), if_neg (show ¬ (19 : Int64) < v from fun q => by rw [Int64.lt_iff_toInt_lt] at q; omega)]
theorem v32_i {v : Int64} (h : -2147483648 ≤ v.toInt ∧ v.toInt ≤ 2147483647) : v.toInt32.toInt = v.toInt := by rw [Int64.toInt_toInt32]; exact iv_bm h.1 h.2
theorem doA {rk Wi A : Nat → Int32} {v x : Int32} (hv : v = x) (h : 10 ≤ x.toInt ∧ x.toInt < 20) : F_k_X10_does_0 v rk Wi A = (rk, Wi, F_k_X10_steals_0 (x - 10) A) := by
  subst hv
  simp only [F_k_X10_does_0, bnd]
  rw [if_pos (Int32.le_iff_toInt_le.mpr (by rw [(by decide : (10 : Int32).toInt = 10)]; omega)), if_neg (fun q => by rw [Int32.le_iff_toInt_le, (by decide : (20 : Int32).toInt = 20)] at q; omega)]
theorem doB {x : Int32} {rk Wi A : Nat → Int32} (h : 20 ≤ x.toInt) : F_k_X10_does_0 x rk Wi A = (rk, Wi, upd A 51 (x - 20)) := by
  simp only [F_k_X10_does_0, bnd, nz51]
  rw [if_pos (Int32.le_iff_toInt_le.mpr (by rw [(by decide : (10 : Int32).toInt = 10)]; omega)), if_pos (Int32.le_iff_toInt_le.mpr (by rw [(by decide : (20 : Int32).toInt = 20)]; omega))]
theorem doC {x : Int32} {rk Wi A : Nat → Int32} (h : x.toInt < 10) : F_k_X10_does_0 x rk Wi A = F_k_X10_goesNight_0 x rk Wi A := by
  simp only [F_k_X10_does_0, bnd]
  rw [if_neg (fun q => by rw [Int32.le_iff_toInt_le, (by decide : (10 : Int32).toInt = 10)] at q; omega)]
theorem wyN {v : Int64} {A : Nat → Int32} (h : v.toInt < 0 ∨ 29 < v.toInt) : F_k_X10_whyNot_0 v A = 1 := by
  have z0 : (0 : Int64).toInt = 0 := by decide
  have z9 : (9 : Int64).toInt = 9 := by decide
  have z10 : (10 : Int64).toInt = 10 := by decide
  have z19 : (19 : Int64).toInt = 19 := by decide
  have z20 : (20 : Int64).toInt = 20 := by decide
  have z29 : (29 : Int64).toInt = 29 := by decide
  simp only [F_k_X10_whyNot_0, bnd]
  rw [wiN9 (v := v) (lo := 0) (hi := 9) (by omega), if_pos rfl, wiN9 (v := v) (lo := 10) (hi := 19) (by omega), if_pos rfl, wiN9 (v := v) (lo := 20) (hi := 29) (by omega), if_pos rfl]
theorem wyC {v : Int64} {A : Nat → Int32} (h : 0 ≤ v.toInt ∧ v.toInt ≤ 9) : F_k_X10_whyNot_0 v A = if F_k_X10_isNight_0 v A = 0 then 1 else 0 := by
  have z0 : (0 : Int64).toInt = 0 := by decide
  have z9 : (9 : Int64).toInt = 9 := by decide
  simp only [F_k_X10_whyNot_0, bnd]
  rw [wiY9 (v := v) (lo := 0) (hi := 9) (by omega), if_neg (by decide)]
theorem wyB {v : Int64} {A : Nat → Int32} (h : 20 ≤ v.toInt ∧ v.toInt ≤ 29) : F_k_X10_whyNot_0 v A = 0 := by
  have z0 : (0 : Int64).toInt = 0 := by decide
  have z9 : (9 : Int64).toInt = 9 := by decide
  have z10 : (10 : Int64).toInt = 10 := by decide
  have z19 : (19 : Int64).toInt = 19 := by decide
  have z20 : (20 : Int64).toInt = 20 := by decide
  have z29 : (29 : Int64).toInt = 29 := by decide
  simp only [F_k_X10_whyNot_0, bnd]
  rw [wiN9 (v := v) (lo := 0) (hi := 9) (by omega), if_pos rfl, wiN9 (v := v) (lo := 10) (hi := 19) (by omega), if_pos rfl, wiY9 (v := v) (lo := 20) (hi := 29) (by omega), if_neg (by decide)]
theorem wyA {v : Int64} {A : Nat → Int32} (h : 10 ≤ v.toInt ∧ v.toInt ≤ 19) : F_k_X10_whyNot_0 v A = if F_k_X10_whySteal_0 (v - 10) A = 0 then 0 else if F_k_X10_whySteal_0 (v - 10) A = 1 then 1 else 2 := by
  have z0 : (0 : Int64).toInt = 0 := by decide
  have z9 : (9 : Int64).toInt = 9 := by decide
  have z10 : (10 : Int64).toInt = 10 := by decide
  have z19 : (19 : Int64).toInt = 19 := by decide
  simp only [F_k_X10_whyNot_0, bnd]
  rw [wiN9 (v := v) (lo := 0) (hi := 9) (by omega), if_pos rfl, wiY9 (v := v) (lo := 10) (hi := 19) (by omega), if_neg (by decide)]
/-- a deed, on both sides -/
def TD9 (n : Nat) (T : Int32 × Int32 × Int32 × Int32) (why : Int32) (s w g : Int32) (A A' : Nat → Int32) : Prop := T.1 = why ∧ (why = 0 → SnR n T.2.1 T.2.2.1 T.2.2.2 A' 46 ∧ AGR A A' ∧ ∀ j : Nat, 53 ≤ j → A' j = A j) ∧ (¬ why = 0 → T.2 = (s, w, g))
theorem td_R {n : Nat} {hn s w g : Int32} {A fe rk Wi : Nat → Int32} (c : CO9 n hn s w g A) (f : FE9 n fe A) (v : Int64) : TD9 n (F_k_X9_tryDeed_0 (DF A fe) v s w g hn) (F_k_X10_whyNot_0 v A) s w g A (F_k_X10_does_0 v.toInt32 rk Wi A).2.2 := by
  have c' := c
  obtain ⟨e1, e2, e3, e4, e5⟩ := c
  unfold TD9
  by_cases a : 10 ≤ v.toInt ∧ v.toInt ≤ 19
  · have i32v : v.toInt32.toInt = v.toInt := v32_i (by omega)
    have sb : (v.toInt32 - 10).toInt = v.toInt - 10 := by rw [Int32.toInt_sub, i32v, (by decide : (10 : Int32).toInt = 10), iv_bm (by omega) (by omega)]
    have sb6 : (v - 10).toInt = (v.toInt32 - 10).toInt := by rw [sb, Int64.toInt_sub, (by decide : (10 : Int64).toInt = 10)]; exact Int.bmod_eq_of_le (by omega) (by omega)
    rw [tdA a, wyA a, doA rfl (by omega)]
    rcases why_R c' sb6 with ⟨q1, q2, q3⟩ | ⟨q1, q3⟩ | ⟨q1, ⟨k, hk, ek, hs⟩, q3⟩ | ⟨q1, q3⟩
    · omega
    · rw [q1, q3, if_neg (by decide), if_pos rfl, if_neg (by decide), if_pos rfl]
      exact ⟨rfl, fun q => absurd q (by decide), fun _ => rfl⟩
    · rw [q1, q3, if_neg (by decide), if_neg (by decide), if_pos rfl, if_pos rfl, ek]
      exact ⟨rfl, fun _ => th_R e4 hk hs, fun q => absurd rfl q⟩
    · rw [q1, q3, if_neg (by decide), if_neg (by decide), if_neg (by decide), if_neg (by decide), if_neg (by decide)]
      exact ⟨rfl, fun q => absurd q (by decide), fun _ => rfl⟩
  · by_cases b : 20 ≤ v.toInt ∧ v.toInt ≤ 29
    · have i32v : v.toInt32.toInt = v.toInt := v32_i (by omega)
      have sb : (v.toInt32 - 20).toInt = v.toInt - 20 := by rw [Int32.toInt_sub, i32v, (by decide : (20 : Int32).toInt = 20), iv_bm (by omega) (by omega)]
      rw [tdB b, wyB b, doB (by omega)]
      refine ⟨rfl, fun _ => ⟨?_, fun j hj => upd_ne (by omega), fun j hj => upd_ne (by omega)⟩, fun q => absurd rfl q⟩
      obtain ⟨d, bb, h1, h2, h3, h4, h5, h6, h7⟩ := e4
      have E : SnR n s (v.toInt32 - 20) g (upd A 51 (v.toInt32 - 20)) 46 := by
        refine ⟨d, bb, h1, h2, fun k hk => by rw [upd_ne (by omega)]; exact h3 k hk, by rw [upd_ne (by decide)]; exact h4, upd_at, ?_, by rw [upd_ne (by decide)]; exact h7⟩
        unfold iv; rw [sb]; omega
      exact E
    · have o : v.toInt < 10 ∨ 29 < v.toInt := by omega
      rw [tdC o, nN c' v]
      have ez := nZ (v := v) (A := A) (by omega)
      by_cases y : v.toInt = 0 ∨ (0 < v.toInt ∧ v.toInt < (A 1).toInt)
      · rw [if_pos y] at ez
        have w9 : F_k_X10_whyNot_0 v A = 0 := by rw [wyC (by omega), ez, if_neg (by decide)]
        have i32v : v.toInt32.toInt = v.toInt := v32_i (by omega)
        rw [w9, ez, if_neg (by decide), doC (by omega)]
        refine ⟨rfl, fun _ => ?_, fun q => absurd rfl q⟩
        have hnN : hn.toNatClampNeg = n := by rw [e1]; exact toNat_is e2
        have G := F_gn (fog := v.toInt32) (rk := rk) (Wi := Wi) e2 e5 e4
        obtain ⟨d, bb, h1, h2, h3, h4, h5, h6, h7⟩ := e4
        have B := bh_F (fog := v.toInt32) h1 h2 h6 f n (Nat.le_refl _)
        rw [hnN]
        show SnR n (bhS (DF A fe) s w v.toInt32 n) w (g + 1) _ 46 ∧ _
        rw [B]; exact G
      · rw [if_neg y] at ez
        have w9 : F_k_X10_whyNot_0 v A = 1 := by
          by_cases z : 0 ≤ v.toInt ∧ v.toInt ≤ 9
          · rw [wyC z, ez, if_pos rfl]
          · exact wyN (by omega)
        rw [w9, ez, if_pos rfl]
        exact ⟨rfl, fun q => absurd q (by decide), fun _ => rfl⟩
