theorem nz0 : (0 : Int32).toNatClampNeg = 0 := by decide
theorem nz1 : (1 : Int32).toNatClampNeg = 1 := by decide
theorem nz2 : (2 : Int32).toNatClampNeg = 2 := by decide
theorem nz3 : (3 : Int32).toNatClampNeg = 3 := by decide
theorem nz4 : (4 : Int32).toNatClampNeg = 4 := by decide
theorem nz5 : (5 : Int32).toNatClampNeg = 5 := by decide
theorem nz6 : (6 : Int32).toNatClampNeg = 6 := by decide
theorem nz7 : (7 : Int32).toNatClampNeg = 7 := by decide
theorem nz8 : (8 : Int32).toNatClampNeg = 8 := by decide
theorem nz9 : (9 : Int32).toNatClampNeg = 9 := by decide
theorem nz10 : (10 : Int32).toNatClampNeg = 10 := by decide
theorem nz11 : (11 : Int32).toNatClampNeg = 11 := by decide
theorem nz12 : (12 : Int32).toNatClampNeg = 12 := by decide
theorem nz13 : (13 : Int32).toNatClampNeg = 13 := by decide
theorem nz14 : (14 : Int32).toNatClampNeg = 14 := by decide
theorem nz15 : (15 : Int32).toNatClampNeg = 15 := by decide
theorem nz16 : (16 : Int32).toNatClampNeg = 16 := by decide
theorem nz17 : (17 : Int32).toNatClampNeg = 17 := by decide
theorem nz18 : (18 : Int32).toNatClampNeg = 18 := by decide
theorem nz19 : (19 : Int32).toNatClampNeg = 19 := by decide
theorem nz20 : (20 : Int32).toNatClampNeg = 20 := by decide
theorem nz22 : (22 : Int32).toNatClampNeg = 22 := by decide
theorem nz41 : (41 : Int32).toNatClampNeg = 41 := by decide
theorem nz46 : (46 : Int32).toNatClampNeg = 46 := by decide
theorem nz47 : (47 : Int32).toNatClampNeg = 47 := by decide
theorem nz48 : (48 : Int32).toNatClampNeg = 48 := by decide
theorem nz49 : (49 : Int32).toNatClampNeg = 49 := by decide
theorem nz50 : (50 : Int32).toNatClampNeg = 50 := by decide
theorem nz51 : (51 : Int32).toNatClampNeg = 51 := by decide
theorem nz52 : (52 : Int32).toNatClampNeg = 52 := by decide
theorem nz53 : (53 : Int32).toNatClampNeg = 53 := by decide
theorem nz54 : (54 : Int32).toNatClampNeg = 54 := by decide
theorem nz55 : (55 : Int32).toNatClampNeg = 55 := by decide
theorem nz56 : (56 : Int32).toNatClampNeg = 56 := by decide
theorem nz57 : (57 : Int32).toNatClampNeg = 57 := by decide
theorem nz58 : (58 : Int32).toNatClampNeg = 58 := by decide
theorem nz100 : (100 : Int32).toNatClampNeg = 100 := by decide
theorem nz124 : (124 : Int32).toNatClampNeg = 124 := by decide
theorem nz125 : (125 : Int32).toNatClampNeg = 125 := by decide
theorem nq_m1_0 : ((-1 : Int32) = 0) = False := eq_false (by decide)
theorem nq_m1_1 : ((-1 : Int32) = 1) = False := eq_false (by decide)
theorem nq_m1_2 : ((-1 : Int32) = 2) = False := eq_false (by decide)
theorem nq_m1_3 : ((-1 : Int32) = 3) = False := eq_false (by decide)
theorem nq_m1_4 : ((-1 : Int32) = 4) = False := eq_false (by decide)
theorem nq_0_m1 : ((0 : Int32) = -1) = False := eq_false (by decide)
theorem nq_0_1 : ((0 : Int32) = 1) = False := eq_false (by decide)
theorem nq_0_2 : ((0 : Int32) = 2) = False := eq_false (by decide)
theorem nq_0_3 : ((0 : Int32) = 3) = False := eq_false (by decide)
theorem nq_0_4 : ((0 : Int32) = 4) = False := eq_false (by decide)
theorem nq_1_m1 : ((1 : Int32) = -1) = False := eq_false (by decide)
theorem nq_1_0 : ((1 : Int32) = 0) = False := eq_false (by decide)
theorem nq_1_2 : ((1 : Int32) = 2) = False := eq_false (by decide)
theorem nq_1_3 : ((1 : Int32) = 3) = False := eq_false (by decide)
theorem nq_1_4 : ((1 : Int32) = 4) = False := eq_false (by decide)
theorem nq_2_m1 : ((2 : Int32) = -1) = False := eq_false (by decide)
theorem nq_2_0 : ((2 : Int32) = 0) = False := eq_false (by decide)
theorem nq_2_1 : ((2 : Int32) = 1) = False := eq_false (by decide)
theorem nq_2_3 : ((2 : Int32) = 3) = False := eq_false (by decide)
theorem nq_2_4 : ((2 : Int32) = 4) = False := eq_false (by decide)
theorem nq_3_m1 : ((3 : Int32) = -1) = False := eq_false (by decide)
theorem nq_3_0 : ((3 : Int32) = 0) = False := eq_false (by decide)
theorem nq_3_1 : ((3 : Int32) = 1) = False := eq_false (by decide)
theorem nq_3_2 : ((3 : Int32) = 2) = False := eq_false (by decide)
theorem nq_3_4 : ((3 : Int32) = 4) = False := eq_false (by decide)
theorem nq_4_m1 : ((4 : Int32) = -1) = False := eq_false (by decide)
theorem nq_4_0 : ((4 : Int32) = 0) = False := eq_false (by decide)
theorem nq_4_1 : ((4 : Int32) = 1) = False := eq_false (by decide)
theorem nq_4_2 : ((4 : Int32) = 2) = False := eq_false (by decide)
theorem nq_4_3 : ((4 : Int32) = 3) = False := eq_false (by decide)
theorem dgo_0 : F_k_X10_digitOf_0 0 = 3 := by decide
theorem dgo_1 : F_k_X10_digitOf_0 1 = 2 := by decide
theorem dgo_2 : F_k_X10_digitOf_0 2 = 1 := by decide
theorem dgo_3 : F_k_X10_digitOf_0 3 = 0 := by decide

theorem cl_t {v : Int64} : (if v ≤ 1000000 then (if (-1000000) ≤ v then v.toInt32 else -1000000) else 1000000) = clL v := by
  unfold clL
  by_cases h : 1000000 < v
  · rw [if_pos h, if_neg (Int64.not_le.mpr h)]
  · rw [if_neg h, if_pos (Int64.not_lt.mp h)]
    by_cases g : v < -1000000
    · rw [if_pos g, if_neg (Int64.not_le.mpr g)]
    · rw [if_neg g, if_pos (Int64.not_lt.mp g)]
theorem bw_F {c a b : Int32} (hc : J2 c a b) : F_k_X10_between_0 c a b = btF c a b := by
  rw [← jn_bt hc]
  unfold J2 at hc
  rcases hc with h | h | h | h | h | h | ⟨h, ha, hb⟩
  · subst h
    simp only [F_k_X10_between_0, bnd]
    rw [if_neg (by decide), if_neg (by decide), if_neg (by decide), if_neg (by decide), if_neg (by decide), if_neg (by decide), if_pos trivial]
    exact cl_t
  · subst h
    simp only [F_k_X10_between_0, bnd]
    rw [if_neg (by decide), if_neg (by decide), if_neg (by decide), if_neg (by decide), if_neg (by decide), if_neg (by decide), if_neg (by decide), if_pos trivial]
    exact cl_t
  · subst h
    simp only [F_k_X10_between_0, bnd]
    rw [if_neg (by decide), if_neg (by decide), if_neg (by decide), if_neg (by decide), if_neg (by decide), if_neg (by decide), if_neg (by decide), if_neg (by decide)]
    exact cl_t
  · subst h
    rw [jn_bt (Or.inr (Or.inr (Or.inr (Or.inl rfl))))]
    simp only [F_k_X10_between_0, bnd]
    rw [if_pos trivial]; rfl
  · subst h
    rw [jn_bt (Or.inr (Or.inr (Or.inr (Or.inr (Or.inl rfl)))))]
    simp only [F_k_X10_between_0, bnd]
    rw [if_neg (by decide), if_pos trivial]
    show _ = (if a < b then 1 else 0)
    by_cases q : a < b
    · rw [if_pos q, if_neg (Int32.not_le.mpr q)]
    · rw [if_neg q, if_pos (Int32.not_lt.mp q)]
  · subst h
    rw [jn_bt (Or.inr (Or.inr (Or.inr (Or.inr (Or.inr (Or.inl rfl))))))]
    simp only [F_k_X10_between_0, bnd]
    rw [if_neg (by decide), if_neg (by decide), if_pos trivial]
    show _ = (if b < a then 1 else 0)
    by_cases q : b < a
    · rw [if_pos q, if_neg (Int32.not_le.mpr q)]
    · rw [if_neg q, if_pos (Int32.not_lt.mp q)]
  · rw [jn_bt (Or.inr (Or.inr (Or.inr (Or.inr (Or.inr (Or.inr ⟨h, ha, hb⟩))))))]
    rcases h with h | h
    · subst h
      simp only [F_k_X10_between_0, bnd]
      rw [if_neg (by decide), if_neg (by decide), if_neg (by decide), if_neg (by decide), if_pos trivial]; rfl
    · subst h
      simp only [F_k_X10_between_0, bnd]
      rw [if_neg (by decide), if_neg (by decide), if_neg (by decide), if_neg (by decide), if_neg (by decide), if_pos trivial]; rfl

theorem rkB_0 {w f A : Nat → Int32} {k n c : Int32} {st st' : List Bool} {V : List Int32} (hk : ¬ A (8 : Int32).toNatClampNeg ≤ k) (ec : A ((125 : Int32) + A (6 : Int32).toNatClampNeg + k).toNatClampNeg = c) (h : tcT st c = some st') (g : VT st V) (hS : RPs f V) (ht : n.toInt = (V.length : Int)) (hl : V.length ≤ 64) (hc : CR c) : B_k_X10_reckons_0_1 A w k n f = Sum.inl (k + 1, (rkT w f n c).2, (rkT w f n c).1) := by
  unfold B_k_X10_reckons_0_1
  simp only [bnd]
  rw [if_neg hk, ec]
  unfold rkT
  by_cases z : c < 3000
  · rw [if_pos z, if_neg (Int32.not_le.mpr z)]
    unfold stV
    by_cases y : c < 1000
    · rw [if_pos y, if_neg (Int32.not_le.mpr y)]
    · rw [if_neg y, if_pos (Int32.not_lt.mp y)]
  · rw [if_neg z, if_pos (Int32.not_lt.mp z)]
    by_cases z6 : c = 3006
    · rw [if_pos z6, if_pos z6]
    · rw [if_neg z6, if_neg z6]
      by_cases z9 : c = 3009
      · rw [if_pos z9, if_pos z9]
        by_cases y : f (n + (-2) - 1).toNatClampNeg = 1
        · rw [if_pos y, if_pos y]
        · rw [if_neg y, if_neg y]
      · rw [if_neg z9, if_neg z9]
        rcases ev_c h g hc with ⟨q, _⟩ | ⟨q, _⟩ | ⟨q, _⟩ | ⟨_, _, _, b, a, r, q, hj⟩
        · exact absurd q z
        · exact absurd q z6
        · exact absurd q z9
        · subst q
          rw [iv_cs, iv_cs] at ht hl
          have n1 := t_add n (-1) (r.length + 1) ht (by omega) (by rw [(by decide : (-1 : Int32).toInt = -1)]; push_cast; omega) (by omega)
          have i1 := t_sub (n + (-1)) 1 r.length n1.2 (by omega) (by rw [(by decide : (1 : Int32).toInt = 1)]; push_cast; omega) (by omega)
          have s1 : f (r.length + 1) = b := hS.1
          have s2 : f r.length = a := hS.2.1
          rw [i1.1, n1.1, s1, s2, bw_F hj]
theorem rkF_0 {rk w A : Nat → Int32} {L : List Int32} {ty : Bool} {fr : Nat} (hm : (A 8).toInt = (L.length : Int)) (hf : (A 6).toInt = (fr : Int)) (hb : fr + L.length ≤ 900) (hA : ∀ j : Nat, j < L.length → A (125 + fr + j) = L.getD j 0) (ht : trT [] L = some [ty]) (hc : ∀ j : Nat, j < L.length → CR (L.getD j 0)) : evL w [] L = [(F_k_X10_reckons_0 rk w A).1] ∧ (ty = true → (F_k_X10_reckons_0 rk w A).1 = 0 ∨ (F_k_X10_reckons_0 rk w A).1 = 1) := by
  have m8 : (8 : Int32).toNatClampNeg = 8 := by decide
  have f6 : (6 : Int32).toNatClampNeg = 6 := by decide
  unfold F_k_X10_reckons_0
  refine W9_rule (fun x : Int32 × Int32 × (Nat → Int32) => 0 ≤ x.1.toInt ∧ x.1.toInt ≤ (L.length : Int) ∧ AT9 w L [ty] x.2.2 x.2.1 x.1.toNatClampNeg) (fun r : Int32 × (Nat → Int32) => evL w [] L = [r.1] ∧ (ty = true → r.1 = 0 ∨ r.1 = 1)) (fun x => ((L.length : Int) - x.1.toInt).toNat) ?_ ⟨(by decide : (0 : Int) ≤ (0 : Int32).toInt), (by rw [(by decide : (0 : Int32).toInt = 0)]; omega : (0 : Int32).toInt ≤ (L.length : Int)), AT9_0 ht⟩
  rintro ⟨k, n, f⟩ ⟨k0, k1, h⟩
  have k0 : 0 ≤ k.toInt := k0
  have k1 : k.toInt ≤ (L.length : Int) := k1
  have h : AT9 w L [ty] f n k.toNatClampNeg := h
  have ck := clampNat k0
  by_cases z : k.toInt < (L.length : Int)
  · left
    obtain ⟨st, st', g1, g2, g3, g4, g5, g6⟩ := AT9_n (by omega) h
    have e1 := inc_toInt (c := k) (c' := k + 1) (a := 0) (b := 900) rfl ⟨k0, by omega⟩ (by decide)
    have c2 := clampNat (x := k + 1) (by omega)
    have en : (k + 1).toNatClampNeg = k.toNatClampNeg + 1 := by omega
    have hc' := hc k.toNatClampNeg (by omega)
    have px : ((125 : Int32) + A (6 : Int32).toNatClampNeg + k).toNatClampNeg = 125 + fr + k.toNatClampNeg := by
      have q1 : ((125 : Int32) + A (6 : Int32).toNatClampNeg).toInt = 125 + (fr : Int) := by rw [f6, Int32.toInt_add, hf, (by decide : (125 : Int32).toInt = 125), iv_bm (by omega) (by omega)]
      have q2 : ((125 : Int32) + A (6 : Int32).toNatClampNeg + k).toInt = 125 + (fr : Int) + k.toInt := by rw [Int32.toInt_add, q1, iv_bm (by omega) (by omega)]
      have := clampNat (x := (125 : Int32) + A (6 : Int32).toNatClampNeg + k) (by omega)
      omega
    have ec : A ((125 : Int32) + A (6 : Int32).toNatClampNeg + k).toNatClampNeg = L.getD k.toNatClampNeg 0 := by rw [px]; exact hA _ (by omega)
    have hk : ¬ A (8 : Int32).toNatClampNeg ≤ k := by rw [m8, Int32.le_iff_toInt_le, hm]; omega
    have r9 := rk_ev g1 g2 g3 g4 g5 hc' (w := w)
    refine ⟨(k + 1, (rkT w f n (L.getD k.toNatClampNeg 0)).2, (rkT w f n (L.getD k.toNatClampNeg 0)).1), rkB_0 hk ec g1 g2 g3 g4 g5 hc', ⟨?_, ?_, ?_⟩, ?_⟩
    · show 0 ≤ (k + 1).toInt; omega
    · show (k + 1).toInt ≤ (L.length : Int); omega
    · show AT9 w L [ty] (rkT w f n (L.getD k.toNatClampNeg 0)).1 (rkT w f n (L.getD k.toNatClampNeg 0)).2 (k + 1).toNatClampNeg
      rw [en]; exact g6 _ _ r9.1 r9.2
    · show ((L.length : Int) - (k + 1).toInt).toNat < ((L.length : Int) - k.toInt).toNat; omega
  · right
    have kl : k.toNatClampNeg = L.length := by omega
    rw [kl] at h
    have a9 := AT9_e h
    have f0 : (0 : Int32).toNatClampNeg = 0 := by decide
    refine ⟨(f 0, f), ?_, a9⟩
    show B_k_X10_reckons_0_1 A w k n f = Sum.inr (f 0, f)
    unfold B_k_X10_reckons_0_1
    simp only [bnd]
    rw [if_pos (by rw [m8, Int32.le_iff_toInt_le, hm]; omega), f0]

theorem rkB_1 {w f A : Nat → Int32} {k n c : Int32} {st st' : List Bool} {V : List Int32} (hk : ¬ A (9 : Int32).toNatClampNeg ≤ k) (ec : A ((125 : Int32) + A (7 : Int32).toNatClampNeg + k).toNatClampNeg = c) (h : tcT st c = some st') (g : VT st V) (hS : RPs f V) (ht : n.toInt = (V.length : Int)) (hl : V.length ≤ 64) (hc : CR c) : B_k_X10_reckons_1_1 A w k n f = Sum.inl (k + 1, (rkT w f n c).2, (rkT w f n c).1) := by
  unfold B_k_X10_reckons_1_1
  simp only [bnd]
  rw [if_neg hk, ec]
  unfold rkT
  by_cases z : c < 3000
  · rw [if_pos z, if_neg (Int32.not_le.mpr z)]
    unfold stV
    by_cases y : c < 1000
    · rw [if_pos y, if_neg (Int32.not_le.mpr y)]
    · rw [if_neg y, if_pos (Int32.not_lt.mp y)]
  · rw [if_neg z, if_pos (Int32.not_lt.mp z)]
    by_cases z6 : c = 3006
    · rw [if_pos z6, if_pos z6]
    · rw [if_neg z6, if_neg z6]
      by_cases z9 : c = 3009
      · rw [if_pos z9, if_pos z9]
        by_cases y : f (n + (-2) - 1).toNatClampNeg = 1
        · rw [if_pos y, if_pos y]
        · rw [if_neg y, if_neg y]
      · rw [if_neg z9, if_neg z9]
        rcases ev_c h g hc with ⟨q, _⟩ | ⟨q, _⟩ | ⟨q, _⟩ | ⟨_, _, _, b, a, r, q, hj⟩
        · exact absurd q z
        · exact absurd q z6
        · exact absurd q z9
        · subst q
          rw [iv_cs, iv_cs] at ht hl
          have n1 := t_add n (-1) (r.length + 1) ht (by omega) (by rw [(by decide : (-1 : Int32).toInt = -1)]; push_cast; omega) (by omega)
          have i1 := t_sub (n + (-1)) 1 r.length n1.2 (by omega) (by rw [(by decide : (1 : Int32).toInt = 1)]; push_cast; omega) (by omega)
          have s1 : f (r.length + 1) = b := hS.1
          have s2 : f r.length = a := hS.2.1
          rw [i1.1, n1.1, s1, s2, bw_F hj]
theorem rkF_1 {rk w A : Nat → Int32} {L : List Int32} {ty : Bool} {fr : Nat} (hm : (A 9).toInt = (L.length : Int)) (hf : (A 7).toInt = (fr : Int)) (hb : fr + L.length ≤ 900) (hA : ∀ j : Nat, j < L.length → A (125 + fr + j) = L.getD j 0) (ht : trT [] L = some [ty]) (hc : ∀ j : Nat, j < L.length → CR (L.getD j 0)) : evL w [] L = [(F_k_X10_reckons_1 rk w A).1] ∧ (ty = true → (F_k_X10_reckons_1 rk w A).1 = 0 ∨ (F_k_X10_reckons_1 rk w A).1 = 1) := by
  have m8 : (9 : Int32).toNatClampNeg = 9 := by decide
  have f6 : (7 : Int32).toNatClampNeg = 7 := by decide
  unfold F_k_X10_reckons_1
  refine W9_rule (fun x : Int32 × Int32 × (Nat → Int32) => 0 ≤ x.1.toInt ∧ x.1.toInt ≤ (L.length : Int) ∧ AT9 w L [ty] x.2.2 x.2.1 x.1.toNatClampNeg) (fun r : Int32 × (Nat → Int32) => evL w [] L = [r.1] ∧ (ty = true → r.1 = 0 ∨ r.1 = 1)) (fun x => ((L.length : Int) - x.1.toInt).toNat) ?_ ⟨(by decide : (0 : Int) ≤ (0 : Int32).toInt), (by rw [(by decide : (0 : Int32).toInt = 0)]; omega : (0 : Int32).toInt ≤ (L.length : Int)), AT9_0 ht⟩
  rintro ⟨k, n, f⟩ ⟨k0, k1, h⟩
  have k0 : 0 ≤ k.toInt := k0
  have k1 : k.toInt ≤ (L.length : Int) := k1
  have h : AT9 w L [ty] f n k.toNatClampNeg := h
  have ck := clampNat k0
  by_cases z : k.toInt < (L.length : Int)
  · left
    obtain ⟨st, st', g1, g2, g3, g4, g5, g6⟩ := AT9_n (by omega) h
    have e1 := inc_toInt (c := k) (c' := k + 1) (a := 0) (b := 900) rfl ⟨k0, by omega⟩ (by decide)
    have c2 := clampNat (x := k + 1) (by omega)
    have en : (k + 1).toNatClampNeg = k.toNatClampNeg + 1 := by omega
    have hc' := hc k.toNatClampNeg (by omega)
    have px : ((125 : Int32) + A (7 : Int32).toNatClampNeg + k).toNatClampNeg = 125 + fr + k.toNatClampNeg := by
      have q1 : ((125 : Int32) + A (7 : Int32).toNatClampNeg).toInt = 125 + (fr : Int) := by rw [f6, Int32.toInt_add, hf, (by decide : (125 : Int32).toInt = 125), iv_bm (by omega) (by omega)]
      have q2 : ((125 : Int32) + A (7 : Int32).toNatClampNeg + k).toInt = 125 + (fr : Int) + k.toInt := by rw [Int32.toInt_add, q1, iv_bm (by omega) (by omega)]
      have := clampNat (x := (125 : Int32) + A (7 : Int32).toNatClampNeg + k) (by omega)
      omega
    have ec : A ((125 : Int32) + A (7 : Int32).toNatClampNeg + k).toNatClampNeg = L.getD k.toNatClampNeg 0 := by rw [px]; exact hA _ (by omega)
    have hk : ¬ A (9 : Int32).toNatClampNeg ≤ k := by rw [m8, Int32.le_iff_toInt_le, hm]; omega
    have r9 := rk_ev g1 g2 g3 g4 g5 hc' (w := w)
    refine ⟨(k + 1, (rkT w f n (L.getD k.toNatClampNeg 0)).2, (rkT w f n (L.getD k.toNatClampNeg 0)).1), rkB_1 hk ec g1 g2 g3 g4 g5 hc', ⟨?_, ?_, ?_⟩, ?_⟩
    · show 0 ≤ (k + 1).toInt; omega
    · show (k + 1).toInt ≤ (L.length : Int); omega
    · show AT9 w L [ty] (rkT w f n (L.getD k.toNatClampNeg 0)).1 (rkT w f n (L.getD k.toNatClampNeg 0)).2 (k + 1).toNatClampNeg
      rw [en]; exact g6 _ _ r9.1 r9.2
    · show ((L.length : Int) - (k + 1).toInt).toNat < ((L.length : Int) - k.toInt).toNat; omega
  · right
    have kl : k.toNatClampNeg = L.length := by omega
    rw [kl] at h
    have a9 := AT9_e h
    have f0 : (0 : Int32).toNatClampNeg = 0 := by decide
    refine ⟨(f 0, f), ?_, a9⟩
    show B_k_X10_reckons_1_1 A w k n f = Sum.inr (f 0, f)
    unfold B_k_X10_reckons_1_1
    simp only [bnd]
    rw [if_pos (by rw [m8, Int32.le_iff_toInt_le, hm]; omega), f0]

/-- stacks and who took, hill by hill -/
def DG (n : Nat) (d b : Nat → Int) : Prop := n ≤ 4 ∧ ∀ k : Nat, (k < n → 0 ≤ d k ∧ d k ≤ 4 ∧ 0 ≤ b k ∧ b k ≤ 1) ∧ (n ≤ k → d k = 0 ∧ b k = 0)
theorem DG_r {n : Nat} {d b : Nat → Int} (h : DG n d b) (k : Nat) : 0 ≤ d k ∧ d k ≤ 4 ∧ 0 ≤ b k ∧ b k ≤ 1 := by
  by_cases z : k < n
  · exact (h.2 k).1 z
  · have := (h.2 k).2 (by omega); omega
/-- the class's standing; the reference's stand -/
def SC (d b : Nat → Int) (s : Int32) : Prop := s.toInt = (2 * d 0 + b 0) + 10 * (2 * d 1 + b 1) + 100 * (2 * d 2 + b 2) + 1000 * (2 * d 3 + b 3)
def SZ (d b : Nat → Int) (z : Int32) : Prop := z.toInt = d 0 + 5 * d 1 + 25 * d 2 + 125 * d 3 + 625 * (b 0 + 2 * b 1 + 4 * b 2 + 8 * b 3)
theorem k4 {k : Nat} (h : k < 4) : k = 0 ∨ k = 1 ∨ k = 2 ∨ k = 3 := by omega
theorem SC_v {n : Nat} {d b : Nat → Int} {s : Int32} (hd : DG n d b) (h : SC d b s) {k : Nat} (hk : k < 4) : (dgW s k).toInt = 2 * d k + b k ∧ (stW s k).toInt = d k ∧ (tkF s k).toInt = b k := by
  have r0 := DG_r hd 0
  have r1 := DG_r hd 1
  have r2 := DG_r hd 2
  have r3 := DG_r hd 3
  unfold SC at h
  rcases k4 hk with z | z | z | z
  · subst z
    obtain ⟨a, c, e⟩ := dg_v (s := s) (k := 0) (P := 1) (by omega) (by decide) (by decide)
    rw [a, c, e]; omega
  · subst z
    obtain ⟨a, c, e⟩ := dg_v (s := s) (k := 1) (P := 10) (by omega) (by decide) (by decide)
    rw [a, c, e]; omega
  · subst z
    obtain ⟨a, c, e⟩ := dg_v (s := s) (k := 2) (P := 100) (by omega) (by decide) (by decide)
    rw [a, c, e]; omega
  · subst z
    obtain ⟨a, c, e⟩ := dg_v (s := s) (k := 3) (P := 1000) (by omega) (by decide) (by decide)
    rw [a, c, e]; omega
theorem stI (s h : Int32) : F_k_X9_stackIn_0 s h = stW s h.toNatClampNeg := rfl
theorem tkI (s h : Int32) : F_k_X9_tookIn_0 s h = tkF s h.toNatClampNeg := rfl
theorem SZ_r {n : Nat} {d b : Nat → Int} {z : Int32} (hd : DG n d b) (h : SZ d b z) : 0 ≤ z.toInt ∧ z.toInt ≤ 9999 := by
  have r0 := DG_r hd 0
  have r1 := DG_r hd 1
  have r2 := DG_r hd 2
  have r3 := DG_r hd 3
  unfold SZ at h
  omega
theorem SC_r {n : Nat} {d b : Nat → Int} {s : Int32} (hd : DG n d b) (h : SC d b s) : iv 0 9999 s := by
  have r0 := DG_r hd 0
  have r1 := DG_r hd 1
  have r2 := DG_r hd 2
  have r3 := DG_r hd 3
  unfold SC at h
  unfold iv
  omega
theorem i32 {x : Int32} {k : Int32} (h : x.toInt = k.toInt) : x = k := Int32.toInt_inj.mp h
/-- the reference's digits -/
theorem SZ_st {n : Nat} {d b : Nat → Int} {z : Int32} (hd : DG n d b) (h : SZ d b z) {x : Int32} {k : Nat} (hx : x.toInt = (k : Int)) (hk : k < 4) : (F_k_X10_stackIn_0 z x).toInt = d k := by
  have r0 := DG_r hd 0
  have r1 := DG_r hd 1
  have r2 := DG_r hd 2
  have r3 := DG_r hd 3
  have zr := SZ_r hd h
  have m0 : (rmF z 625).toInt = z.toInt % 625 := rm_toInt (by omega) (by decide)
  unfold SZ at h
  rcases k4 hk with q | q | q | q
  · subst q
    have e : x = 0 := i32 (by rw [hx]; decide)
    subst e
    have e2 : F_k_X10_stackIn_0 z 0 = rmF (rmF z 625 / 1) 5 := by
      simp only [F_k_X10_stackIn_0, bnd]
      rw [if_neg (by decide), if_neg (by decide), if_neg (by decide)]; rfl
    have a1 : (rmF z 625 / 1).toInt = z.toInt % 625 / 1 := by rw [dv_toInt (by omega) (by decide), m0]; rfl
    rw [e2, rm_toInt (by omega) (by decide), a1]
    show z.toInt % 625 / 1 % 5 = d 0
    omega
  · subst q
    have e : x = 1 := i32 (by rw [hx]; decide)
    subst e
    have e2 : F_k_X10_stackIn_0 z 1 = rmF (rmF z 625 / 5) 5 := by
      simp only [F_k_X10_stackIn_0, bnd]
      rw [if_neg (by decide), if_neg (by decide), if_pos (by decide)]; rfl
    have a1 : (rmF z 625 / 5).toInt = z.toInt % 625 / 5 := by rw [dv_toInt (by omega) (by decide), m0]; rfl
    rw [e2, rm_toInt (by omega) (by decide), a1]
    show z.toInt % 625 / 5 % 5 = d 1
    omega
  · subst q
    have e : x = 2 := i32 (by rw [hx]; decide)
    subst e
    have e2 : F_k_X10_stackIn_0 z 2 = rmF (rmF z 625 / 25) 5 := by
      simp only [F_k_X10_stackIn_0, bnd]
      rw [if_neg (by decide), if_pos (by decide)]; rfl
    have a1 : (rmF z 625 / 25).toInt = z.toInt % 625 / 25 := by rw [dv_toInt (by omega) (by decide), m0]; rfl
    rw [e2, rm_toInt (by omega) (by decide), a1]
    show z.toInt % 625 / 25 % 5 = d 2
    omega
  · subst q
    have e : x = 3 := i32 (by rw [hx]; decide)
    subst e
    have e2 : F_k_X10_stackIn_0 z 3 = rmF (rmF z 625 / 125) 5 := by
      simp only [F_k_X10_stackIn_0, bnd]
      rw [if_pos (by decide)]; rfl
    have a1 : (rmF z 625 / 125).toInt = z.toInt % 625 / 125 := by rw [dv_toInt (by omega) (by decide), m0]; rfl
    rw [e2, rm_toInt (by omega) (by decide), a1]
    show z.toInt % 625 / 125 % 5 = d 3
    omega
theorem SZ_tk {n : Nat} {d b : Nat → Int} {z : Int32} (hd : DG n d b) (h : SZ d b z) : (F_k_X10_tookIn_0 z).toInt = b 0 + 2 * b 1 + 4 * b 2 + 8 * b 3 := by
  have r0 := DG_r hd 0
  have r1 := DG_r hd 1
  have r2 := DG_r hd 2
  have r3 := DG_r hd 3
  have zr := SZ_r hd h
  have e : F_k_X10_tookIn_0 z = z / 625 := rfl
  rw [e, dv_toInt (by omega) (by decide)]
  show z.toInt / 625 = _
  unfold SZ at h
  omega
theorem isIn_t : ∀ m : Nat, m < 16 → ∀ k : Nat, k < 4 → F_k_X10_isIn_0 (nI m).toInt64 (nI k) = if m / 2 ^ k % 2 = 1 then 1 else 0 := by decide +kernel
theorem isIn_v {t x : Int32} {m k : Nat} (ht : t.toInt = (m : Int)) (hm : m < 16) (hx : x.toInt = (k : Int)) (hk : k < 4) : F_k_X10_isIn_0 t.toInt64 x = if m / 2 ^ k % 2 = 1 then 1 else 0 := by
  have e1 : t = nI m := i32 (by rw [ht, nI_toInt (by omega)])
  have e2 : x = nI k := i32 (by rw [hx, nI_toInt (by omega)])
  rw [e1, e2]; exact isIn_t m hm k hk

/-- the words of a hill -/
def wdF (h st we se fe w : Int32) : Nat → Int32
  | 0 => h
  | 1 => st
  | 2 => we
  | 3 => se
  | 4 => fe
  | _ => w
def WQ (W W' : Nat → Int32) : Prop := ∀ j : Nat, j < 6 → W j = W' j
theorem stV_cg {W W' : Nat → Int32} {c : Int32} (h : WQ W W') (hc : CR c) (hl : c < 3000) : stV W c = stV W' c := by
  unfold stV
  have l := Int32.lt_iff_toInt_lt.mp hl
  rw [(by decide : (3000 : Int32).toInt = 3000)] at l
  have hc1 := hc.1
  have hc2 := hc.2.1
  by_cases z : c < 1000
  · rw [if_pos z, if_pos z]
  · rw [if_neg z, if_neg z]
    have z' : 1000 ≤ c.toInt := by rw [Int32.lt_iff_toInt_lt, (by decide : (1000 : Int32).toInt = 1000)] at z; omega
    have e : (c - 1000).toInt = c.toInt - 1000 := by rw [Int32.toInt_sub, (by decide : (1000 : Int32).toInt = 1000), iv_bm (by omega) (by omega)]
    have k := clampNat (x := c - 1000) (by omega)
    exact h _ (by omega)
theorem evS_cg {W W' : Nat → Int32} {V : List Int32} {c : Int32} (h : WQ W W') (hc : CR c) : evS W V c = evS W' V c := by
  unfold evS
  by_cases z : c < 3000
  · rw [if_pos z, if_pos z, stV_cg h hc z]
  · rw [if_neg z, if_neg z]
theorem evL_cg {W W' : Nat → Int32} (h : WQ W W') : ∀ (L V : List Int32), (∀ j : Nat, j < L.length → CR (L.getD j 0)) → evL W V L = evL W' V L
  | [], _, _ => rfl
  | c :: L, V, hc => by
    have h0 : CR c := hc 0 (by rw [List.length_cons]; omega)
    show evL W (evS W V c) L = evL W' (evS W' V c) L
    rw [evS_cg h h0]
    exact evL_cg h L _ (fun j hj => hc (j + 1) (by rw [List.length_cons]; omega))
/-- the codes of a law in the reference's row -/
def CLs (A : Nat → Int32) (many fr : Nat) : List Int32 := (List.range (A many).toNatClampNeg).map (fun k => A (125 + (A fr).toNatClampNeg + k))
/-- a law as it can be told: its codes fit -/
def LOK (A : Nat → Int32) (told many fr : Nat) (ty : Bool) : Prop := (A told = 0 ∨ A told = 1) ∧ (A told = 1 → 0 ≤ (A many).toInt ∧ 0 ≤ (A fr).toInt ∧ (A fr).toInt + (A many).toInt ≤ 900 ∧ trT [] (CLs A many fr) = some [ty] ∧ ∀ j : Nat, j < (CLs A many fr).length → CR ((CLs A many fr).getD j 0))
def LK (A : Nat → Int32) : Prop := LOK A 4 8 6 true ∧ LOK A 5 9 7 false
theorem CLs_len {A : Nat → Int32} {many fr : Nat} : (CLs A many fr).length = (A many).toNatClampNeg := by unfold CLs; rw [List.length_map, List.length_range]
theorem CLs_at {A : Nat → Int32} {many fr j : Nat} (h : j < (CLs A many fr).length) : A (125 + (A fr).toNatClampNeg + j) = (CLs A many fr).getD j 0 := by
  rw [CLs_len] at h
  unfold CLs
  rw [List.getD_eq_getElem?_getD, List.getElem?_map, List.getElem?_range h]; rfl
/-- what the laws tell: whether a man takes, how high a stack is else -/
def tkQ (A W : Nat → Int32) : Prop := if A 4 = 0 then W 3 = 1 else evL W [] (CLs A 8 6) = [1]
def hd9 : List Int32 → Int32
  | v :: _ => v
  | [] => 0
def cl4 (v : Int32) : Int32 := if 0 ≤ v then (if v ≤ 4 then v else 4) else 0
def adQ (A W : Nat → Int32) : Int32 := cl4 (if A 5 = 1 then hd9 (evL W [] (CLs A 9 7)) else W 1 + 1)
theorem cl4_r (v : Int32) : 0 ≤ (cl4 v).toInt ∧ (cl4 v).toInt ≤ 4 := by
  unfold cl4
  split
  · next h =>
    rw [Int32.le_iff_toInt_le, (by decide : (0 : Int32).toInt = 0)] at h
    split
    · next g => rw [Int32.le_iff_toInt_le, (by decide : (4 : Int32).toInt = 4)] at g; exact ⟨h, g⟩
    · decide
  · decide
theorem tkQ_cg {A W W' : Nat → Int32} (h : WQ W W') (hk : LK A) : tkQ A W ↔ tkQ A W' := by
  unfold tkQ
  by_cases z : A 4 = 0
  · rw [if_pos z, if_pos z, h 3 (by decide)]
  · rw [if_neg z, if_neg z]
    have t := hk.1.2 (hk.1.1.resolve_left z)
    rw [evL_cg h _ _ t.2.2.2.2]
theorem adQ_cg {A W W' : Nat → Int32} (h : WQ W W') (hk : LK A) : adQ A W = adQ A W' := by
  unfold adQ
  by_cases z : A 5 = 1
  · rw [if_pos z, if_pos z]
    have t := hk.2.2 z
    rw [evL_cg h _ _ t.2.2.2.2]
  · rw [if_neg z, if_neg z, h 1 (by decide)]
theorem F_tk {A W rk : Nat → Int32} (hk : LK A) : (tkQ A W → (F_k_X10_takesNow_0 rk W A).1 = 1) ∧ (¬ tkQ A W → (F_k_X10_takesNow_0 rk W A).1 = 0) := by
  unfold tkQ
  by_cases z : A 4 = 0
  · simp only [F_k_X10_takesNow_0, bnd, nz4, nz3, if_pos z]
    constructor
    · intro h; rw [if_pos h]
    · intro h; rw [if_neg h]
  · have t := hk.1.2 (hk.1.1.resolve_left z)
    have c1 := clampNat t.1
    have c2 := clampNat t.2.1
    have r := rkF_0 (rk := rk) (w := W) (A := A) (L := CLs A 8 6) (ty := true) (fr := (A 6).toNatClampNeg) (by rw [CLs_len]; exact c1.symm) c2.symm (by rw [CLs_len]; omega) (fun j hj => CLs_at hj) t.2.2.2.1 t.2.2.2.2
    simp only [F_k_X10_takesNow_0, bnd, nz4, nz3, if_neg z]
    rw [r.1]
    constructor
    · intro h; rw [if_pos (List.cons.inj h).1]
    · intro h; rw [if_neg (fun q => h (by rw [q]))]
theorem F_ad {A W rk : Nat → Int32} (hk : LK A) (h1 : 0 ≤ (W 1).toInt ∧ (W 1).toInt ≤ 4) : (F_k_X10_addedNow_0 rk W A).1 = adQ A W := by
  unfold adQ
  by_cases z : A 5 = 1
  · have t := hk.2.2 z
    have c1 := clampNat t.1
    have c2 := clampNat t.2.1
    have r := rkF_1 (rk := rk) (w := W) (A := A) (L := CLs A 9 7) (ty := false) (fr := (A 7).toNatClampNeg) (by rw [CLs_len]; exact c1.symm) c2.symm (by rw [CLs_len]; omega) (fun j hj => CLs_at hj) t.2.2.2.1 t.2.2.2.2
    simp only [F_k_X10_addedNow_0, bnd, nz5, nz1, if_pos z]
    rw [r.1]
    show _ = cl4 (F_k_X10_reckons_1 rk W A).1
    unfold cl4
    by_cases p : (0 : Int32) ≤ (F_k_X10_reckons_1 rk W A).1
    · rw [if_pos p, if_pos p]
      by_cases q : (F_k_X10_reckons_1 rk W A).1 ≤ 4
      · rw [if_pos q, if_pos q]
      · rw [if_neg q, if_neg q]
    · rw [if_neg p, if_neg p]
  · simp only [F_k_X10_addedNow_0, bnd, nz5, nz1, if_neg z]
    have e : (W 1 + 1).toInt = (W 1).toInt + 1 := by rw [Int32.toInt_add, (by decide : (1 : Int32).toInt = 1), iv_bm (by omega) (by omega)]
    unfold cl4
    rw [if_pos (show (0 : Int32) ≤ W 1 + 1 by rw [Int32.le_iff_toInt_le, e, (by decide : (0 : Int32).toInt = 0)]; omega)]
    by_cases q : W 1 + 1 ≤ 4
    · rw [if_pos q, if_pos q]
    · rw [if_neg q, if_neg q]

/-- a hill's digit behind a night, as stack and took -/
noncomputable def ndW (A W : Nat → Int32) : Int := @ite Int (tkQ A W) (Classical.propDecidable _) (if (W 1).toInt ≤ 0 then 0 else (W 1).toInt - 1) (adQ A W).toInt
noncomputable def nb9 (A W : Nat → Int32) : Int := @ite Int (tkQ A W) (Classical.propDecidable _) 1 0
noncomputable def dgS (A W : Nat → Int32) : Int32 := @ite Int32 (tkQ A W) (Classical.propDecidable _) (mxF 0 (W 1 - 1) * 2 + 1) (adQ A W * 2)
theorem dgS_v {A W : Nat → Int32} (h : 0 ≤ (W 1).toInt ∧ (W 1).toInt ≤ 4) : (dgS A W).toInt = 2 * ndW A W + nb9 A W ∧ 0 ≤ ndW A W ∧ ndW A W ≤ 4 ∧ 0 ≤ nb9 A W ∧ nb9 A W ≤ 1 := by
  unfold dgS ndW nb9
  by_cases z : tkQ A W
  · rw [if_pos z, if_pos z, if_pos z]
    have e : (W 1 - 1).toInt = (W 1).toInt - 1 := by rw [Int32.toInt_sub, (by decide : (1 : Int32).toInt = 1), iv_bm (by omega) (by omega)]
    have m : (mxF 0 (W 1 - 1)).toInt = if (W 1).toInt ≤ 0 then 0 else (W 1).toInt - 1 := by
      unfold mxF
      by_cases q2 : (0 : Int32) < W 1 - 1
      · have q3 := Int32.lt_iff_toInt_lt.mp q2
        rw [(by decide : (0 : Int32).toInt = 0), e] at q3
        rw [if_pos q2, e, if_neg (by omega)]
      · have q3 : ¬ 0 < (W 1).toInt - 1 := fun z => q2 (Int32.lt_iff_toInt_lt.mpr (by rw [(by decide : (0 : Int32).toInt = 0), e]; exact z))
        rw [if_neg q2, (by decide : (0 : Int32).toInt = 0)]
        split <;> omega
    have mb : 0 ≤ (mxF 0 (W 1 - 1)).toInt ∧ (mxF 0 (W 1 - 1)).toInt ≤ 4 := by rw [m]; split <;> omega
    have m2 : (mxF 0 (W 1 - 1) * 2).toInt = (mxF 0 (W 1 - 1)).toInt * 2 := by rw [Int32.toInt_mul, (by decide : (2 : Int32).toInt = 2), iv_bm (by omega) (by omega)]
    have m3 : (mxF 0 (W 1 - 1) * 2 + 1).toInt = (mxF 0 (W 1 - 1)).toInt * 2 + 1 := by rw [Int32.toInt_add, m2, (by decide : (1 : Int32).toInt = 1), iv_bm (by omega) (by omega)]
    rw [m3]
    rw [m] at mb ⊢
    omega
  · rw [if_neg z, if_neg z, if_neg z]
    have r : 0 ≤ (adQ A W).toInt ∧ (adQ A W).toInt ≤ 4 := cl4_r _
    have m2 : (adQ A W * 2).toInt = (adQ A W).toInt * 2 := by rw [Int32.toInt_mul, (by decide : (2 : Int32).toInt = 2), iv_bm (by omega) (by omega)]
    rw [m2]; omega
/-- the table's digits, by the place -/
noncomputable def DA (A : Nat → Int32) (j : Nat) : Int32 := dgS A (wdF (nI (j / 50 % 4)) (nI (j / 10 % 5)) (nI (j / 2 % 5)) (nI (j % 2)) (A (10 + j / 50 % 4)) (nI (j / 200)))
theorem DA_pl {A : Nat → Int32} {w h st we se : Int32} (hw : iv 0 9 w) (hh : iv 0 3 h) (hs : iv 0 4 st) (he : iv 0 4 we) (hz : iv 0 1 se) : DA A (plF w h st we se).toNatClampNeg = dgS A (wdF h st we se (A (10 + h.toNatClampNeg)) w) := by
  unfold iv at hw hh hs he hz
  have a1 : (w * 4).toInt = w.toInt * 4 := by rw [Int32.toInt_mul, (by decide : (4 : Int32).toInt = 4), iv_bm (by omega) (by omega)]
  have a2 : (w * 4 + h).toInt = w.toInt * 4 + h.toInt := by rw [Int32.toInt_add, a1, iv_bm (by omega) (by omega)]
  have a3 : ((w * 4 + h) * 50).toInt = (w.toInt * 4 + h.toInt) * 50 := by rw [Int32.toInt_mul, a2, (by decide : (50 : Int32).toInt = 50), iv_bm (by omega) (by omega)]
  have a4 : (st * 10).toInt = st.toInt * 10 := by rw [Int32.toInt_mul, (by decide : (10 : Int32).toInt = 10), iv_bm (by omega) (by omega)]
  have a5 : ((w * 4 + h) * 50 + st * 10).toInt = (w.toInt * 4 + h.toInt) * 50 + st.toInt * 10 := by rw [Int32.toInt_add, a3, a4, iv_bm (by omega) (by omega)]
  have a6 : (we * 2).toInt = we.toInt * 2 := by rw [Int32.toInt_mul, (by decide : (2 : Int32).toInt = 2), iv_bm (by omega) (by omega)]
  have a7 : ((w * 4 + h) * 50 + st * 10 + we * 2).toInt = (w.toInt * 4 + h.toInt) * 50 + st.toInt * 10 + we.toInt * 2 := by rw [Int32.toInt_add, a5, a6, iv_bm (by omega) (by omega)]
  have a8 : (plF w h st we se).toInt = (w.toInt * 4 + h.toInt) * 50 + st.toInt * 10 + we.toInt * 2 + se.toInt := by unfold plF; rw [Int32.toInt_add, a7, iv_bm (by omega) (by omega)]
  have c := clampNat (x := plF w h st we se) (by omega)
  generalize (plF w h st we se).toNatClampNeg = j at c ⊢
  have ch := clampNat (x := h) (by omega)
  unfold DA
  have q1 : nI (j / 50 % 4) = h := i32 (by rw [nI_toInt (by omega)]; omega)
  have q2 : nI (j / 10 % 5) = st := i32 (by rw [nI_toInt (by omega)]; omega)
  have q3 : nI (j / 2 % 5) = we := i32 (by rw [nI_toInt (by omega)]; omega)
  have q4 : nI (j % 2) = se := i32 (by rw [nI_toInt (by omega)]; omega)
  have q5 : nI (j / 200) = w := i32 (by rw [nI_toInt (by omega)]; omega)
  have q6 : j / 50 % 4 = h.toNatClampNeg := by omega
  rw [q1, q2, q3, q4, q5, q6]
/-- the words that the reference lays -/
theorem lw_1 {z h fog w : Int32} {W0 A : Nat → Int32} : (F_k_X10_laysWords_0 z h fog w W0 A) 0 = h ∧ (F_k_X10_laysWords_0 z h fog w W0 A) 1 = F_k_X10_stackIn_0 z h ∧ (F_k_X10_laysWords_0 z h fog w W0 A) 4 = A ((10 : Int32) + h).toNatClampNeg ∧ (F_k_X10_laysWords_0 z h fog w W0 A) 5 = w := by
  simp only [F_k_X10_laysWords_0, bnd, nz0, nz1, nz2, nz3, nz4, nz5]
  split
  · simp [upd]
  · split
    · simp [upd]
    · split <;> simp [upd]
theorem lw_2 {z h fog w : Int32} {W0 A : Nat → Int32} : (F_k_X10_laysWords_0 z h fog w W0 A) 2 = (if h = 0 then 0 else F_k_X10_stackIn_0 z (h - 1)) ∧ (F_k_X10_laysWords_0 z h fog w W0 A) 3 = (if h = 0 then 0 else if fog = h then 0 else if F_k_X10_isIn_0 (F_k_X10_tookIn_0 z).toInt64 (h - 1) = 0 then 0 else 1) := by
  simp only [F_k_X10_laysWords_0, bnd, nz0, nz1, nz2, nz3, nz4, nz5]
  split
  · simp [upd]
  · split
    · simp [upd]
    · split <;> simp [upd]
/-- a hill's words, as the class asks for them -/
def wdC (A : Nat → Int32) (s w fog : Int32) (k : Nat) : Nat → Int32 := wdF (nI k) (dgW s k / 2) (wsF s k / 2) (snW s fog k) (A (10 + k)) w
theorem wsF_0 (s : Int32) : wsF s 0 = 0 := rfl
theorem wsF_s (s : Int32) (k : Nat) : wsF s (k + 1) = dgW s k := by unfold wsF; rw [if_neg (by omega), Nat.add_sub_cancel]
theorem wd_eq {n : Nat} {d b : Nat → Int} {s z h fog w : Int32} {W0 A : Nat → Int32} {k : Nat} (hd : DG n d b) (hs : SC d b s) (hz : SZ d b z) (hk : k < 4) (hh : h.toInt = (k : Int)) : WQ (F_k_X10_laysWords_0 z h fog w W0 A) (wdC A s w fog k) := by
  have eh : nI k = h := i32 (by rw [nI_toInt (by omega), hh])
  obtain ⟨w0, w1, w4, w5⟩ := lw_1 (z := z) (h := h) (fog := fog) (w := w) (W0 := W0) (A := A)
  obtain ⟨w2, w3⟩ := lw_2 (z := z) (h := h) (fog := fog) (w := w) (W0 := W0) (A := A)
  have s1 := (SC_v hd hs hk).2.1
  have z1 := SZ_st hd hz hh hk
  have r := fun i => DG_r hd i
  intro j hj
  have cj : j = 0 ∨ j = 1 ∨ j = 2 ∨ j = 3 ∨ j = 4 ∨ j = 5 := by omega
  rcases cj with q | q | q | q | q | q
  · subst q; rw [w0]; exact eh.symm
  · subst q; rw [w1]
    show _ = stW s k
    exact i32 (by rw [z1, s1])
  · subst q; rw [w2]
    show _ = wsF s k / 2
    cases k with
    | zero => rw [if_pos (i32 (by rw [hh]; rfl)), wsF_0]; rfl
    | succ k =>
      have h1 : (h - 1).toInt = (k : Int) := by rw [Int32.toInt_sub, hh, (by decide : (1 : Int32).toInt = 1), iv_bm (by omega) (by omega)]; omega
      rw [if_neg (fun e => by rw [e] at hh; rw [(by decide : (0 : Int32).toInt = 0)] at hh; omega), wsF_s]
      show _ = stW s k
      exact i32 (by rw [SZ_st hd hz h1 (by omega), (SC_v hd hs (by omega)).2.1])
  · subst q; rw [w3]
    show _ = snW s fog k
    unfold snW
    rw [eh]
    cases k with
    | zero =>
      rw [if_pos (i32 (by rw [hh]; rfl)), wsF_0]
      split
      · rfl
      · decide
    | succ k =>
      have h1 : (h - 1).toInt = (k : Int) := by rw [Int32.toInt_sub, hh, (by decide : (1 : Int32).toInt = 1), iv_bm (by omega) (by omega)]; omega
      rw [if_neg (fun e => by rw [e] at hh; rw [(by decide : (0 : Int32).toInt = 0)] at hh; omega)]
      by_cases f : fog = h
      · rw [if_pos f, if_pos (show h = fog from f.symm)]
      · rw [if_neg f, if_neg (show ¬ h = fog from fun e => f e.symm), wsF_s]
        have t1 := SZ_tk hd hz
        have v := SC_v hd hs (k := k) (by omega)
        have r0 := r 0
        have r1 := r 1
        have r2 := r 2
        have r3 := r 3
        have rk := r k
        have m2 : (rmF (dgW s k) 2).toInt = b k := by
          rw [rm_toInt (by rw [v.1]; omega) (by decide), v.1]
          show (2 * d k + b k) % 2 = b k
          omega
        have cm := clampNat (x := F_k_X10_tookIn_0 z) (by omega)
        have iv := isIn_v (t := F_k_X10_tookIn_0 z) (x := h - 1) (m := (F_k_X10_tookIn_0 z).toNatClampNeg) (k := k) (by omega) (by omega) h1 (by omega)
        have bit : (((F_k_X10_tookIn_0 z).toNatClampNeg / 2 ^ k % 2 : Nat) : Int) = b k := by
          have k3 : k = 0 ∨ k = 1 ∨ k = 2 := by omega
          rcases k3 with y | y | y <;> (subst y; simp only [Nat.reducePow]; omega)
        rw [iv]
        by_cases y : (F_k_X10_tookIn_0 z).toNatClampNeg / 2 ^ k % 2 = 1
        · rw [if_pos y, if_neg (by decide)]
          exact i32 (by rw [m2, ← bit, y]; rfl)
        · rw [if_neg y, if_pos rfl]
          exact i32 (by rw [m2, ← bit]; rw [(by decide : (0 : Int32).toInt = 0)]; omega)
  · subst q; rw [w4]
    show _ = A (10 + k)
    have e : ((10 : Int32) + h).toInt = 10 + (k : Int) := by rw [Int32.toInt_add, hh, (by decide : (10 : Int32).toInt = 10), iv_bm (by omega) (by omega)]
    have c := clampNat (x := (10 : Int32) + h) (by omega)
    rw [show ((10 : Int32) + h).toNatClampNeg = 10 + k by omega]
  · subst q; rw [w5]; rfl

theorem ntB_0 {z fog w to : Int32} {A rk W0 : Nat → Int32} (hn : ¬ A 1 ≤ 0) : ∃ rk' : Nat → Int32, B_k_X10_nightTo_0_1 z fog w A 0 to rk W0 = Sum.inl (1, to + (if (F_k_X10_takesNow_0 rk (F_k_X10_laysWords_0 z 0 fog w W0 A) A).1 = 0 then 1 * (F_k_X10_addedNow_0 (F_k_X10_takesNow_0 rk (F_k_X10_laysWords_0 z 0 fog w W0 A) A).2 (F_k_X10_laysWords_0 z 0 fog w W0 A) A).1 else if (F_k_X10_laysWords_0 z 0 fog w W0 A) 1 ≤ 0 then 625 else 625 + 1 * ((F_k_X10_laysWords_0 z 0 fog w W0 A) 1 - 1)), rk', F_k_X10_laysWords_0 z 0 fog w W0 A) := by
  unfold B_k_X10_nightTo_0_1
  simp only [bnd, nz1, nq_m1_0, nq_m1_1, nq_m1_2, nq_m1_3, nq_m1_4, nq_0_m1, nq_0_1, nq_0_2, nq_0_3, nq_0_4, nq_1_m1, nq_1_0, nq_1_2, nq_1_3, nq_1_4, nq_2_m1, nq_2_0, nq_2_1, nq_2_3, nq_2_4, nq_3_m1, nq_3_0, nq_3_1, nq_3_2, nq_3_4, nq_4_m1, nq_4_0, nq_4_1, nq_4_2, nq_4_3, dgo_0, dgo_1, dgo_2, dgo_3, ↓reduceIte]
  rw [if_neg hn]
  by_cases t : (F_k_X10_takesNow_0 rk (F_k_X10_laysWords_0 z 0 fog w W0 A) A).1 = 0
  · rw [if_pos t, if_pos t]
    exact ⟨_, rfl⟩
  · rw [if_neg t, if_neg t]
    by_cases y : (F_k_X10_laysWords_0 z 0 fog w W0 A) 1 ≤ 0
    · rw [if_pos y, if_pos y]; exact ⟨_, rfl⟩
    · rw [if_neg y, if_neg y]; exact ⟨_, rfl⟩

theorem ntB_1 {z fog w to : Int32} {A rk W0 : Nat → Int32} (hn : ¬ A 1 ≤ 1) : ∃ rk' : Nat → Int32, B_k_X10_nightTo_0_1 z fog w A 1 to rk W0 = Sum.inl (2, to + (if (F_k_X10_takesNow_0 rk (F_k_X10_laysWords_0 z 1 fog w W0 A) A).1 = 0 then 5 * (F_k_X10_addedNow_0 (F_k_X10_takesNow_0 rk (F_k_X10_laysWords_0 z 1 fog w W0 A) A).2 (F_k_X10_laysWords_0 z 1 fog w W0 A) A).1 else if (F_k_X10_laysWords_0 z 1 fog w W0 A) 1 ≤ 0 then 1250 else 1250 + 5 * ((F_k_X10_laysWords_0 z 1 fog w W0 A) 1 - 1)), rk', F_k_X10_laysWords_0 z 1 fog w W0 A) := by
  unfold B_k_X10_nightTo_0_1
  simp only [bnd, nz1, nq_m1_0, nq_m1_1, nq_m1_2, nq_m1_3, nq_m1_4, nq_0_m1, nq_0_1, nq_0_2, nq_0_3, nq_0_4, nq_1_m1, nq_1_0, nq_1_2, nq_1_3, nq_1_4, nq_2_m1, nq_2_0, nq_2_1, nq_2_3, nq_2_4, nq_3_m1, nq_3_0, nq_3_1, nq_3_2, nq_3_4, nq_4_m1, nq_4_0, nq_4_1, nq_4_2, nq_4_3, dgo_0, dgo_1, dgo_2, dgo_3, ↓reduceIte]
  rw [if_neg hn]
  by_cases t : (F_k_X10_takesNow_0 rk (F_k_X10_laysWords_0 z 1 fog w W0 A) A).1 = 0
  · rw [if_pos t, if_pos t]
    exact ⟨_, rfl⟩
  · rw [if_neg t, if_neg t]
    by_cases y : (F_k_X10_laysWords_0 z 1 fog w W0 A) 1 ≤ 0
    · rw [if_pos y, if_pos y]; exact ⟨_, rfl⟩
    · rw [if_neg y, if_neg y]; exact ⟨_, rfl⟩

theorem ntB_2 {z fog w to : Int32} {A rk W0 : Nat → Int32} (hn : ¬ A 1 ≤ 2) : ∃ rk' : Nat → Int32, B_k_X10_nightTo_0_1 z fog w A 2 to rk W0 = Sum.inl (3, to + (if (F_k_X10_takesNow_0 rk (F_k_X10_laysWords_0 z 2 fog w W0 A) A).1 = 0 then 25 * (F_k_X10_addedNow_0 (F_k_X10_takesNow_0 rk (F_k_X10_laysWords_0 z 2 fog w W0 A) A).2 (F_k_X10_laysWords_0 z 2 fog w W0 A) A).1 else if (F_k_X10_laysWords_0 z 2 fog w W0 A) 1 ≤ 0 then 2500 else 2500 + 25 * ((F_k_X10_laysWords_0 z 2 fog w W0 A) 1 - 1)), rk', F_k_X10_laysWords_0 z 2 fog w W0 A) := by
  unfold B_k_X10_nightTo_0_1
  simp only [bnd, nz1, nq_m1_0, nq_m1_1, nq_m1_2, nq_m1_3, nq_m1_4, nq_0_m1, nq_0_1, nq_0_2, nq_0_3, nq_0_4, nq_1_m1, nq_1_0, nq_1_2, nq_1_3, nq_1_4, nq_2_m1, nq_2_0, nq_2_1, nq_2_3, nq_2_4, nq_3_m1, nq_3_0, nq_3_1, nq_3_2, nq_3_4, nq_4_m1, nq_4_0, nq_4_1, nq_4_2, nq_4_3, dgo_0, dgo_1, dgo_2, dgo_3, ↓reduceIte]
  rw [if_neg hn]
  by_cases t : (F_k_X10_takesNow_0 rk (F_k_X10_laysWords_0 z 2 fog w W0 A) A).1 = 0
  · rw [if_pos t, if_pos t]
    exact ⟨_, rfl⟩
  · rw [if_neg t, if_neg t]
    by_cases y : (F_k_X10_laysWords_0 z 2 fog w W0 A) 1 ≤ 0
    · rw [if_pos y, if_pos y]; exact ⟨_, rfl⟩
    · rw [if_neg y, if_neg y]; exact ⟨_, rfl⟩

theorem ntB_3 {z fog w to : Int32} {A rk W0 : Nat → Int32} (hn : ¬ A 1 ≤ 3) : ∃ rk' : Nat → Int32, B_k_X10_nightTo_0_1 z fog w A 3 to rk W0 = Sum.inl (4, to + (if (F_k_X10_takesNow_0 rk (F_k_X10_laysWords_0 z 3 fog w W0 A) A).1 = 0 then 125 * (F_k_X10_addedNow_0 (F_k_X10_takesNow_0 rk (F_k_X10_laysWords_0 z 3 fog w W0 A) A).2 (F_k_X10_laysWords_0 z 3 fog w W0 A) A).1 else if (F_k_X10_laysWords_0 z 3 fog w W0 A) 1 ≤ 0 then 5000 else 5000 + 125 * ((F_k_X10_laysWords_0 z 3 fog w W0 A) 1 - 1)), rk', F_k_X10_laysWords_0 z 3 fog w W0 A) := by
  unfold B_k_X10_nightTo_0_1
  simp only [bnd, nz1, nq_m1_0, nq_m1_1, nq_m1_2, nq_m1_3, nq_m1_4, nq_0_m1, nq_0_1, nq_0_2, nq_0_3, nq_0_4, nq_1_m1, nq_1_0, nq_1_2, nq_1_3, nq_1_4, nq_2_m1, nq_2_0, nq_2_1, nq_2_3, nq_2_4, nq_3_m1, nq_3_0, nq_3_1, nq_3_2, nq_3_4, nq_4_m1, nq_4_0, nq_4_1, nq_4_2, nq_4_3, dgo_0, dgo_1, dgo_2, dgo_3, ↓reduceIte]
  rw [if_neg hn]
  by_cases t : (F_k_X10_takesNow_0 rk (F_k_X10_laysWords_0 z 3 fog w W0 A) A).1 = 0
  · rw [if_pos t, if_pos t]
    exact ⟨_, rfl⟩
  · rw [if_neg t, if_neg t]
    by_cases y : (F_k_X10_laysWords_0 z 3 fog w W0 A) 1 ≤ 0
    · rw [if_pos y, if_pos y]; exact ⟨_, rfl⟩
    · rw [if_neg y, if_neg y]; exact ⟨_, rfl⟩

theorem XV_0 {A W wd rk : Nat → Int32} (hk : LK A) (hq : WQ W wd) (h1 : 0 ≤ (wd 1).toInt ∧ (wd 1).toInt ≤ 4) : (if (F_k_X10_takesNow_0 rk W A).1 = 0 then 1 * (F_k_X10_addedNow_0 (F_k_X10_takesNow_0 rk W A).2 W A).1 else if W 1 ≤ 0 then 625 else 625 + 1 * (W 1 - 1)).toInt = 1 * ndW A wd + 625 * nb9 A wd := by
  have w1 : W 1 = wd 1 := hq 1 (by decide)
  have o : ((1 : Int32)).toInt = 1 := by decide
  have t5 : ((625 : Int32)).toInt = 625 := by decide
  unfold ndW nb9
  by_cases t : tkQ A W
  · have t' := (tkQ_cg hq hk).mp t
    rw [(F_tk hk (rk := rk)).1 t, if_neg (by decide), if_pos t', if_pos t', w1]
    by_cases q : (wd 1).toInt ≤ 0
    · rw [if_pos (show wd 1 ≤ 0 from Int32.le_iff_toInt_le.mpr q), if_pos q, t5]; omega
    · rw [if_neg (show ¬ wd 1 ≤ 0 from fun z => q (Int32.le_iff_toInt_le.mp z)), if_neg q]
      have e1 : (wd 1 - 1).toInt = (wd 1).toInt - 1 := by rw [Int32.toInt_sub, (by decide : (1 : Int32).toInt = 1), iv_bm (by omega) (by omega)]
      have e2 : (1 * (wd 1 - 1)).toInt = 1 * ((wd 1).toInt - 1) := by rw [Int32.toInt_mul, o, e1, iv_bm (by omega) (by omega)]
      rw [Int32.toInt_add, t5, e2, iv_bm (by omega) (by omega)]; omega
  · have t' := fun y => t ((tkQ_cg hq hk).mpr y)
    rw [(F_tk hk (rk := rk)).2 t, if_pos rfl, if_neg t', if_neg t', F_ad hk (by rw [w1]; exact h1), adQ_cg hq hk]
    have r : 0 ≤ (adQ A wd).toInt ∧ (adQ A wd).toInt ≤ 4 := cl4_r _
    rw [Int32.toInt_mul, o, iv_bm (by omega) (by omega)]; omega

theorem XV_1 {A W wd rk : Nat → Int32} (hk : LK A) (hq : WQ W wd) (h1 : 0 ≤ (wd 1).toInt ∧ (wd 1).toInt ≤ 4) : (if (F_k_X10_takesNow_0 rk W A).1 = 0 then 5 * (F_k_X10_addedNow_0 (F_k_X10_takesNow_0 rk W A).2 W A).1 else if W 1 ≤ 0 then 1250 else 1250 + 5 * (W 1 - 1)).toInt = 5 * ndW A wd + 1250 * nb9 A wd := by
  have w1 : W 1 = wd 1 := hq 1 (by decide)
  have o : ((5 : Int32)).toInt = 5 := by decide
  have t5 : ((1250 : Int32)).toInt = 1250 := by decide
  unfold ndW nb9
  by_cases t : tkQ A W
  · have t' := (tkQ_cg hq hk).mp t
    rw [(F_tk hk (rk := rk)).1 t, if_neg (by decide), if_pos t', if_pos t', w1]
    by_cases q : (wd 1).toInt ≤ 0
    · rw [if_pos (show wd 1 ≤ 0 from Int32.le_iff_toInt_le.mpr q), if_pos q, t5]; omega
    · rw [if_neg (show ¬ wd 1 ≤ 0 from fun z => q (Int32.le_iff_toInt_le.mp z)), if_neg q]
      have e1 : (wd 1 - 1).toInt = (wd 1).toInt - 1 := by rw [Int32.toInt_sub, (by decide : (1 : Int32).toInt = 1), iv_bm (by omega) (by omega)]
      have e2 : (5 * (wd 1 - 1)).toInt = 5 * ((wd 1).toInt - 1) := by rw [Int32.toInt_mul, o, e1, iv_bm (by omega) (by omega)]
      rw [Int32.toInt_add, t5, e2, iv_bm (by omega) (by omega)]; omega
  · have t' := fun y => t ((tkQ_cg hq hk).mpr y)
    rw [(F_tk hk (rk := rk)).2 t, if_pos rfl, if_neg t', if_neg t', F_ad hk (by rw [w1]; exact h1), adQ_cg hq hk]
    have r : 0 ≤ (adQ A wd).toInt ∧ (adQ A wd).toInt ≤ 4 := cl4_r _
    rw [Int32.toInt_mul, o, iv_bm (by omega) (by omega)]; omega

theorem XV_2 {A W wd rk : Nat → Int32} (hk : LK A) (hq : WQ W wd) (h1 : 0 ≤ (wd 1).toInt ∧ (wd 1).toInt ≤ 4) : (if (F_k_X10_takesNow_0 rk W A).1 = 0 then 25 * (F_k_X10_addedNow_0 (F_k_X10_takesNow_0 rk W A).2 W A).1 else if W 1 ≤ 0 then 2500 else 2500 + 25 * (W 1 - 1)).toInt = 25 * ndW A wd + 2500 * nb9 A wd := by
  have w1 : W 1 = wd 1 := hq 1 (by decide)
  have o : ((25 : Int32)).toInt = 25 := by decide
  have t5 : ((2500 : Int32)).toInt = 2500 := by decide
  unfold ndW nb9
  by_cases t : tkQ A W
  · have t' := (tkQ_cg hq hk).mp t
    rw [(F_tk hk (rk := rk)).1 t, if_neg (by decide), if_pos t', if_pos t', w1]
    by_cases q : (wd 1).toInt ≤ 0
    · rw [if_pos (show wd 1 ≤ 0 from Int32.le_iff_toInt_le.mpr q), if_pos q, t5]; omega
    · rw [if_neg (show ¬ wd 1 ≤ 0 from fun z => q (Int32.le_iff_toInt_le.mp z)), if_neg q]
      have e1 : (wd 1 - 1).toInt = (wd 1).toInt - 1 := by rw [Int32.toInt_sub, (by decide : (1 : Int32).toInt = 1), iv_bm (by omega) (by omega)]
      have e2 : (25 * (wd 1 - 1)).toInt = 25 * ((wd 1).toInt - 1) := by rw [Int32.toInt_mul, o, e1, iv_bm (by omega) (by omega)]
      rw [Int32.toInt_add, t5, e2, iv_bm (by omega) (by omega)]; omega
  · have t' := fun y => t ((tkQ_cg hq hk).mpr y)
    rw [(F_tk hk (rk := rk)).2 t, if_pos rfl, if_neg t', if_neg t', F_ad hk (by rw [w1]; exact h1), adQ_cg hq hk]
    have r : 0 ≤ (adQ A wd).toInt ∧ (adQ A wd).toInt ≤ 4 := cl4_r _
    rw [Int32.toInt_mul, o, iv_bm (by omega) (by omega)]; omega

theorem XV_3 {A W wd rk : Nat → Int32} (hk : LK A) (hq : WQ W wd) (h1 : 0 ≤ (wd 1).toInt ∧ (wd 1).toInt ≤ 4) : (if (F_k_X10_takesNow_0 rk W A).1 = 0 then 125 * (F_k_X10_addedNow_0 (F_k_X10_takesNow_0 rk W A).2 W A).1 else if W 1 ≤ 0 then 5000 else 5000 + 125 * (W 1 - 1)).toInt = 125 * ndW A wd + 5000 * nb9 A wd := by
  have w1 : W 1 = wd 1 := hq 1 (by decide)
  have o : ((125 : Int32)).toInt = 125 := by decide
  have t5 : ((5000 : Int32)).toInt = 5000 := by decide
  unfold ndW nb9
  by_cases t : tkQ A W
  · have t' := (tkQ_cg hq hk).mp t
    rw [(F_tk hk (rk := rk)).1 t, if_neg (by decide), if_pos t', if_pos t', w1]
    by_cases q : (wd 1).toInt ≤ 0
    · rw [if_pos (show wd 1 ≤ 0 from Int32.le_iff_toInt_le.mpr q), if_pos q, t5]; omega
    · rw [if_neg (show ¬ wd 1 ≤ 0 from fun z => q (Int32.le_iff_toInt_le.mp z)), if_neg q]
      have e1 : (wd 1 - 1).toInt = (wd 1).toInt - 1 := by rw [Int32.toInt_sub, (by decide : (1 : Int32).toInt = 1), iv_bm (by omega) (by omega)]
      have e2 : (125 * (wd 1 - 1)).toInt = 125 * ((wd 1).toInt - 1) := by rw [Int32.toInt_mul, o, e1, iv_bm (by omega) (by omega)]
      rw [Int32.toInt_add, t5, e2, iv_bm (by omega) (by omega)]; omega
  · have t' := fun y => t ((tkQ_cg hq hk).mpr y)
    rw [(F_tk hk (rk := rk)).2 t, if_pos rfl, if_neg t', if_neg t', F_ad hk (by rw [w1]; exact h1), adQ_cg hq hk]
    have r : 0 ≤ (adQ A wd).toInt ∧ (adQ A wd).toInt ≤ 4 := cl4_r _
    rw [Int32.toInt_mul, o, iv_bm (by omega) (by omega)]; omega

def zsum (d b : Nat → Int) : Nat → Int
  | 0 => 0
  | k + 1 => zsum d b k + 5 ^ k * d k + 625 * 2 ^ k * b k
def csum (d b : Nat → Int) : Nat → Int
  | 0 => 0
  | k + 1 => csum d b k + 10 ^ k * (2 * d k + b k)
theorem zs_1 (d b : Nat → Int) : zsum d b 1 = d 0 + 625 * b 0 := by simp only [zsum, Int.reducePow]; omega
theorem zs_2 (d b : Nat → Int) : zsum d b 2 = d 0 + 625 * b 0 + 5 * d 1 + 1250 * b 1 := by simp only [zsum, Int.reducePow]; omega
theorem zs_3 (d b : Nat → Int) : zsum d b 3 = d 0 + 625 * b 0 + 5 * d 1 + 1250 * b 1 + 25 * d 2 + 2500 * b 2 := by simp only [zsum, Int.reducePow]; omega
theorem zs_4 (d b : Nat → Int) : zsum d b 4 = d 0 + 625 * b 0 + 5 * d 1 + 1250 * b 1 + 25 * d 2 + 2500 * b 2 + 125 * d 3 + 5000 * b 3 := by simp only [zsum, Int.reducePow]; omega
theorem cs_1 (d b : Nat → Int) : csum d b 1 = 2 * d 0 + b 0 := by simp only [csum, Int.reducePow]; omega
theorem cs_2 (d b : Nat → Int) : csum d b 2 = 2 * d 0 + b 0 + 10 * (2 * d 1 + b 1) := by simp only [csum, Int.reducePow]; omega
theorem cs_3 (d b : Nat → Int) : csum d b 3 = 2 * d 0 + b 0 + 10 * (2 * d 1 + b 1) + 100 * (2 * d 2 + b 2) := by simp only [csum, Int.reducePow]; omega
theorem cs_4 (d b : Nat → Int) : csum d b 4 = 2 * d 0 + b 0 + 10 * (2 * d 1 + b 1) + 100 * (2 * d 2 + b 2) + 1000 * (2 * d 3 + b 3) := by simp only [csum, Int.reducePow]; omega
/-- the digits behind a night -/
noncomputable def dN (A : Nat → Int32) (s w fog : Int32) (n : Nat) (k : Nat) : Int := if k < n then ndW A (wdC A s w fog k) else 0
noncomputable def bN (A : Nat → Int32) (s w fog : Int32) (n : Nat) (k : Nat) : Int := if k < n then nb9 A (wdC A s w fog k) else 0
theorem wdC_1 {n : Nat} {d b : Nat → Int} {A : Nat → Int32} {s w fog : Int32} {k : Nat} (hd : DG n d b) (hs : SC d b s) (hk : k < 4) : 0 ≤ (wdC A s w fog k 1).toInt ∧ (wdC A s w fog k 1).toInt ≤ 4 := by
  have e : wdC A s w fog k 1 = stW s k := rfl
  have := (SC_v hd hs hk).2.1
  have := DG_r hd k
  rw [e]; omega
theorem dN_DG {n : Nat} {d b : Nat → Int} {A : Nat → Int32} {s w fog : Int32} (hd : DG n d b) (hs : SC d b s) : DG n (dN A s w fog n) (bN A s w fog n) := by
  refine ⟨hd.1, fun k => ⟨fun h => ?_, fun h => ?_⟩⟩
  · unfold dN bN
    rw [if_pos h, if_pos h]
    have h4 := hd.1
    have := dgS_v (A := A) (wdC_1 (A := A) (w := w) (fog := fog) hd hs (k := k) (by omega))
    omega
  · unfold dN bN
    rw [if_neg (by omega), if_neg (by omega)]
    exact ⟨rfl, rfl⟩

theorem F_nt {n : Nat} {d b : Nat → Int} {A rk0 Wi : Nat → Int32} {s z fog w : Int32} (hd : DG n d b) (hs : SC d b s) (hz : SZ d b z) (hn : (A 1).toInt = (n : Int)) (hk : LK A) : SZ (dN A s w fog n) (bN A s w fog n) (F_k_X10_nightTo_0 z fog w rk0 Wi A).1 := by
  have g := dN_DG (A := A) (w := w) (fog := fog) hd hs
  have h4 := hd.1
  have r0 := DG_r g 0
  have r1 := DG_r g 1
  have r2 := DG_r g 2
  have r3 := DG_r g 3
  have zb : ∀ k : Nat, k ≤ 4 → 0 ≤ zsum (dN A s w fog n) (bN A s w fog n) k ∧ zsum (dN A s w fog n) (bN A s w fog n) k ≤ 9999 := fun k hk => by
    have c : k = 0 ∨ k = 1 ∨ k = 2 ∨ k = 3 ∨ k = 4 := by omega
    rcases c with q | q | q | q | q
    · subst q; exact ⟨(by decide : (0 : Int) ≤ 0), (by decide : (0 : Int) ≤ 9999)⟩
    · subst q; rw [zs_1]; omega
    · subst q; rw [zs_2]; omega
    · subst q; rw [zs_3]; omega
    · subst q; rw [zs_4]; omega
  unfold F_k_X10_nightTo_0
  refine W9_rule (fun x : Int32 × Int32 × (Nat → Int32) × (Nat → Int32) => ∃ k : Nat, k ≤ n ∧ x.1 = nI k ∧ x.2.1.toInt = zsum (dN A s w fog n) (bN A s w fog n) k) (fun r : Int32 × (Nat → Int32) × (Nat → Int32) => SZ (dN A s w fog n) (bN A s w fog n) r.1) (fun x => (4 - x.1.toInt).toNat) ?_ ⟨0, by omega, nI_0.symm, (by decide : (0 : Int32).toInt = 0)⟩
  rintro ⟨h, to, rk, W0⟩ ⟨k, hkn, hh, ht⟩
  have hh : h = nI k := hh
  subst hh
  have ht : to.toInt = zsum (dN A s w fog n) (bN A s w fog n) k := ht
  have zk := zb k (by omega)
  by_cases hlt : k < n
  · left
    show ∃ y, B_k_X10_nightTo_0_1 z fog w A (nI k) to rk W0 = Sum.inl y ∧ _
    have c : k = 0 ∨ k = 1 ∨ k = 2 ∨ k = 3 := by omega
    rcases c with q | q | q | q
    · subst q
      obtain ⟨rk', e⟩ := ntB_0 (z := z) (fog := fog) (w := w) (to := to) (A := A) (rk := rk) (W0 := W0) (by rw [Int32.le_iff_toInt_le, hn, (by decide : (0 : Int32).toInt = 0)]; omega)
      have hq := wd_eq (s := s) (fog := fog) (w := w) (W0 := W0) (A := A) hd hs hz (k := 0) (by decide) (h := 0) (by decide)
      have x := XV_0 (rk := rk) hk hq (wdC_1 hd hs (by decide))
      have gk := DG_r g 0
      have ed : dN A s w fog n 0 = ndW A (wdC A s w fog 0) := by unfold dN; rw [if_pos hlt]
      have eb : bN A s w fog n 0 = nb9 A (wdC A s w fog 0) := by unfold bN; rw [if_pos hlt]
      rw [← ed, ← eb] at x
      have t0 : zsum (dN A s w fog n) (bN A s w fog n) (0 + 1) = zsum (dN A s w fog n) (bN A s w fog n) 0 + 1 * dN A s w fog n 0 + 625 * bN A s w fog n 0 := by simp only [zsum, Int.reducePow]; omega
      refine ⟨_, e, ⟨0 + 1, by omega, rfl, ?_⟩, ?_⟩
      · show (to + _).toInt = _
        rw [Int32.toInt_add, x, iv_bm (by omega) (by omega), t0]; omega
      · show (4 - (1 : Int32).toInt).toNat < (4 - (nI 0).toInt).toNat
        decide
    · subst q
      obtain ⟨rk', e⟩ := ntB_1 (z := z) (fog := fog) (w := w) (to := to) (A := A) (rk := rk) (W0 := W0) (by rw [Int32.le_iff_toInt_le, hn, (by decide : (1 : Int32).toInt = 1)]; omega)
      have hq := wd_eq (s := s) (fog := fog) (w := w) (W0 := W0) (A := A) hd hs hz (k := 1) (by decide) (h := 1) (by decide)
      have x := XV_1 (rk := rk) hk hq (wdC_1 hd hs (by decide))
      have gk := DG_r g 1
      have ed : dN A s w fog n 1 = ndW A (wdC A s w fog 1) := by unfold dN; rw [if_pos hlt]
      have eb : bN A s w fog n 1 = nb9 A (wdC A s w fog 1) := by unfold bN; rw [if_pos hlt]
      rw [← ed, ← eb] at x
      have t0 : zsum (dN A s w fog n) (bN A s w fog n) (1 + 1) = zsum (dN A s w fog n) (bN A s w fog n) 1 + 5 * dN A s w fog n 1 + 1250 * bN A s w fog n 1 := by simp only [zsum, Int.reducePow]; omega
      refine ⟨_, e, ⟨1 + 1, by omega, rfl, ?_⟩, ?_⟩
      · show (to + _).toInt = _
        rw [Int32.toInt_add, x, iv_bm (by omega) (by omega), t0]; omega
      · show (4 - (2 : Int32).toInt).toNat < (4 - (nI 1).toInt).toNat
        decide
    · subst q
      obtain ⟨rk', e⟩ := ntB_2 (z := z) (fog := fog) (w := w) (to := to) (A := A) (rk := rk) (W0 := W0) (by rw [Int32.le_iff_toInt_le, hn, (by decide : (2 : Int32).toInt = 2)]; omega)
      have hq := wd_eq (s := s) (fog := fog) (w := w) (W0 := W0) (A := A) hd hs hz (k := 2) (by decide) (h := 2) (by decide)
      have x := XV_2 (rk := rk) hk hq (wdC_1 hd hs (by decide))
      have gk := DG_r g 2
      have ed : dN A s w fog n 2 = ndW A (wdC A s w fog 2) := by unfold dN; rw [if_pos hlt]
      have eb : bN A s w fog n 2 = nb9 A (wdC A s w fog 2) := by unfold bN; rw [if_pos hlt]
      rw [← ed, ← eb] at x
      have t0 : zsum (dN A s w fog n) (bN A s w fog n) (2 + 1) = zsum (dN A s w fog n) (bN A s w fog n) 2 + 25 * dN A s w fog n 2 + 2500 * bN A s w fog n 2 := by simp only [zsum, Int.reducePow]; omega
      refine ⟨_, e, ⟨2 + 1, by omega, rfl, ?_⟩, ?_⟩
      · show (to + _).toInt = _
        rw [Int32.toInt_add, x, iv_bm (by omega) (by omega), t0]; omega
      · show (4 - (3 : Int32).toInt).toNat < (4 - (nI 2).toInt).toNat
        decide
    · subst q
      obtain ⟨rk', e⟩ := ntB_3 (z := z) (fog := fog) (w := w) (to := to) (A := A) (rk := rk) (W0 := W0) (by rw [Int32.le_iff_toInt_le, hn, (by decide : (3 : Int32).toInt = 3)]; omega)
      have hq := wd_eq (s := s) (fog := fog) (w := w) (W0 := W0) (A := A) hd hs hz (k := 3) (by decide) (h := 3) (by decide)
      have x := XV_3 (rk := rk) hk hq (wdC_1 hd hs (by decide))
      have gk := DG_r g 3
      have ed : dN A s w fog n 3 = ndW A (wdC A s w fog 3) := by unfold dN; rw [if_pos hlt]
      have eb : bN A s w fog n 3 = nb9 A (wdC A s w fog 3) := by unfold bN; rw [if_pos hlt]
      rw [← ed, ← eb] at x
      have t0 : zsum (dN A s w fog n) (bN A s w fog n) (3 + 1) = zsum (dN A s w fog n) (bN A s w fog n) 3 + 125 * dN A s w fog n 3 + 5000 * bN A s w fog n 3 := by simp only [zsum, Int.reducePow]; omega
      refine ⟨_, e, ⟨3 + 1, by omega, rfl, ?_⟩, ?_⟩
      · show (to + _).toInt = _
        rw [Int32.toInt_add, x, iv_bm (by omega) (by omega), t0]; omega
      · show (4 - (4 : Int32).toInt).toNat < (4 - (nI 3).toInt).toNat
        decide
  · right
    have e : k = n := by omega
    subst e
    refine ⟨(to, rk, W0), ?_, ?_⟩
    · show B_k_X10_nightTo_0_1 z fog w A (nI k) to rk W0 = Sum.inr (to, rk, W0)
      unfold B_k_X10_nightTo_0_1
      simp only [bnd, nz1]
      rw [if_pos (by rw [Int32.le_iff_toInt_le, hn, nI_toInt (by omega)]; omega)]
    · show to.toInt = _
      rw [ht]
      have z0 := (g.2 0).2
      have z1 := (g.2 1).2
      have z2 := (g.2 2).2
      have z3 := (g.2 3).2
      have c : k = 0 ∨ k = 1 ∨ k = 2 ∨ k = 3 ∨ k = 4 := by omega
      rcases c with q | q | q | q | q
      · subst q
        have := z0 (by omega)
        have := z1 (by omega)
        have := z2 (by omega)
        have := z3 (by omega)
        show 0 = _
        omega
      · subst q
        have := z1 (by omega)
        have := z2 (by omega)
        have := z3 (by omega)
        rw [zs_1]; omega
      · subst q
        have := z2 (by omega)
        have := z3 (by omega)
        rw [zs_2]; omega
      · subst q
        have := z3 (by omega)
        rw [zs_3]; omega
      · subst q
        rw [zs_4]; omega
/-- the class's night -/
theorem bh_c {n : Nat} {d b : Nat → Int} {A : Nat → Int32} {s fog w : Int32} (hd : DG n d b) (hs : SC d b s) (hw : iv 0 9 w) : ∀ k : Nat, k ≤ n → (bhS (DA A) s w fog k).toInt = csum (dN A s w fog n) (bN A s w fog n) k := by
  have g := dN_DG (A := A) (w := w) (fog := fog) hd hs
  have h4 := hd.1
  intro k
  induction k with
  | zero => intro _; rfl
  | succ k ih =>
    intro hk
    have i0 := ih (by omega)
    have r := fun i => DG_r hd i
    have v := SC_v hd hs (k := k) (by omega)
    have rk := r k
    have e1 : (dgW s k / 2).toInt = d k := v.2.1
    have we : iv 0 4 (wsF s k / 2) ∧ iv 0 1 (snW s fog k) := by
      unfold snW
      cases k with
      | zero =>
        rw [wsF_0]
        refine ⟨iv_c _ (by decide), ?_⟩
        split
        · exact iv_c _ (by decide)
        · exact iv_c _ (by decide)
      | succ k =>
        have v2 := SC_v hd hs (k := k) (by omega)
        have r2 := r k
        rw [wsF_s]
        refine ⟨⟨?_, ?_⟩, ?_⟩
        · show 0 ≤ (stW s k).toInt; omega
        · show (stW s k).toInt ≤ 4; omega
        · split
          · exact iv_c _ (by decide)
          · have m := rm_toInt (x := dgW s k) (y := 2) (by omega) (by decide)
            rw [(by decide : (2 : Int32).toInt = 2)] at m
            unfold iv; rw [m]; omega
    have ek : (nI k).toNatClampNeg = k := nI_clamp (by omega)
    have pl := DA_pl (A := A) hw (h := nI k) (st := dgW s k / 2) (we := wsF s k / 2) (se := snW s fog k) (by unfold iv; rw [nI_toInt (by omega)]; omega) ⟨by omega, by omega⟩ we.1 we.2
    rw [ek] at pl
    have dv := dgS_v (A := A) (wdC_1 (A := A) (w := w) (fog := fog) hd hs (k := k) (by omega))
    have ed : dN A s w fog n k = ndW A (wdC A s w fog k) := by unfold dN; rw [if_pos (by omega)]
    have eb : bN A s w fog n k = nb9 A (wdC A s w fog k) := by unfold bN; rw [if_pos (by omega)]
    rw [← ed, ← eb] at dv
    show (bhS (DA A) s w fog k + DA A (plF w (nI k) (dgW s k / 2) (wsF s k / 2) (snW s fog k)).toNatClampNeg * pw k).toInt = csum (dN A s w fog n) (bN A s w fog n) (k + 1)
    rw [pl]
    have D : dgS A (wdF (nI k) (dgW s k / 2) (wsF s k / 2) (snW s fog k) (A (10 + k)) w) = dgS A (wdC A s w fog k) := rfl
    rw [D]
    generalize dgS A (wdC A s w fog k) = x at dv
    generalize bhS (DA A) s w fog k = al at i0
    have g0 := DG_r g 0
    have g1 := DG_r g 1
    have g2 := DG_r g 2
    have g3 := DG_r g 3
    have c : k = 0 ∨ k = 1 ∨ k = 2 ∨ k = 3 := by omega
    rcases c with q | q | q | q
    · subst q
      have p : (pw 0).toInt = 1 := by decide
      have i0 : al.toInt = 0 := i0
      have m : (x * pw 0).toInt = x.toInt * 1 := by rw [Int32.toInt_mul, p, iv_bm (by omega) (by omega)]
      rw [Int32.toInt_add, m, cs_1, iv_bm (by omega) (by omega)]; omega
    · subst q
      have p : (pw 1).toInt = 10 := by decide
      rw [cs_1] at i0
      have m : (x * pw 1).toInt = x.toInt * 10 := by rw [Int32.toInt_mul, p, iv_bm (by omega) (by omega)]
      rw [Int32.toInt_add, m, cs_2, iv_bm (by omega) (by omega)]; omega
    · subst q
      have p : (pw 2).toInt = 100 := by decide
      rw [cs_2] at i0
      have m : (x * pw 2).toInt = x.toInt * 100 := by rw [Int32.toInt_mul, p, iv_bm (by omega) (by omega)]
      rw [Int32.toInt_add, m, cs_3, iv_bm (by omega) (by omega)]; omega
    · subst q
      have p : (pw 3).toInt = 1000 := by decide
      rw [cs_3] at i0
      have m : (x * pw 3).toInt = x.toInt * 1000 := by rw [Int32.toInt_mul, p, iv_bm (by omega) (by omega)]
      rw [Int32.toInt_add, m, cs_4, iv_bm (by omega) (by omega)]; omega
theorem bh_n {n : Nat} {d b : Nat → Int} {A : Nat → Int32} {s fog w : Int32} (hd : DG n d b) (hs : SC d b s) (hw : iv 0 9 w) : SC (dN A s w fog n) (bN A s w fog n) (bhS (DA A) s w fog n) := by
  have g := dN_DG (A := A) (w := w) (fog := fog) hd hs
  have h4 := hd.1
  unfold SC
  rw [bh_c hd hs hw n (Nat.le_refl _)]
  have z0 := (g.2 0).2
  have z1 := (g.2 1).2
  have z2 := (g.2 2).2
  have z3 := (g.2 3).2
  have c : n = 0 ∨ n = 1 ∨ n = 2 ∨ n = 3 ∨ n = 4 := by omega
  rcases c with q | q | q | q | q
  · subst q
    have := z0 (by omega)
    have := z1 (by omega)
    have := z2 (by omega)
    have := z3 (by omega)
    show 0 = _
    omega
  · subst q
    have := z1 (by omega)
    have := z2 (by omega)
    have := z3 (by omega)
    rw [cs_1]; omega
  · subst q
    have := z2 (by omega)
    have := z3 (by omega)
    rw [cs_2]; omega
  · subst q
    have := z3 (by omega)
    rw [cs_3]; omega
  · subst q
    rw [cs_4]

/-- how all stands in a row of the reference at o: stacks, who took, the weather, the nights -/
def SnR (n : Nat) (s w g : Int32) (A : Nat → Int32) (o : Nat) : Prop := ∃ d b : Nat → Int, DG n d b ∧ SC d b s ∧ (∀ k : Nat, k < n → (A (o + k)).toInt = d k) ∧ (A (o + 4)).toInt = b 0 + 2 * b 1 + 4 * b 2 + 8 * b 3 ∧ A (o + 5) = w ∧ iv 0 9 w ∧ A (o + 6) = g
theorem SnR_cg {n : Nat} {s w g : Int32} {A A' : Nat → Int32} {o o' : Nat} (h : SnR n s w g A o) (e : ∀ k : Nat, k < 7 → A' (o' + k) = A (o + k)) : SnR n s w g A' o' := by
  obtain ⟨d, b, h1, h2, h3, h4, h5, h6, h7⟩ := h
  have n4 := h1.1
  exact ⟨d, b, h1, h2, fun k hk => by rw [e k (by omega)]; exact h3 k hk, by rw [e 4 (by decide)]; exact h4, by rw [e 5 (by decide)]; exact h5, h6, by rw [e 6 (by decide)]; exact h7⟩
/-- neither coast nor laws -/
def AGR (A A' : Nat → Int32) : Prop := ∀ j : Nat, (j < 46 ∨ 124 ≤ j) → A' j = A j
theorem AGR.refl (A : Nat → Int32) : AGR A A := fun _ _ => rfl
theorem AGR.trans {A B C : Nat → Int32} (h : AGR A B) (g : AGR B C) : AGR A C := fun j hj => (g j hj).trans (h j hj)
theorem AGR_u {A B : Nat → Int32} {k : Nat} {v : Int32} (h : AGR A B) (hk : 46 ≤ k ∧ k < 124) : AGR A (upd B k v) := fun j hj => by rw [upd_ne (by omega)]; exact h j hj
theorem CLs_agr {A A' : Nat → Int32} (h : AGR A A') {many fr : Nat} (h1 : many < 46) (h2 : fr < 46) : CLs A' many fr = CLs A many fr := by
  unfold CLs
  rw [h many (Or.inl h1), h fr (Or.inl h2)]
  exact List.map_congr_left (fun k _ => h _ (Or.inr (by omega)))
theorem LOK_agr {A A' : Nat → Int32} (h : AGR A A') {told many fr : Nat} {ty : Bool} (h0 : told < 46) (h1 : many < 46) (h2 : fr < 46) (g : LOK A told many fr ty) : LOK A' told many fr ty := by
  unfold LOK at g ⊢
  rw [CLs_agr h h1 h2, h told (Or.inl h0), h many (Or.inl h1), h fr (Or.inl h2)]; exact g
theorem LK_agr {A A' : Nat → Int32} (h : AGR A A') (g : LK A) : LK A' := ⟨LOK_agr h (by decide) (by decide) (by decide) g.1, LOK_agr h (by decide) (by decide) (by decide) g.2⟩
theorem tkQ_agr {A A' W : Nat → Int32} (h : AGR A A') : tkQ A' W = tkQ A W := by
  unfold tkQ
  rw [CLs_agr h (by decide) (by decide), h 4 (Or.inl (by decide))]
theorem adQ_agr {A A' W : Nat → Int32} (h : AGR A A') : adQ A' W = adQ A W := by
  unfold adQ
  rw [CLs_agr h (by decide) (by decide), h 5 (Or.inl (by decide))]
theorem dgS_agr {A A' W : Nat → Int32} (h : AGR A A') : dgS A' W = dgS A W := by
  unfold dgS
  rw [tkQ_agr h, adQ_agr h]
theorem DA_agr {A A' : Nat → Int32} (h : AGR A A') : DA A' = DA A := funext fun j => by
  unfold DA
  rw [dgS_agr h, h (10 + j / 50 % 4) (Or.inl (by omega))]
/-- the reference's stand now -/
theorem F_sn {n : Nat} {d b : Nat → Int} {A : Nat → Int32} (hd : DG n d b) (hn : (A 1).toInt = (n : Int)) (hs : ∀ k : Nat, k < n → (A (46 + k)).toInt = d k) (ht : (A 50).toInt = b 0 + 2 * b 1 + 4 * b 2 + 8 * b 3) : SZ d b (F_k_X10_standNow_0 A) := by
  have r0 := DG_r hd 0
  have r1 := DG_r hd 1
  have r2 := DG_r hd 2
  have r3 := DG_r hd 3
  have z0 := (hd.2 0).2
  have z1 := (hd.2 1).2
  have z2 := (hd.2 2).2
  have z3 := (hd.2 3).2
  have h4 := hd.1
  have e0 : (625 * A 50).toInt = 625 * (b 0 + 2 * b 1 + 4 * b 2 + 8 * b 3) := by rw [Int32.toInt_mul, ht, (by decide : (625 : Int32).toInt = 625), iv_bm (by omega) (by omega)]
  have d0 : ¬ F_k_X10_digitOf_0 0 = 0 ∧ ¬ F_k_X10_digitOf_0 0 = 1 ∧ ¬ F_k_X10_digitOf_0 0 = 2 := by decide
  have d1 : ¬ F_k_X10_digitOf_0 1 = 0 ∧ ¬ F_k_X10_digitOf_0 1 = 1 ∧ F_k_X10_digitOf_0 1 = 2 := by decide
  have d2 : ¬ F_k_X10_digitOf_0 2 = 0 ∧ F_k_X10_digitOf_0 2 = 1 := by decide
  have d3 : F_k_X10_digitOf_0 3 = 0 := by decide
  simp only [F_k_X10_standNow_0, bnd, nz1, nz50, nz46, nz47, nz48, nz49]
  have c0 : A 1 ≤ 0 ↔ (n : Int) ≤ 0 := by rw [Int32.le_iff_toInt_le, hn, (by decide : (0 : Int32).toInt = 0)]
  have c1 : A 1 ≤ 1 ↔ (n : Int) ≤ 1 := by rw [Int32.le_iff_toInt_le, hn, (by decide : (1 : Int32).toInt = 1)]
  have c2 : A 1 ≤ 2 ↔ (n : Int) ≤ 2 := by rw [Int32.le_iff_toInt_le, hn, (by decide : (2 : Int32).toInt = 2)]
  have c3 : A 1 ≤ 3 ↔ (n : Int) ≤ 3 := by rw [Int32.le_iff_toInt_le, hn, (by decide : (3 : Int32).toInt = 3)]
  rw [if_neg d0.1, if_neg d0.2.1, if_neg d0.2.2, if_neg d1.1, if_neg d1.2.1, if_pos d1.2.2, if_neg d2.1, if_pos d2.2, if_pos d3]
  by_cases q0 : (n : Int) ≤ 0
  · rw [if_pos (c0.mpr q0)]
    have := z0 (by omega)
    have := z1 (by omega)
    have := z2 (by omega)
    have := z3 (by omega)
    unfold SZ; rw [e0]; omega
  · rw [if_neg (fun z => q0 (c0.mp z))]
    have s0 := hs 0 (by omega)
    have m0 : (1 * A 46).toInt = d 0 := by rw [Int32.toInt_mul, s0, (by decide : (1 : Int32).toInt = 1), iv_bm (by omega) (by omega)]; omega
    have a0 : (625 * A 50 + 1 * A 46).toInt = 625 * (b 0 + 2 * b 1 + 4 * b 2 + 8 * b 3) + d 0 := by rw [Int32.toInt_add, e0, m0, iv_bm (by omega) (by omega)]
    by_cases q1 : (n : Int) ≤ 1
    · rw [if_pos (c1.mpr q1)]
      have := z1 (by omega)
      have := z2 (by omega)
      have := z3 (by omega)
      unfold SZ; rw [a0]; omega
    · rw [if_neg (fun z => q1 (c1.mp z))]
      have s1 := hs 1 (by omega)
      have m1 : (5 * A 47).toInt = 5 * d 1 := by rw [Int32.toInt_mul, s1, (by decide : (5 : Int32).toInt = 5), iv_bm (by omega) (by omega)]
      have a1 : (625 * A 50 + 1 * A 46 + 5 * A 47).toInt = 625 * (b 0 + 2 * b 1 + 4 * b 2 + 8 * b 3) + d 0 + 5 * d 1 := by rw [Int32.toInt_add, a0, m1, iv_bm (by omega) (by omega)]
      by_cases q2 : (n : Int) ≤ 2
      · rw [if_pos (c2.mpr q2)]
        have := z2 (by omega)
        have := z3 (by omega)
        unfold SZ; rw [a1]; omega
      · rw [if_neg (fun z => q2 (c2.mp z))]
        have s2 := hs 2 (by omega)
        have m2 : (25 * A 48).toInt = 25 * d 2 := by rw [Int32.toInt_mul, s2, (by decide : (25 : Int32).toInt = 25), iv_bm (by omega) (by omega)]
        have a2 : (625 * A 50 + 1 * A 46 + 5 * A 47 + 25 * A 48).toInt = 625 * (b 0 + 2 * b 1 + 4 * b 2 + 8 * b 3) + d 0 + 5 * d 1 + 25 * d 2 := by rw [Int32.toInt_add, a1, m2, iv_bm (by omega) (by omega)]
        by_cases q3 : (n : Int) ≤ 3
        · rw [if_pos (c3.mpr q3)]
          have := z3 (by omega)
          unfold SZ; rw [a2]; omega
        · rw [if_neg (fun z => q3 (c3.mp z))]
          have s3 := hs 3 (by omega)
          have m3 : (125 * A 49).toInt = 125 * d 3 := by rw [Int32.toInt_mul, s3, (by decide : (125 : Int32).toInt = 125), iv_bm (by omega) (by omega)]
          have a3 : (625 * A 50 + 1 * A 46 + 5 * A 47 + 25 * A 48 + 125 * A 49).toInt = 625 * (b 0 + 2 * b 1 + 4 * b 2 + 8 * b 3) + d 0 + 5 * d 1 + 25 * d 2 + 125 * d 3 := by rw [Int32.toInt_add, a2, m3, iv_bm (by omega) (by omega)]
          unfold SZ; rw [a3]; omega
/-- the reference's row behind a stand is laid -/
theorem F_is {n : Nat} {z : Int32} {A : Nat → Int32} (hn : (A 1).toInt = (n : Int)) (h4 : n ≤ 4) : ∀ j : Nat, F_k_X10_isStand_0 z A j = if j = 50 then F_k_X10_tookIn_0 z else if 46 ≤ j ∧ j < 46 + n then F_k_X10_stackIn_0 z (nI (j - 46)) else A j := by
  unfold F_k_X10_isStand_0
  refine W9_rule (fun x : Int32 × (Nat → Int32) => ∃ k : Nat, k ≤ n ∧ x.1 = nI k ∧ ∀ j : Nat, x.2 j = if 46 ≤ j ∧ j < 46 + k then F_k_X10_stackIn_0 z (nI (j - 46)) else A j) (fun r : Nat → Int32 => ∀ j : Nat, r j = if j = 50 then F_k_X10_tookIn_0 z else if 46 ≤ j ∧ j < 46 + n then F_k_X10_stackIn_0 z (nI (j - 46)) else A j) (fun x => (4 - x.1.toInt).toNat) ?_ ⟨0, by omega, nI_0.symm, fun j => by rw [if_neg (by omega)]⟩
  rintro ⟨h, f⟩ ⟨k, hkn, hh, hf⟩
  have hh : h = nI k := hh
  subst hh
  have hf : ∀ j : Nat, f j = if 46 ≤ j ∧ j < 46 + k then F_k_X10_stackIn_0 z (nI (j - 46)) else A j := hf
  have f1 : f 1 = A 1 := by rw [hf, if_neg (by omega)]
  by_cases hlt : k < n
  · left
    have e46 : ((46 : Int32) + nI k).toNatClampNeg = 46 + k := by
      have q : ((46 : Int32) + nI k).toInt = 46 + (k : Int) := by rw [Int32.toInt_add, nI_toInt (by omega), (by decide : (46 : Int32).toInt = 46), iv_bm (by omega) (by omega)]
      have := clampNat (x := (46 : Int32) + nI k) (by omega)
      omega
    refine ⟨(nI k + 1, upd f (46 + k) (F_k_X10_stackIn_0 z (nI k))), ?_, ⟨k + 1, by omega, nI_add k 1, fun j => ?_⟩, ?_⟩
    · show B_k_X10_isStand_0_1 z (nI k) f = _
      unfold B_k_X10_isStand_0_1
      simp only [bnd, nz1]
      rw [f1, if_neg (by rw [Int32.le_iff_toInt_le, hn, nI_toInt (by omega)]; omega), e46]
    · show upd f (46 + k) (F_k_X10_stackIn_0 z (nI k)) j = _
      by_cases y : j = 46 + k
      · rw [y, upd_at, if_pos (by omega), Nat.add_sub_cancel_left]
      · rw [upd_ne y, hf]
        by_cases y2 : 46 ≤ j ∧ j < 46 + k
        · rw [if_pos y2, if_pos (by omega)]
        · rw [if_neg y2, if_neg (by omega)]
    · show (4 - (nI k + 1).toInt).toNat < (4 - (nI k).toInt).toNat
      have e : (nI k + 1).toInt = (k : Int) + 1 := by
        have q : nI k + 1 = nI (k + 1) := nI_add k 1
        rw [q, nI_toInt (by omega)]; push_cast; rfl
      rw [e, nI_toInt (by omega)]; omega
  · right
    have e : k = n := by omega
    subst e
    refine ⟨upd f 50 (F_k_X10_tookIn_0 z), ?_, fun j => ?_⟩
    · show B_k_X10_isStand_0_1 z (nI k) f = _
      unfold B_k_X10_isStand_0_1
      simp only [bnd, nz1, nz50]
      rw [f1, if_pos (by rw [Int32.le_iff_toInt_le, hn, nI_toInt (by omega)]; omega)]
    · by_cases y : j = 50
      · rw [y, upd_at, if_pos rfl]
      · rw [upd_ne y, if_neg y]; exact hf j
theorem SnR_of {n : Nat} {d b : Nat → Int} {s w g z : Int32} {A A' : Nat → Int32} (hd : DG n d b) (hs : SC d b s) (hz : SZ d b z) (ha : ∀ j : Nat, j ≠ 52 → A' j = if j = 50 then F_k_X10_tookIn_0 z else if 46 ≤ j ∧ j < 46 + n then F_k_X10_stackIn_0 z (nI (j - 46)) else A j) (hw : A 51 = w) (iw : iv 0 9 w) (hg : A' 52 = g) : SnR n s w g A' 46 := by
  have h4 := hd.1
  refine ⟨d, b, hd, hs, fun k hk => ?_, ?_, ?_, iw, hg⟩
  · rw [ha _ (by omega), if_neg (by omega), if_pos (by omega), Nat.add_sub_cancel_left]
    exact SZ_st hd hz (k := k) (by rw [nI_toInt (by omega)]) (by omega)
  · rw [ha _ (by omega), if_pos (by omega)]; exact SZ_tk hd hz
  · rw [ha _ (by omega), if_neg (by omega), if_neg (by omega)]; exact hw
/-- a night goes -/
theorem F_gn {n : Nat} {s w g fog : Int32} {A rk Wi : Nat → Int32} (hn : (A 1).toInt = (n : Int)) (hk : LK A) (h : SnR n s w g A 46) : SnR n (bhS (DA A) s w fog n) w (g + 1) (F_k_X10_goesNight_0 fog rk Wi A).2.2 46 ∧ AGR A (F_k_X10_goesNight_0 fog rk Wi A).2.2 ∧ ∀ j : Nat, 53 ≤ j → (F_k_X10_goesNight_0 fog rk Wi A).2.2 j = A j := by
  obtain ⟨d, b, h1, h2, h3, h4, h5, h6, h7⟩ := h
  have n4 := h1.1
  have h5 : A 51 = w := h5
  have h7 : A 52 = g := h7
  have zs := F_sn h1 hn h3 h4
  have zn := F_nt (rk0 := rk) (Wi := Wi) (fog := fog) (w := w) h1 h2 zs hn hk
  have is := F_is (z := (F_k_X10_nightTo_0 (F_k_X10_standNow_0 A) fog w rk Wi A).1) hn n4
  have e : (F_k_X10_goesNight_0 fog rk Wi A).2.2 = upd (F_k_X10_isStand_0 (F_k_X10_nightTo_0 (F_k_X10_standNow_0 A) fog w rk Wi A).1 A) 52 (g + 1) := by
    simp only [F_k_X10_goesNight_0, bnd, nz51, nz52, h5]
    rw [is 52, if_neg (by decide), if_neg (by omega), h7]
  rw [e]
  refine ⟨SnR_of (dN_DG h1 h2) (bh_n h1 h2 h6) zn (fun j hj => by rw [upd_ne hj]; exact is j) h5 h6 (by rw [upd_at]), fun j hj => ?_, fun j hj => ?_⟩
  · rw [upd_ne (by omega), is j, if_neg (by omega), if_neg (by omega)]
  · rw [upd_ne (by omega), is j, if_neg (by omega), if_neg (by omega)]

theorem k7 {k : Nat} (h : k < 7) : k = 0 ∨ k = 1 ∨ k = 2 ∨ k = 3 ∨ k = 4 ∨ k = 5 ∨ k = 6 := by omega
theorem F_sto {Wz A : Nat → Int32} : ∀ k : Nat, k < 7 → F_k_X10_stores_0 Wz A k = A (46 + k) := by
  intro k hk
  simp only [F_k_X10_stores_0, bnd, nz0, nz1, nz2, nz3, nz4, nz5, nz6, nz46, nz47, nz48, nz49, nz50, nz51, nz52]
  rcases k7 hk with q | q | q | q | q | q | q <;> (subst q; simp [upd])
theorem F_aga {Wz A : Nat → Int32} : (∀ k : Nat, k < 7 → F_k_X10_isAgain_0 Wz A (46 + k) = Wz k) ∧ (∀ j : Nat, (j < 46 ∨ 53 ≤ j) → F_k_X10_isAgain_0 Wz A j = A j) := by
  simp only [F_k_X10_isAgain_0, bnd, nz0, nz1, nz2, nz3, nz4, nz5, nz6, nz46, nz47, nz48, nz49, nz50, nz51, nz52]
  refine ⟨fun k hk => ?_, fun j hj => ?_⟩
  · rcases k7 hk with q | q | q | q | q | q | q <;> (subst q; simp [upd])
  · rw [upd_ne (by omega), upd_ne (by omega), upd_ne (by omega), upd_ne (by omega), upd_ne (by omega), upd_ne (by omega), upd_ne (by omega)]
/-- seven numbers from a place on -/
def up7 (A : Nat → Int32) (x : Int32) (Wz : Nat → Int32) : Nat → Int32 := upd (upd (upd (upd (upd (upd (upd A (x + 0).toNatClampNeg (Wz 0)) (x + 1).toNatClampNeg (Wz 1)) (x + 2).toNatClampNeg (Wz 2)) (x + 3).toNatClampNeg (Wz 3)) (x + 4).toNatClampNeg (Wz 4)) (x + 5).toNatClampNeg (Wz 5)) (x + 6).toNatClampNeg (Wz 6)
theorem x_p {x : Int32} {p : Nat} (hx : x.toInt = (p : Int)) (hp : p ≤ 3000) : (x + 0).toNatClampNeg = p ∧ (x + 1).toNatClampNeg = p + 1 ∧ (x + 2).toNatClampNeg = p + 2 ∧ (x + 3).toNatClampNeg = p + 3 ∧ (x + 4).toNatClampNeg = p + 4 ∧ (x + 5).toNatClampNeg = p + 5 ∧ (x + 6).toNatClampNeg = p + 6 := by
  have e : ∀ (k : Int32) (m : Nat), k.toInt = (m : Int) → m ≤ 10 → (x + k).toNatClampNeg = p + m := fun k m hk hm => by
    have q : (x + k).toInt = (p : Int) + m := by rw [Int32.toInt_add, hx, hk, iv_bm (by omega) (by omega)]
    exact toNat_is (by rw [q]; push_cast; rfl)
  exact ⟨e 0 0 (by decide) (by decide), e 1 1 (by decide) (by decide), e 2 2 (by decide) (by decide), e 3 3 (by decide) (by decide), e 4 4 (by decide) (by decide), e 5 5 (by decide) (by decide), e 6 6 (by decide) (by decide)⟩
theorem up7_v {A Wz : Nat → Int32} {x : Int32} {p : Nat} (hx : x.toInt = (p : Int)) (hp : p ≤ 3000) : (∀ k : Nat, k < 7 → up7 A x Wz (p + k) = Wz k) ∧ (∀ j : Nat, (j < p ∨ p + 7 ≤ j) → up7 A x Wz j = A j) := by
  obtain ⟨e0, e1, e2, e3, e4, e5, e6⟩ := x_p hx hp
  unfold up7
  rw [e0, e1, e2, e3, e4, e5, e6]
  refine ⟨fun k hk => ?_, fun j hj => ?_⟩
  · rcases k7 hk with q | q | q | q | q | q | q <;> (subst q; simp [upd])
  · rw [upd_ne (by omega), upd_ne (by omega), upd_ne (by omega), upd_ne (by omega), upd_ne (by omega), upd_ne (by omega), upd_ne (by omega)]
/-- what the reference notes behind a deed -/
def NoR (A Wz A' : Nat → Int32) (m' sh : Nat) : Prop := A' 53 = nI (m' + 1) ∧ (∀ k : Nat, k < 7 → A' (54 + 7 * m' + k) = Wz k) ∧ (∀ j : Nat, j < 7 * m' → A' (54 + j) = A (54 + j + 7 * sh)) ∧ (∀ j : Nat, (j < 53 ∨ 124 ≤ j) → A' j = A j)
theorem F_no {A Wz : Nat → Int32} {m : Nat} (hm : (A 53).toInt = (m : Int)) (h10 : m ≤ 10) : NoR A Wz (F_k_X10_notes_0 Wz A) (if m = 10 then 9 else m) (if m = 10 then 1 else 0) := by
  have e53 : A 53 = nI m := i32 (by rw [hm, nI_toInt (by omega)])
  by_cases h : m = 10
  · subst h
    rw [if_pos rfl, if_pos rfl]
    have c10 : A 53 = 10 := e53
    have top : F_k_X10_notes_0 Wz A = W9 (L_k_X10_notes_0_1 Wz) (0, A) := by
      simp only [F_k_X10_notes_0, bnd, nz53]
      rw [if_pos c10]
    rw [top]
    refine W9_rule (fun x : Int32 × (Nat → Int32) => ∃ k : Nat, k ≤ 63 ∧ x.1 = nI k ∧ x.2 53 = 10 ∧ (∀ j : Nat, j < k → x.2 (54 + j) = A (61 + j)) ∧ (∀ j : Nat, (j < 54 ∨ 54 + k ≤ j) → x.2 j = A j)) (fun r : Nat → Int32 => NoR A Wz r 9 1) (fun x => (63 - x.1.toInt).toNat) ?_ ⟨0, by decide, nI_0.symm, c10, fun j hj => absurd hj (by omega), fun j _ => rfl⟩
    rintro ⟨u, f⟩ ⟨k, hk, hu, f53o, f1o, f2o⟩
    have hu : u = nI k := hu
    subst hu
    have f53 : f 53 = 10 := f53o
    have f1 : ∀ j : Nat, j < k → f (54 + j) = A (61 + j) := f1o
    have f2 : ∀ j : Nat, (j < 54 ∨ 54 + k ≤ j) → f j = A j := f2o
    have c63 : (63 : Int32) ≤ nI k ↔ 63 ≤ (k : Int) := by rw [Int32.le_iff_toInt_le, nI_toInt (by omega), (by decide : (63 : Int32).toInt = 63)]
    by_cases hlt : k < 63
    · left
      have i1 : ((54 : Int32) + nI k).toNatClampNeg = 54 + k := by
        have q : ((54 : Int32) + nI k).toInt = 54 + (k : Int) := by rw [Int32.toInt_add, nI_toInt (by omega), (by decide : (54 : Int32).toInt = 54), iv_bm (by omega) (by omega)]
        exact toNat_is (by rw [q]; push_cast; rfl)
      have i2 : ((61 : Int32) + nI k).toNatClampNeg = 61 + k := by
        have q : ((61 : Int32) + nI k).toInt = 61 + (k : Int) := by rw [Int32.toInt_add, nI_toInt (by omega), (by decide : (61 : Int32).toInt = 61), iv_bm (by omega) (by omega)]
        exact toNat_is (by rw [q]; push_cast; rfl)
      have nx : nI k + 1 = nI (k + 1) := nI_add k 1
      refine ⟨(nI (k + 1), upd f (54 + k) (f (61 + k))), ?_, ⟨k + 1, by omega, rfl, ?_, fun j hj => ?_, fun j hj => ?_⟩, ?_⟩
      · show B_k_X10_notes_0_1 Wz (nI k) f = _
        unfold B_k_X10_notes_0_1
        simp only [bnd]
        rw [if_neg (fun z => absurd (c63.mp z) (by omega)), i1, i2, nx]
      · show upd f (54 + k) (f (61 + k)) 53 = 10
        rw [upd_ne (by omega)]; exact f53
      · show upd f (54 + k) (f (61 + k)) (54 + j) = A (61 + j)
        by_cases y : j = k
        · rw [y, upd_at]; exact f2 _ (by omega)
        · rw [upd_ne (by omega)]; exact f1 j (by omega)
      · show upd f (54 + k) (f (61 + k)) j = A j
        rw [upd_ne (by omega)]; exact f2 j (by omega)
      · show (63 - (nI (k + 1)).toInt).toNat < (63 - (nI k).toInt).toNat
        rw [nI_toInt (by omega), nI_toInt (by omega)]; omega
    · right
      have e : k = 63 := by omega
      subst e
      have ex : ((54 : Int32) + 7 * (10 - 1)).toInt = ((117 : Nat) : Int) := by decide
      obtain ⟨u1, u2⟩ := up7_v (A := upd f 53 9) (Wz := Wz) ex (by decide)
      refine ⟨upd (up7 (upd f 53 9) ((54 : Int32) + 7 * (10 - 1)) Wz) 53 (10 - 1 + 1), ?_, ?_, fun k hk => ?_, fun j hj => ?_, fun j hj => ?_⟩
      · show B_k_X10_notes_0_1 Wz (nI 63) f = _
        unfold B_k_X10_notes_0_1
        simp only [bnd, nz53, nz0, nz1, nz2, nz3, nz4, nz5, nz6]
        rw [if_pos (c63.mpr (by decide)), f53]
        rfl
      · show upd _ 53 _ 53 = _
        rw [upd_at]; decide
      · show upd _ 53 _ (54 + 7 * 9 + k) = _
        rw [upd_ne (by omega)]; exact u1 k hk
      · show upd _ 53 _ (54 + j) = _
        rw [upd_ne (by omega), u2 _ (by omega), upd_ne (by omega), f1 j (by omega)]
        congr 1; omega
      · show upd _ 53 _ j = _
        rw [upd_ne (by omega), u2 _ (by omega), upd_ne (by omega), f2 j (by omega)]
  · rw [if_neg h, if_neg h]
    have ex : ((54 : Int32) + 7 * A 53).toInt = ((54 + 7 * m : Nat) : Int) := by
      have q : (7 * A 53).toInt = 7 * (m : Int) := by rw [Int32.toInt_mul, hm, (by decide : (7 : Int32).toInt = 7), iv_bm (by omega) (by omega)]
      rw [Int32.toInt_add, q, (by decide : (54 : Int32).toInt = 54), iv_bm (by omega) (by omega)]; push_cast; rfl
    obtain ⟨u1, u2⟩ := up7_v (A := A) (Wz := Wz) ex (by omega)
    have top : F_k_X10_notes_0 Wz A = upd (up7 A ((54 : Int32) + 7 * A 53) Wz) 53 (A 53 + 1) := by
      simp only [F_k_X10_notes_0, bnd, nz53, nz0, nz1, nz2, nz3, nz4, nz5, nz6]
      rw [if_neg (fun z => h (by rw [z] at hm; rw [(by decide : (10 : Int32).toInt = 10)] at hm; omega))]
      rfl
    rw [top]
    refine ⟨?_, fun k hk => ?_, fun j hj => ?_, fun j hj => ?_⟩
    · rw [upd_at, e53]; exact nI_add m 1
    · rw [upd_ne (by omega)]; exact u1 k hk
    · rw [upd_ne (by omega), u2 _ (by omega)]; rfl
    · rw [upd_ne (by omega), u2 _ (by omega)]
/-- what can be undone, on both sides -/
def PaR (n : Nat) (c : Int32) (ps pw9 pn : Nat → Int32) (A : Nat → Int32) : Prop := ∃ m : Nat, m ≤ 10 ∧ c = nI m ∧ A 53 = nI m ∧ ∀ i : Nat, i < m → SnR n (ps i) (pw9 i) (pn i) A (54 + 7 * i)
theorem cpy_1 {f : Nat → Int32} : ∀ i : Nat, i < 9 → va_cpy f f (1 : Int32).toNatClampNeg (0 : Int32).toNatClampNeg (9 : Int32).toNatClampNeg i = f (i + 1) := by
  intro i hi
  rw [nz1, nz0, nz9]
  unfold va_cpy
  rw [if_pos (by omega)]
  congr 1; omega
/-- keep against notes -/
theorem F_kp {n : Nat} {s w g c : Int32} {ps pw9 pn A B Wz : Nat → Int32} (hp : PaR n c ps pw9 pn A) (hb : ∀ j : Nat, 53 ≤ j ∧ j < 124 → B j = A j) (hw : SnR n s w g Wz 0) : PaR n (F_k_X5_keep_0 s w g c ps pw9 pn).1 (F_k_X5_keep_0 s w g c ps pw9 pn).2.1 (F_k_X5_keep_0 s w g c ps pw9 pn).2.2.1 (F_k_X5_keep_0 s w g c ps pw9 pn).2.2.2 (F_k_X10_notes_0 Wz B) ∧ ∀ j : Nat, (j < 53 ∨ 124 ≤ j) → F_k_X10_notes_0 Wz B j = B j := by
  obtain ⟨m, hm, hc, hA, hs⟩ := hp
  have hB : (B 53).toInt = (m : Int) := by rw [hb 53 (by decide), hA, nI_toInt (by omega)]
  obtain ⟨n1, n2, n3, n4⟩ := F_no (Wz := Wz) hB hm
  refine ⟨?_, n4⟩
  subst hc
  by_cases h : m = 10
  · subst h
    rw [if_pos rfl] at n1 n2 n3
    rw [if_pos rfl] at n3
    have e : F_k_X5_keep_0 s w g (nI 10) ps pw9 pn = (10 - 1 + 1, upd (va_cpy ps ps (1 : Int32).toNatClampNeg (0 : Int32).toNatClampNeg (9 : Int32).toNatClampNeg) 9 s, upd (va_cpy pw9 pw9 (1 : Int32).toNatClampNeg (0 : Int32).toNatClampNeg (9 : Int32).toNatClampNeg) 9 w, upd (va_cpy pn pn (1 : Int32).toNatClampNeg (0 : Int32).toNatClampNeg (9 : Int32).toNatClampNeg) 9 g) := by
      simp only [F_k_X5_keep_0, F_k_X5_forgetEldest_0, F_k_X5_forgetEldest_1, F_k_X5_forgetEldest_2, bnd]
      rw [if_pos (by decide)]
      rfl
    rw [e]
    refine ⟨10, by decide, (by decide : (10 : Int32) - 1 + 1 = nI 10), n1, fun i hi => ?_⟩
    by_cases y : i = 9
    · subst y
      exact SnR_cg hw (fun k hk => by rw [n2 k hk, Nat.zero_add])
    · show SnR n (upd _ 9 s i) (upd _ 9 w i) (upd _ 9 g i) _ _
      rw [upd_ne y, upd_ne y, upd_ne y, cpy_1 i (by omega), cpy_1 i (by omega), cpy_1 i (by omega)]
      refine SnR_cg (hs (i + 1) (by omega)) (fun k hk => ?_)
      have q := n3 (7 * i + k) (by omega)
      rw [show 54 + 7 * i + k = 54 + (7 * i + k) by omega, q, hb _ (by omega)]
      congr 1; omega
  · rw [if_neg h] at n1 n2 n3
    rw [if_neg h] at n3
    have cm : (nI m).toNatClampNeg = m := nI_clamp (by omega)
    have e : F_k_X5_keep_0 s w g (nI m) ps pw9 pn = (nI m + 1, upd ps m s, upd pw9 m w, upd pn m g) := by
      simp only [F_k_X5_keep_0, bnd]
      rw [if_neg (fun z => h (by have := congrArg Int32.toInt z; rw [nI_toInt (by omega), (by decide : (10 : Int32).toInt = 10)] at this; omega)), cm]
    rw [e]
    refine ⟨m + 1, by omega, nI_add m 1, n1, fun i hi => ?_⟩
    by_cases y : i = m
    · subst y
      show SnR n (upd _ i s i) (upd _ i w i) (upd _ i g i) _ _
      rw [upd_at, upd_at, upd_at]
      exact SnR_cg hw (fun k hk => by rw [n2 k hk, Nat.zero_add])
    · show SnR n (upd _ m s i) (upd _ m w i) (upd _ m g i) _ _
      rw [upd_ne y, upd_ne y, upd_ne y]
      refine SnR_cg (hs i (by omega)) (fun k hk => ?_)
      have q := n3 (7 * i + k) (by omega)
      rw [show 54 + 7 * i + k = 54 + (7 * i + k) by omega, q, hb _ (by omega)]
      congr 1
