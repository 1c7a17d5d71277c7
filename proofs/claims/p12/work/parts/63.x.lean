theorem sb9 {P : Nat → Prop} {l1 l2 : List Nat} (h : ∀ i ∈ l2, P i) (d : l1.all (fun i => l2.contains i) = true) : ∀ i ∈ l1, P i := fun i hi => by
  have q := List.all_eq_true.mp d i hi
  exact h i (List.contains_iff_mem.mp q)
/-- the class's fears in a row of the reference -/
def AF (A fe : Nat → Int32) : Nat → Int32 := fun j => if 10 ≤ j ∧ j < 14 then fe (j - 10) else A j
theorem AF_o {A fe : Nat → Int32} {j : Nat} (h : ¬ (10 ≤ j ∧ j < 14)) : AF A fe j = A j := if_neg h
theorem AF_f {A fe : Nat → Int32} {k : Nat} (h : k < 4) : AF A fe (10 + k) = fe k := by
  unfold AF; rw [if_pos (by omega), Nat.add_sub_cancel_left]
theorem AF_p {A fe : Nat → Int32} {h : Int32} (hh : iv 0 3 h) : AF A fe (10 + h.toNatClampNeg) = fe h.toNatClampNeg := AF_f (by have := clampNat (x := h) hh.1; have := hh.2; omega)
/-- rows alike in what the laws are -/
def AGC (A A' : Nat → Int32) : Prop := ∀ j : Nat, (j < 10 ∨ 124 ≤ j) → A' j = A j
theorem AGR.c {A A' : Nat → Int32} (h : AGR A A') : AGC A A' := fun j hj => h j (by omega)
theorem AF_c (A fe : Nat → Int32) : AGC A (AF A fe) := fun j hj => AF_o (by omega)
theorem CLs_c {A A' : Nat → Int32} (h : AGC A A') {many fr : Nat} (h1 : many < 10) (h2 : fr < 10) : CLs A' many fr = CLs A many fr := by
  unfold CLs
  rw [h many (Or.inl h1), h fr (Or.inl h2)]
  exact List.map_congr_left (fun k _ => h _ (Or.inr (by omega)))
theorem tkQ_c {A A' W : Nat → Int32} (h : AGC A A') : tkQ A' W = tkQ A W := by
  unfold tkQ
  rw [CLs_c h (by decide) (by decide), h 4 (Or.inl (by decide))]
theorem adQ_c {A A' W : Nat → Int32} (h : AGC A A') : adQ A' W = adQ A W := by
  unfold adQ
  rw [CLs_c h (by decide) (by decide), h 5 (Or.inl (by decide))]
theorem dgS_c {A A' W : Nat → Int32} (h : AGC A A') : dgS A' W = dgS A W := by
  unfold dgS
  rw [tkQ_c h, adQ_c h]
/-- the laws' table by the class's fears -/
noncomputable def DF (A fe : Nat → Int32) : Nat → Int32 := DA (AF A fe)
theorem DF_pl {A fe : Nat → Int32} {w h st we se : Int32} (hw : iv 0 9 w) (hh : iv 0 3 h) (hs : iv 0 4 st) (he : iv 0 4 we) (hz : iv 0 1 se) : DF A fe (plF w h st we se).toNatClampNeg = dgS A (wdF h st we se (fe h.toNatClampNeg) w) := by
  unfold DF
  rw [DA_pl hw hh hs he hz, dgS_c (AF_c A fe), AF_p hh]
theorem DF_agr {A A' fe : Nat → Int32} (h : AGR A A') : DF A' fe = DF A fe := by
  unfold DF
  refine DA_agr (fun j hj => ?_)
  unfold AF
  split
  · rfl
  · exact h j hj
theorem wsn_iv {n : Nat} {d b : Nat → Int} {s fog : Int32} (hd : DG n d b) (hs : SC d b s) {k : Nat} (hk : k < 4) : iv 0 4 (wsF s k / 2) ∧ iv 0 1 (snW s fog k) := by
  unfold snW
  cases k with
  | zero =>
    rw [wsF_0]
    refine ⟨iv_c _ (by decide), ?_⟩
    split
    · exact iv_c _ (by decide)
    · exact iv_c _ (by decide)
  | succ k =>
    have v2 := SC_v hd hs (k := k) (by omega)
    have r2 := DG_r hd k
    rw [wsF_s]
    refine ⟨⟨?_, ?_⟩, ?_⟩
    · show 0 ≤ (stW s k).toInt; omega
    · show (stW s k).toInt ≤ 4; omega
    · split
      · exact iv_c _ (by decide)
      · have m := rm_toInt (x := dgW s k) (y := 2) (by omega) (by decide)
        rw [(by decide : (2 : Int32).toInt = 2)] at m
        unfold iv; rw [m]; omega
theorem DF_DA {A fe : Nat → Int32} {w h st we se : Int32} (hw : iv 0 9 w) (hh : iv 0 3 h) (hs : iv 0 4 st) (he : iv 0 4 we) (hz : iv 0 1 se) (hf : fe h.toNatClampNeg = A (10 + h.toNatClampNeg)) : DF A fe (plF w h st we se).toNatClampNeg = DA A (plF w h st we se).toNatClampNeg := by
  rw [DF_pl hw hh hs he hz, DA_pl hw hh hs he hz, hf]
theorem bh_01 {D : Nat → Int32} {s w fog : Int32} : bhS D s w fog 0 = 0 := rfl
theorem bh_s1 {D : Nat → Int32} {s w fog : Int32} (k : Nat) : bhS D s w fog (k + 1) = bhS D s w fog k + D (plF w (nI k) (dgW s k / 2) (wsF s k / 2) (snW s fog k)).toNatClampNeg * pw k := rfl
/-- a night by the class's table, by the reference's -/
theorem bh_F {n : Nat} {d b : Nat → Int} {A fe : Nat → Int32} {s fog w : Int32} (hd : DG n d b) (hs : SC d b s) (hw : iv 0 9 w) (hf : ∀ k : Nat, k < n → fe k = A (10 + k)) : ∀ k : Nat, k ≤ n → bhS (DF A fe) s w fog k = bhS (DA A) s w fog k := by
  have h4 := hd.1
  intro k
  induction k with
  | zero => intro _; rw [bh_01, bh_01]
  | succ k ih =>
    intro hk
    have v := SC_v hd hs (k := k) (by omega)
    have rk := DG_r hd k
    have e1 : (dgW s k / 2).toInt = d k := v.2.1
    have we := wsn_iv (fog := fog) hd hs (k := k) (by omega)
    have ek : (nI k).toNatClampNeg = k := nI_clamp (by omega)
    have ik : iv 0 3 (nI k) := by unfold iv; rw [nI_toInt (by omega)]; omega
    have is : iv 0 4 (dgW s k / 2) := ⟨by omega, by omega⟩
    have a1 := DF_DA (A := A) (fe := fe) hw ik is we.1 we.2 (by rw [ek]; exact hf k (by omega))
    have i0 := ih (by omega)
    rw [bh_s1, bh_s1, i0, a1]
theorem mm_c4 (v : Int32) : mxF 0 (mnF 4 v) = cl4 v := by
  have z0 : (0 : Int32).toInt = 0 := by decide
  have z4 : (4 : Int32).toInt = 4 := by decide
  unfold mxF mnF cl4
  by_cases a : v < 4
  · have a' := Int32.lt_iff_toInt_lt.mp a
    rw [z4] at a'
    rw [if_pos a]
    by_cases c : (0 : Int32) < v
    · have c' := Int32.lt_iff_toInt_lt.mp c
      rw [z0] at c'
      rw [if_pos c, if_pos (Int32.le_iff_toInt_le.mpr (by omega)), if_pos (Int32.le_iff_toInt_le.mpr (by omega))]
    · have c' : ¬ 0 < v.toInt := fun q => c (Int32.lt_iff_toInt_lt.mpr (by rw [z0]; exact q))
      rw [if_neg c]
      by_cases e : (0 : Int32) ≤ v
      · have e' := Int32.le_iff_toInt_le.mp e
        rw [z0] at e'
        have e0 : v = 0 := i32 (by rw [z0]; omega)
        rw [if_pos e, e0, if_pos (by decide)]
      · rw [if_neg e]
  · have a' : ¬ v.toInt < 4 := fun q => a (Int32.lt_iff_toInt_lt.mpr (by rw [z4]; exact q))
    rw [if_neg a, if_pos (by decide), if_pos (Int32.le_iff_toInt_le.mpr (by omega))]
    by_cases e : v ≤ 4
    · have e' := Int32.le_iff_toInt_le.mp e
      rw [z4] at e'
      have e0 : v = 4 := i32 (by rw [z4]; omega)
      rw [if_pos e, e0]
    · rw [if_neg e]
/-- a law's place among the steps -/
def LPl (told fr many b e : Int32) : Prop := told = 0 ∧ b = 0 ∧ e = 0 ∨ told = 1 ∧ b = fr ∧ e = fr + many
/-- its codes are well typed and stand within -/
def LTy (B : Nat → Int32) (told fr many : Nat) (ty : Bool) : Prop := B told = 1 → trT [] (CLs B many fr) = some [ty] ∧ (B fr).toInt + (B many).toInt ≤ (B 124).toInt
/-- a coast: the class's cells, the reference's row -/
def CoR (B : Nat → Int32) (ln hn vn rn : Int32) (fe ga ne rf rt ca st : Nat → Int32) (sc tb te ab ae : Int32) : Prop :=
  (ln = B 0 ∧ hn = B 1 ∧ vn = B 2 ∧ rn = B 3) ∧ (∀ j : Nat, (j : Int) < (B 1).toInt → fe j = B (10 + j) ∧ ga j = B (14 + j)) ∧ (∀ j : Nat, (j : Int) < (B 2).toInt → ne j = B (18 + j)) ∧ (∀ j : Nat, (j : Int) < (B 3).toInt → rf j = B (22 + 3 * j) ∧ rt j = B (23 + 3 * j) ∧ ca j = B (24 + 3 * j)) ∧ (LPl (B 4) (B 6) (B 8) tb te ∧ LPl (B 5) (B 7) (B 9) ab ae) ∧ (sc = B 124 ∧ iv 0 900 (B 124)) ∧ (∀ j : Nat, (j : Int) < (B 124).toInt → st j = cmF (B (125 + j))) ∧ LTy B 4 6 8 true ∧ LTy B 5 7 9 false
/-- types and well formed codes of a row, as the reference's own facts have them -/
def RowT (B : Nat → Int32) : Prop := (∀ j : Nat, j < 1025 → iv (tA j).1 (tA j).2 (B j)) ∧ WF B 0
theorem RowT_k {B : Nat → Int32} (h : RowT B) {j : Nat} {a b : Int} (hj : j < 1025) (e : tA j = (a, b)) : iv a b (B j) := by
  have := h.1 j hj
  rw [e] at this; exact this
theorem RowT_0 {A : Nat → Int32} (h : ivT tA A) (g : RW A) : RowT A := ⟨fun j _ => h j, g.1⟩
theorem LOK_of {B : Nat → Int32} {told fr many : Nat} {ty : Bool} {law : Nat} (h : RowT B) (hl : law < 2) (e1 : told = 4 + law) (e2 : fr = 6 + law) (e3 : many = 8 + law) (t : LTy B told fr many ty) : LOK B told many fr ty := by
  subst e1 e2 e3
  have t4 : iv 0 1 (B (4 + law)) := RowT_k h (by omega) (by have : law = 0 ∨ law = 1 := by omega
                                                            rcases this with q | q <;> (subst q; decide +kernel))
  have t6 : iv 0 900 (B (6 + law)) := RowT_k h (by omega) (by have : law = 0 ∨ law = 1 := by omega
                                                              rcases this with q | q <;> (subst q; decide +kernel))
  have t8 : iv 0 900 (B (8 + law)) := RowT_k h (by omega) (by have : law = 0 ∨ law = 1 := by omega
                                                              rcases this with q | q <;> (subst q; decide +kernel))
  have w := h.2 law hl
  have w' : (B (6 + law)).toNatClampNeg + (B (8 + law)).toNatClampNeg ≤ 900 ∧ Seg B (125 + (B (6 + law)).toNatClampNeg) (B (8 + law)).toNatClampNeg := by
    have z := w
    rw [Nat.zero_add, Nat.zero_add, Nat.zero_add] at z
    exact z
  have c6 := clampNat t6.1
  have c8 := clampNat t8.1
  have z0 : (0 : Int32).toInt = 0 := by decide
  have z1 : (1 : Int32).toInt = 1 := by decide
  refine ⟨?_, fun h1 => ⟨t8.1, t6.1, by omega, (t h1).1, fun j hj => ?_⟩⟩
  · have := t4.1
    have := t4.2
    by_cases z : (B (4 + law)).toInt = 0
    · exact Or.inl (i32 (by rw [z, z0]))
    · exact Or.inr (i32 (by rw [z1]; omega))
  · rw [← CLs_at hj]
    rw [CLs_len] at hj
    have s := (w'.2 j hj).1
    have ty9 := h.1 (125 + (B (6 + law)).toNatClampNeg + j) (by omega)
    have e9 : tA (125 + (B (6 + law)).toNatClampNeg + j) = (0, 3009) := by
      unfold tA
      have m : (125 + (B (6 + law)).toNatClampNeg + j) % 1025 = 125 + (B (6 + law)).toNatClampNeg + j := Nat.mod_eq_of_lt (by omega)
      simp only [m]
      rw [if_neg (by omega), if_neg (by omega), if_neg (by omega), if_neg (by omega), if_neg (by omega), if_neg (by omega), if_neg (by omega), if_neg (by omega), if_neg (by omega), if_neg (by omega), if_neg (by omega), if_neg (by omega), if_neg (by omega), if_neg (by omega)]
    rw [e9] at ty9
    exact ⟨s.1, s.2, ty9.2⟩
theorem CoR_LK {B : Nat → Int32} {ln hn vn rn : Int32} {fe ga ne rf rt ca st : Nat → Int32} {sc tb te ab ae : Int32} (h : CoR B ln hn vn rn fe ga ne rf rt ca st sc tb te ab ae) (t : RowT B) : LK B :=
  ⟨LOK_of t (law := 0) (by decide) rfl rfl rfl h.2.2.2.2.2.2.2.1, LOK_of t (law := 1) (by decide) rfl rfl rfl h.2.2.2.2.2.2.2.2⟩
/-- one law, as the class works it out -/
theorem LPl_w {B W nm S0 st : Nat → Int32} {told fr many : Nat} {ty : Bool} {b e : Int32} (hq : WQ nm W) (hk : LOK B told many fr ty) (hp : LPl (B told) (B fr) (B many) b e) (hr : B told = 1 → (B fr).toInt + (B many).toInt ≤ (B 124).toInt) (hs : ∀ j : Nat, (j : Int) < (B 124).toInt → st j = cmF (B (125 + j))) : (B told = 0 → ¬ b.toInt < e.toInt) ∧ (B told = 1 → b.toInt < e.toInt ∧ evL W [] (CLs B many fr) = [wkV nm st b e S0] ∧ (ty = true → wkV nm st b e S0 = 0 ∨ wkV nm st b e S0 = 1)) := by
  have z01 : ¬ (0 : Int32) = 1 := by decide
  rcases hp with ⟨p0, p1, p2⟩ | ⟨p0, p1, p2⟩
  · refine ⟨fun _ => by rw [p1, p2]; exact Int.lt_irrefl _, fun q => absurd (p0.symm.trans q) z01⟩
  · refine ⟨fun q => absurd (q.symm.trans p0) z01, fun q => ?_⟩
    obtain ⟨k1, k2, k3, k4, k5⟩ := hk.2 q
    have r := hr q
    have c8 := clampNat k1
    have c6 := clampNat k2
    have len := CLs_len (A := B) (many := many) (fr := fr)
    have ne : 0 < (CLs B many fr).length := by
      cases hL : CLs B many fr with
      | nil => rw [hL] at k4; exact absurd k4 (by intro y; exact absurd (Option.some.inj y) (by intro z; cases z))
      | cons x l => rw [List.length_cons]; omega
    have ei : e.toInt = (B fr).toInt + (B many).toInt := by rw [p2, Int32.toInt_add, iv_bm (by omega) (by omega)]
    have bi : b.toInt = (B fr).toInt := by rw [p1]
    have bN : b.toNatClampNeg = (B fr).toNatClampNeg := by rw [p1]
    have w := wk_ev (nm := nm) (sf := st) (S0 := S0) (b := b) (e := e) (L := CLs B many fr) (ty := ty) (by omega) k4 (fun j hj => by
      rw [bN, hs _ (by push_cast; omega), ← CLs_at hj, Nat.add_assoc]) k5
    exact ⟨by omega, by rw [← evL_cg hq _ _ k5]; exact w.1, w.2⟩
theorem LW_of {B : Nat → Int32} {ln hn vn rn : Int32} {fe ga ne rf rt ca st : Nat → Int32} {sc tb te ab ae : Int32} (h : CoR B ln hn vn rn fe ga ne rf rt ca st sc tb te ab ae) (t : RowT B) : LW (DF B fe) fe st tb te ab ae := by
  have lk := CoR_LK h t
  obtain ⟨_, _, _, _, ⟨hp1, hp2⟩, _, hs, ht1, ht2⟩ := h
  intro w hh s we se nm S9 S8 iw ih is ie iz hnm
  rw [DF_pl iw ih is ie iz]
  have hq : WQ nm (wdF hh s we se (fe hh.toNatClampNeg) w) := fun j hj => by
    obtain ⟨n0, n1, n2, n3, n4, n5⟩ := hnm
    have c : j = 0 ∨ j = 1 ∨ j = 2 ∨ j = 3 ∨ j = 4 ∨ j = 5 := by omega
    rcases c with q | q | q | q | q | q <;> subst q
    · exact n0
    · exact n1
    · exact n2
    · exact n3
    · exact n4
    · exact n5
  have a := LPl_w (S0 := S9) hq lk.1 hp1 (fun q => (ht1 q).2) hs
  have b := LPl_w (S0 := S8) hq lk.2 hp2 (fun q => (ht2 q).2) hs
  have ze : se = 0 ∨ se = 1 := by
    have i1 := iz.1
    have i2 := iz.2
    by_cases y : se.toInt = 0
    · exact Or.inl (i32 (by rw [y]; decide))
    · exact Or.inr (i32 (by rw [(by decide : (1 : Int32).toInt = 1)]; omega))
  have t0 : B 4 = 0 ∨ B 4 = 1 := lk.1.1
  have t1 : B 5 = 0 ∨ B 5 = 1 := lk.2.1
  -- whether he takes
  have tk : (¬ (if tb.toInt < te.toInt then wkV nm st tb te S9 else se) = 0) ↔ tkQ B (wdF hh s we se (fe hh.toNatClampNeg) w) := by
    unfold tkQ
    rcases t0 with q | q
    · rw [if_neg (a.1 q), if_pos q]
      show ¬ se = 0 ↔ se = 1
      rcases ze with y | y <;> rw [y] <;> decide
    · obtain ⟨a1, a2, a3⟩ := a.2 q
      rw [if_pos a1, if_neg (by rw [q]; decide), a2]
      rcases a3 rfl with y | y <;> rw [y] <;> decide
  have ad : (if ab.toInt < ae.toInt then wkV nm st ab ae S8 else s + 1) = (if B 5 = 1 then hd9 (evL (wdF hh s we se (fe hh.toNatClampNeg) w) [] (CLs B 9 7)) else wdF hh s we se (fe hh.toNatClampNeg) w 1 + 1) := by
    rcases t1 with q | q
    · rw [if_neg (b.1 q), if_neg (by rw [q]; decide)]; rfl
    · obtain ⟨b1, b2, _⟩ := b.2 q
      rw [if_pos b1, if_pos q, b2]; rfl
  unfold woW dgS
  by_cases z : (if tb.toInt < te.toInt then wkV nm st tb te S9 else se) = 0
  · rw [if_pos z, if_neg (fun y => (tk.mpr y) z), mm_c4, ad]; rfl
  · rw [if_neg z, if_pos (tk.mp z)]; rfl
theorem CLs_b {B B' : Nat → Int32} {many fr : Nat} (e1 : B' many = B many) (e2 : B' fr = B fr) (h : ∀ k : Nat, k < (B many).toNatClampNeg → B' (125 + (B fr).toNatClampNeg + k) = B (125 + (B fr).toNatClampNeg + k)) : CLs B' many fr = CLs B many fr := by
  unfold CLs
  rw [e1, e2]
  exact List.map_congr_left (fun k hk => h k (List.mem_range.mp hk))
theorem LTy_b {B B' : Nat → Int32} {told fr many : Nat} {ty : Bool} (h : ∀ j : Nat, (j < 46 ∨ 124 ≤ j) → j < 1025 → B' j = B j) (t1 : told < 46) (t2 : fr < 46) (t3 : many < 46) (t6 : 0 ≤ (B fr).toInt) (t8 : 0 ≤ (B many).toInt) (i9 : (B 124).toInt ≤ 900) (t : LTy B told fr many ty) : LTy B' told fr many ty := by
  unfold LTy at *
  rw [h told (Or.inl t1) (by omega), h fr (Or.inl t2) (by omega), h many (Or.inl t3) (by omega), h 124 (by omega) (by omega)]
  intro q
  obtain ⟨a, b⟩ := t q
  have c6 := clampNat t6
  have c8 := clampNat t8
  refine ⟨?_, b⟩
  rw [CLs_b (h many (Or.inl t3) (by omega)) (h fr (Or.inl t2) (by omega)) (fun k hk => h _ (by omega) (by omega))]
  exact a
theorem CoR_cg {B B' : Nat → Int32} {ln hn vn rn : Int32} {fe ga ne rf rt ca st : Nat → Int32} {sc tb te ab ae : Int32} (h : ∀ j : Nat, (j < 46 ∨ 124 ≤ j) → j < 1025 → B' j = B j) (t : RowT B) (g : CoR B ln hn vn rn fe ga ne rf rt ca st sc tb te ab ae) : CoR B' ln hn vn rn fe ga ne rf rt ca st sc tb te ab ae := by
  obtain ⟨g1, g2, g3, g4, g5, g6, g7, g8, g9⟩ := g
  have i1 : iv 0 4 (B 1) := RowT_k t (by omega) (by decide +kernel)
  have i2 : iv 0 4 (B 2) := RowT_k t (by omega) (by decide +kernel)
  have i3 : iv 0 8 (B 3) := RowT_k t (by omega) (by decide +kernel)
  have i6 : iv 0 900 (B 6) := RowT_k t (by omega) (by decide +kernel)
  have i7 : iv 0 900 (B 7) := RowT_k t (by omega) (by decide +kernel)
  have i8 : iv 0 900 (B 8) := RowT_k t (by omega) (by decide +kernel)
  have i9 : iv 0 900 (B 9) := RowT_k t (by omega) (by decide +kernel)
  have j1 := i1.2
  have j2 := i2.2
  have j3 := i3.2
  have j4 := g6.2.2
  have e : ∀ j : Nat, j < 46 → B' j = B j := fun j hj => h j (Or.inl hj) (by omega)
  unfold CoR
  rw [e 0 (by decide), e 1 (by decide), e 2 (by decide), e 3 (by decide), e 4 (by decide), e 5 (by decide), e 6 (by decide), e 7 (by decide), e 8 (by decide), e 9 (by decide), h 124 (by omega) (by omega)]
  refine ⟨g1, fun j hj => ?_, fun j hj => ?_, fun j hj => ?_, g5, g6, fun j hj => ?_, LTy_b h (by decide) (by decide) (by decide) i6.1 i8.1 j4 g8, LTy_b h (by decide) (by decide) (by decide) i7.1 i9.1 j4 g9⟩
  · rw [e (10 + j) (by omega), e (14 + j) (by omega)]; exact g2 j hj
  · rw [e (18 + j) (by omega)]; exact g3 j hj
  · rw [e (22 + 3 * j) (by omega), e (23 + 3 * j) (by omega), e (24 + 3 * j) (by omega)]; exact g4 j hj
  · rw [h (125 + j) (by omega) (by omega)]; exact g7 j hj
theorem cpy_0 {f g : Nat → Int32} {c : Int32} {j : Nat} (h : j < c.toNatClampNeg) : va_cpy f g (0 : Int32).toNatClampNeg (0 : Int32).toNatClampNeg c.toNatClampNeg j = f j := by
  rw [nz0]
  unfold va_cpy
  rw [if_pos (by omega)]
  congr 1; omega
/-- copied rows -/
theorem CoR_cp {B : Nat → Int32} {ln hn vn rn : Int32} {fe ga ne rf rt ca st fe0 ga0 ne0 rf0 rt0 ca0 st0 : Nat → Int32} {sc tb te ab ae : Int32} (t : RowT B) (g : CoR B ln hn vn rn fe ga ne rf rt ca st sc tb te ab ae) : CoR B ln hn vn rn (va_cpy fe fe0 (0 : Int32).toNatClampNeg (0 : Int32).toNatClampNeg (4 : Int32).toNatClampNeg) (va_cpy ga ga0 (0 : Int32).toNatClampNeg (0 : Int32).toNatClampNeg (4 : Int32).toNatClampNeg) (va_cpy ne ne0 (0 : Int32).toNatClampNeg (0 : Int32).toNatClampNeg (4 : Int32).toNatClampNeg) (va_cpy rf rf0 (0 : Int32).toNatClampNeg (0 : Int32).toNatClampNeg (8 : Int32).toNatClampNeg) (va_cpy rt rt0 (0 : Int32).toNatClampNeg (0 : Int32).toNatClampNeg (8 : Int32).toNatClampNeg) (va_cpy ca ca0 (0 : Int32).toNatClampNeg (0 : Int32).toNatClampNeg (8 : Int32).toNatClampNeg) (va_cpy st st0 (0 : Int32).toNatClampNeg (0 : Int32).toNatClampNeg sc.toNatClampNeg) sc tb te ab ae := by
  obtain ⟨g1, g2, g3, g4, g5, g6, g7, g8, g9⟩ := g
  have i1 : iv 0 4 (B 1) := RowT_k t (by omega) (by decide +kernel)
  have i2 : iv 0 4 (B 2) := RowT_k t (by omega) (by decide +kernel)
  have i3 : iv 0 8 (B 3) := RowT_k t (by omega) (by decide +kernel)
  have j1 := i1.2
  have j2 := i2.2
  have j3 := i3.2
  have k4 : (4 : Int32).toNatClampNeg = 4 := nz4
  have k8 : (8 : Int32).toNatClampNeg = 8 := nz8
  have cs : (sc.toNatClampNeg : Int) = (B 124).toInt := by rw [g6.1]; exact clampNat g6.2.1
  refine ⟨g1, fun j hj => ?_, fun j hj => ?_, fun j hj => ?_, g5, g6, fun j hj => ?_, g8, g9⟩
  · rw [cpy_0 (by omega), cpy_0 (by omega)]; exact g2 j hj
  · rw [cpy_0 (by omega)]; exact g3 j hj
  · rw [cpy_0 (by omega), cpy_0 (by omega), cpy_0 (by omega)]; exact g4 j hj
  · rw [cpy_0 (by omega)]; exact g7 j hj

theorem ky_n (T : Nat → Int32) (p q : Int32) : kyF T p q 0 KWS ≠ 23 := by
  intro h
  rcases kyF_sp T p q KWS 0 with ⟨e, _⟩ | ⟨m, hm, e, _⟩
  · rw [e] at h; exact absurd h (by decide)
  · have l : KWS.length = 22 := by decide
    rw [e, Nat.zero_add] at h
    have t := congrArg Int32.toInt h
    rw [nI_toInt (by omega), (by decide : (23 : Int32).toInt = 23)] at t
    omega
theorem tkV_b {T : Nat → Int32} {n e : Int32} (hn : n.toInt ≤ 900) (h : 0 ≤ e.toInt ∧ e.toInt ≤ n.toInt) : iv 0 999 (tkV T n e) := by
  have p := tkP_bd (T := T) hn h
  have q := tkE_bd (T := T) hn h
  by_cases k : tkK T n e = 23
  · have V : tkV T n e = dv T (tkP T n e) (tkE T n e - tkP T n e).toNatClampNeg := by unfold tkV; rw [if_pos k]
    unfold tkK at k
    by_cases a : tkP T n e < n
    · rw [if_pos a] at k
      by_cases b : 97 ≤ tkC T n e ∧ tkC T n e ≤ 122
      · rw [if_pos b] at k; exact absurd k (ky_n _ _ _)
      · rw [if_neg b] at k
        by_cases c : 48 ≤ tkC T n e ∧ tkC T n e ≤ 57
        · rw [if_pos c] at k
          by_cases g : 3 < tkE T n e - tkP T n e
          · rw [if_pos g] at k; exact absurd k (by decide)
          · have E : tkE T n e = scF (ltB T n 48 57) 901 (tkP T n e) := by unfold tkE; rw [if_pos a, if_neg b, if_pos c]
            exact vr_999 (f := T) (n := n) (p := tkP T n e) (e := tkE T n e) (d := tkE T n e - tkP T n e) ⟨by omega, hn⟩ ⟨by omega, by omega⟩ ⟨by omega, by omega⟩ a E q.1 rfl (Int32.not_lt.mp g) (fun _ => V)
        · rw [if_neg c] at k; exact absurd k (sgF_nd _)
    · rw [if_neg a] at k; exact absurd k (by decide)
  · have V : tkV T n e = 0 := by unfold tkV; rw [if_neg k]
    rw [V]; exact iv_c _ (by decide)
theorem tkX_lt {T : Nat → Int32} {n : Int32} (hn : n.toInt ≤ 900) (e : Int32) : (tkX T n e).2.2.2 < 3000 := by
  by_cases h : 0 ≤ e.toInt ∧ e.toInt ≤ n.toInt
  · rw [tkX_in h]
    have v := tkV_b (T := T) hn h
    have v2 := v.2
    show tkV T n e < 3000
    exact Int32.lt_iff_toInt_lt.mpr (by rw [(by decide : (3000 : Int32).toInt = 3000)]; omega)
  · unfold tkX
    rw [if_neg h]; exact (by decide : (0 : Int32) < 3000)
def LOd (L : List Int32) (t f m : Int32) (ty : Bool) : Prop := t = 1 → ∃ a b : Nat, f = nI a ∧ m = nI b ∧ a + b ≤ L.length ∧ trT [] ((L.drop a).take b) = some [ty]
theorem LOd_app {L M : List Int32} {t f m : Int32} {ty : Bool} (h : LOd L t f m ty) : LOd (L ++ M) t f m ty := fun q => by
  obtain ⟨a, b, e1, e2, h1, h2⟩ := h q
  refine ⟨a, b, e1, e2, by rw [List.length_append]; omega, ?_⟩
  rw [List.drop_append_of_le_length (by omega), List.take_append_of_le_length (by rw [List.length_drop]; omega)]
  exact h2
def tkS (d : Nat → Int32) : Nat → Int
  | 0 => 0
  | k + 1 => tkS d k + 2 ^ k * (d (2000 + k)).toInt
theorem tkS_c {d d' : Nat → Int32} : ∀ k : Nat, (∀ j : Nat, j < k → d' (2000 + j) = d (2000 + j)) → tkS d' k = tkS d k
  | 0, _ => rfl
  | k + 1, h => by
    show tkS d' k + 2 ^ k * (d' (2000 + k)).toInt = tkS d k + 2 ^ k * (d (2000 + k)).toInt
    rw [tkS_c k (fun j hj => h j (by omega)), h k (by omega)]
/-- who took, as they are told -/
def TKd (d : Nat → Int32) : Prop := (∀ k : Nat, k < (d 1).toNatClampNeg → d (2000 + k) = 0 ∨ d (2000 + k) = 1) ∧ (d 50).toInt = tkS d (d 1).toNatClampNeg
/-- what stands of a row as the parser goes -/
def LD (q : Sg) (d : Nat → Int32) : Prop := q.1 = 0 → (iv 0 4 (d 1) ∧ iv 0 4 (d 2) ∧ iv 0 8 (d 3)) ∧ (LOd q.2.2.2 (d 4) (d 6) (d 8) true ∧ LOd q.2.2.2 (d 5) (d 7) (d 9) false) ∧ TKd d ∧ d 52 = 0 ∧ d 53 = 0
theorem TKd_c {d d' : Nat → Int32} (h1 : d' 1 = d 1) (i1 : iv 0 4 (d 1)) (h50 : d' 50 = d 50) (h : ∀ j : Nat, 2000 ≤ j → d' j = d j) (t : TKd d) : TKd d' := by
  unfold TKd
  rw [h1, h50, tkS_c (d := d) (d' := d') _ (fun j _ => h _ (by omega))]
  exact ⟨fun k hk => by rw [h _ (by omega)]; exact t.1 k hk, t.2⟩
theorem b01 {x : Int32} (h : x = 0 ∨ x = 1) : 0 ≤ x.toInt ∧ x.toInt ≤ 1 := by
  rcases h with h | h <;> (subst h; decide)
theorem tkS_b {d : Nat → Int32} : ∀ k : Nat, k ≤ 4 → (∀ j : Nat, j < k → d (2000 + j) = 0 ∨ d (2000 + j) = 1) → 0 ≤ tkS d k ∧ tkS d k < 2 ^ k
  | 0, _, _ => ⟨Int.le_refl _, (by decide : (0 : Int) < 2 ^ 0)⟩
  | k + 1, hk, h => by
    have i := tkS_b k (by omega) (fun j hj => h j (by omega))
    have b := b01 (h k (by omega))
    have c : k = 0 ∨ k = 1 ∨ k = 2 ∨ k = 3 := by omega
    show 0 ≤ tkS d k + 2 ^ k * (d (2000 + k)).toInt ∧ tkS d k + 2 ^ k * (d (2000 + k)).toInt < 2 ^ (k + 1)
    rcases c with q | q | q | q <;> (subst q; simp only [Int.reducePow, Nat.reduceAdd] at i b ⊢; omega)
theorem or_t : ∀ k : Nat, k < 4 → ∀ m : Nat, m < 2 ^ k → nI m ||| ((1 : Int32) <<< (nI k &&& 31)) = nI (m + 2 ^ k) := by decide +kernel
theorem ghR_t {X : TX} : ∀ (m : Nat) (q : Sg) (g t : Int32), (t = 0 ∨ t = 1) → (ghR X m q g t).2.2 = 0 ∨ (ghR X m q g t).2.2 = 1
  | 0, q, g, t, h => h
  | m + 1, q, g, t, h => by
    by_cases b : isQ X q 6 = true
    · rw [ghR_6 b]; exact ghR_t m _ g 1 (Or.inr rfl)
    · by_cases c : isQ X q 5 = true
      · rw [ghR_5 (Bool.eq_false_iff.mpr b) c]; exact ghR_t m _ _ t h
      · rw [ghR_0 (Bool.eq_false_iff.mpr c) (Bool.eq_false_iff.mpr b)]; exact h
theorem hlG_t (X : TX) (q : Sg) : (hlG X q).2.2 = 0 ∨ (hlG X q).2.2 = 1 := by
  unfold hlG
  exact ghR_t 900 _ 1 0 (Or.inl rfl)
theorem nI_sb (a b : Nat) : nI (a + b) - nI a = nI b := by
  rw [← nI_add, Int32.add_comm]; exact Int32.add_sub_cancel _ _
theorem LD_hl {X : TX} {q : Sg} {d : Nat → Int32} (h : LD q d) : LD (hlP X (q, d)).1 (hlR X q d) := fun z => by
  obtain ⟨w, el⟩ := PZ_hl X q d z
  obtain ⟨⟨i1, i2, i3⟩, ⟨l1, l2⟩, t, e52, e53⟩ := h w
  by_cases c : d 1 < 4
  · have h3 := iv_of3 rfl i1 c
    have k := clampNat (x := d 1) h3.1
    have hb := h3.2
    have v := hlR_v (X := X) (q := q) h3
    have v1 : hlR X q d 1 = d 1 + 1 := by rw [v, if_pos rfl]
    have lo : ∀ j : Nat, (2 ≤ j ∧ j ≤ 9) ∨ j = 52 ∨ j = 53 → hlR X q d j = d j := fun j hj => by
      rw [v, if_neg (by omega), if_neg (by omega), if_neg (by omega), if_neg (by omega), if_neg (by omega), if_neg (by omega)]
    obtain ⟨n1, n2⟩ := in1 h3 (by decide)
    refine ⟨⟨?_, ?_, ?_⟩, ⟨?_, ?_⟩, ⟨fun j hj => ?_, ?_⟩, ?_, ?_⟩
    · rw [v1]; unfold iv; rw [n1]; have := h3.1; omega
    · rw [lo 2 (by omega)]; exact i2
    · rw [lo 3 (by omega)]; exact i3
    · rw [el, lo 4 (by omega), lo 6 (by omega), lo 8 (by omega)]; exact l1
    · rw [el, lo 5 (by omega), lo 7 (by omega), lo 9 (by omega)]; exact l2
    · rw [v1, n2] at hj
      by_cases y : j = (d 1).toNatClampNeg
      · rw [v (2000 + j), if_neg (by omega), if_pos (by omega)]; exact hlG_t X q
      · rw [v (2000 + j), if_neg (by omega), if_neg (by omega), if_neg (by omega), if_neg (by omega), if_neg (by omega), if_neg (by omega)]; exact t.1 j (by omega)
    · rw [v1, n2]
      show _ = tkS (hlR X q d) (d 1).toNatClampNeg + 2 ^ (d 1).toNatClampNeg * (hlR X q d (2000 + (d 1).toNatClampNeg)).toInt
      rw [tkS_c (d := d) (d' := hlR X q d) _ (fun j hj => by rw [v, if_neg (by omega), if_neg (by omega), if_neg (by omega), if_neg (by omega), if_neg (by omega), if_neg (by omega)])]
      rw [v (2000 + (d 1).toNatClampNeg), if_neg (by omega), if_pos rfl, v 50, if_neg (by decide), if_neg (by omega), if_pos rfl]
      have b := tkS_b (d := d) (d 1).toNatClampNeg (by omega) t.1
      have t2 := t.2
      rcases hlG_t X q with y | y
      · rw [y, if_neg (by decide), t2, (by decide : (0 : Int32).toInt = 0), Int.mul_zero, Int.add_zero]
      · rw [y, if_pos rfl, (by decide : (1 : Int32).toInt = 1), Int.mul_one]
        have c50 := clampNat (x := d 50) (by omega)
        have e1 : nI (d 1).toNatClampNeg = d 1 := nIc h3.1
        have e2 : nI (d 50).toNatClampNeg = d 50 := nIc (by omega)
        have p2 : ((2 ^ (d 1).toNatClampNeg : Nat) : Int) = 2 ^ (d 1).toNatClampNeg := by push_cast; rfl
        have m := or_t (d 1).toNatClampNeg (by omega) (d 50).toNatClampNeg (by omega)
        rw [e1, e2] at m
        rw [m]
        have k4 : (d 1).toNatClampNeg < 4 := by omega
        have c4 : (d 1).toNatClampNeg = 0 ∨ (d 1).toNatClampNeg = 1 ∨ (d 1).toNatClampNeg = 2 ∨ (d 1).toNatClampNeg = 3 := by omega
        rcases c4 with q4 | q4 | q4 | q4 <;> (rw [q4] at b t2 ⊢; simp only [Int.reducePow, Nat.reducePow] at b t2 ⊢; rw [nI_toInt (by omega)]; push_cast; omega)
    · rw [lo 52 (by omega)]; exact e52
    · rw [lo 53 (by omega)]; exact e53
  · rw [hlP_4 c] at z; exact fl_zn (by decide) z
theorem LD_vi {X : TX} {q : Sg} {d : Nat → Int32} (h : LD q d) : LD (viP X (q, d)).1 (viR X q d) := fun z => by
  obtain ⟨w, el⟩ := PZ_vi X q d z
  obtain ⟨⟨i1, i2, i3⟩, ⟨l1, l2⟩, t, e52, e53⟩ := h w
  by_cases c : d 2 < 4
  · have h3 := iv_of3 rfl i2 c
    have k := clampNat (x := d 2) h3.1
    have hb := h3.2
    have v := viR_v (X := X) (q := q) h3
    have lo : ∀ j : Nat, j ≠ 2 → (j ≤ 9 ∨ 50 ≤ j) → viR X q d j = d j := fun j h1 hj => by rw [v, if_neg h1, if_neg (by omega)]
    have v2 : viR X q d 2 = d 2 + 1 := by rw [v, if_pos rfl]
    obtain ⟨n1, n2⟩ := in1 h3 (by decide)
    have a1 := lo 1 (by decide) (by omega)
    refine ⟨⟨?_, ?_, ?_⟩, ⟨?_, ?_⟩, TKd_c a1 i1 (lo 50 (by decide) (by omega)) (fun j hj => lo j (by omega) (by omega)) t, ?_, ?_⟩
    · rw [a1]; exact i1
    · rw [v2]; unfold iv; rw [n1]; have := h3.1; omega
    · rw [lo 3 (by decide) (by omega)]; exact i3
    · rw [el, lo 4 (by decide) (by omega), lo 6 (by decide) (by omega), lo 8 (by decide) (by omega)]; exact l1
    · rw [el, lo 5 (by decide) (by omega), lo 7 (by decide) (by omega), lo 9 (by decide) (by omega)]; exact l2
    · rw [lo 52 (by decide) (by omega)]; exact e52
    · rw [lo 53 (by decide) (by omega)]; exact e53
  · rw [viP_4 c] at z; exact fl_zn (by decide) z
theorem LD_ro {X : TX} {q : Sg} {d : Nat → Int32} (h : LD q d) : LD (roP X (q, d)).1 (roR X q d) := fun z => by
  obtain ⟨w, el⟩ := PZ_ro X q d z
  obtain ⟨⟨i1, i2, i3⟩, ⟨l1, l2⟩, t, e52, e53⟩ := h w
  by_cases c : d 3 < 8
  · have h3 := iv_of7 rfl i3 c
    have k := clampNat (x := d 3) h3.1
    have hb := h3.2
    have v := roR_v (X := X) (q := q) h3
    have lo : ∀ j : Nat, j ≠ 3 → (j ≤ 9 ∨ 50 ≤ j) → roR X q d j = d j := fun j h1 hj => by rw [v, if_neg h1, if_neg (by omega), if_neg (by omega), if_neg (by omega)]
    have v2 : roR X q d 3 = d 3 + 1 := by rw [v, if_pos rfl]
    obtain ⟨n1, n2⟩ := in1 h3 (by decide)
    have a1 := lo 1 (by decide) (by omega)
    refine ⟨⟨?_, ?_, ?_⟩, ⟨?_, ?_⟩, TKd_c a1 i1 (lo 50 (by decide) (by omega)) (fun j hj => lo j (by omega) (by omega)) t, ?_, ?_⟩
    · rw [a1]; exact i1
    · rw [lo 2 (by decide) (by omega)]; exact i2
    · rw [v2]; unfold iv; rw [n1]; have := h3.1; omega
    · rw [el, lo 4 (by decide) (by omega), lo 6 (by decide) (by omega), lo 8 (by decide) (by omega)]; exact l1
    · rw [el, lo 5 (by decide) (by omega), lo 7 (by decide) (by omega), lo 9 (by decide) (by omega)]; exact l2
    · rw [lo 52 (by decide) (by omega)]; exact e52
    · rw [lo 53 (by decide) (by omega)]; exact e53
  · rw [roP_4 c] at z; exact fl_zn (by decide) z
theorem PT_0 {b : Bool} {D : Nat} {q q' : Sg} (h : PT_ b D q q') (hD : D ≤ 64) (z : q'.1 = 0) : ∃ L : List Int32, q'.2.2.2 = q.2.2.2 ++ L ∧ trT [] L = some [b] := by
  obtain ⟨_, L, e, t⟩ := h z
  exact ⟨L, e, t [] (by simpa using hD)⟩
theorem drop_l (L M : List Int32) : ((L ++ M).drop L.length).take M.length = M := by
  rw [List.drop_left, List.take_length]
theorem LD_tk {X : TX} (hX : ∀ e, (X e).2.2.2 < 3000) {q : Sg} {d : Nat → Int32} (h : LD q d) : LD (trD X 6 (exP X 31 (nxP X q))) (tkR X q d) := fun z => by
  have P := (PT_all hX 6).2.2 (exP X 31 (nxP X q))
  obtain ⟨w1, -⟩ := P z
  obtain ⟨L, eL, tL⟩ := PT_0 P (by decide) z
  obtain ⟨w, el⟩ := PZ_tr (PZ_n X q) (PZ_e X 31 (nxP X q)) w1
  obtain ⟨⟨i1, i2, i3⟩, ⟨l1, l2⟩, t, e52, e53⟩ := h w
  have v := tkR_v (X := X) (q := q) (d := d)
  have lo : ∀ j : Nat, j ≠ 4 → j ≠ 6 → j ≠ 8 → tkR X q d j = d j := fun j h1 h2 h3 => by rw [v, if_neg h3, if_neg h2, if_neg h1]
  have a1 := lo 1 (by decide) (by decide) (by decide)
  refine ⟨⟨?_, ?_, ?_⟩, ⟨fun _ => ⟨(exP X 31 (nxP X q)).2.2.2.length, L.length, ?_, ?_, ?_, ?_⟩, ?_⟩, TKd_c a1 i1 (lo 50 (by decide) (by decide) (by decide)) (fun j hj => lo j (by omega) (by omega) (by omega)) t, ?_, ?_⟩
  · rw [a1]; exact i1
  · rw [lo 2 (by decide) (by decide) (by decide)]; exact i2
  · rw [lo 3 (by decide) (by decide) (by decide)]; exact i3
  · rw [v, if_neg (by decide), if_pos rfl]
  · rw [v, if_pos rfl, eL, List.length_append]; exact nI_sb _ _
  · rw [eL, List.length_append]; exact Nat.le_refl _
  · rw [eL, drop_l]; exact tL
  · rw [lo 5 (by decide) (by decide) (by decide), lo 7 (by decide) (by decide) (by decide), lo 9 (by decide) (by decide) (by decide), eL, el]; exact LOd_app l2
  · rw [lo 52 (by decide) (by decide) (by decide)]; exact e52
  · rw [lo 53 (by decide) (by decide) (by decide)]; exact e53
theorem LD_ad {X : TX} (hX : ∀ e, (X e).2.2.2 < 3000) {q : Sg} {d : Nat → Int32} (h : LD q d) : LD (suD X 6 (exP X 31 (nxP X q))) (adR X q d) := fun z => by
  have P := (PT_all hX 6).1 (exP X 31 (nxP X q))
  obtain ⟨w1, -⟩ := P z
  obtain ⟨L, eL, tL⟩ := PT_0 P (by decide) z
  obtain ⟨w, el⟩ := PZ_tr (PZ_n X q) (PZ_e X 31 (nxP X q)) w1
  obtain ⟨⟨i1, i2, i3⟩, ⟨l1, l2⟩, t, e52, e53⟩ := h w
  have v := adR_v (X := X) (q := q) (d := d)
  have lo : ∀ j : Nat, j ≠ 5 → j ≠ 7 → j ≠ 9 → adR X q d j = d j := fun j h1 h2 h3 => by rw [v, if_neg h3, if_neg h2, if_neg h1]
  have a1 := lo 1 (by decide) (by decide) (by decide)
  refine ⟨⟨?_, ?_, ?_⟩, ⟨?_, fun _ => ⟨(exP X 31 (nxP X q)).2.2.2.length, L.length, ?_, ?_, ?_, ?_⟩⟩, TKd_c a1 i1 (lo 50 (by decide) (by decide) (by decide)) (fun j hj => lo j (by omega) (by omega) (by omega)) t, ?_, ?_⟩
  · rw [a1]; exact i1
  · rw [lo 2 (by decide) (by decide) (by decide)]; exact i2
  · rw [lo 3 (by decide) (by decide) (by decide)]; exact i3
  · rw [lo 4 (by decide) (by decide) (by decide), lo 6 (by decide) (by decide) (by decide), lo 8 (by decide) (by decide) (by decide), eL, el]; exact LOd_app l1
  · rw [v, if_neg (by decide), if_pos rfl]
  · rw [v, if_pos rfl, eL, List.length_append]; exact nI_sb _ _
  · rw [eL, List.length_append]; exact Nat.le_refl _
  · rw [eL, drop_l]; exact tL
  · rw [lo 52 (by decide) (by decide) (by decide)]; exact e52
  · rw [lo 53 (by decide) (by decide) (by decide)]; exact e53
theorem LD_ln {X : TX} (hX : ∀ e, (X e).2.2.2 < 3000) {q : Sg} {d : Nat → Int32} (h : LD q d) : LD (lnP X (q, d)).1 (lnR X q d) := by
  by_cases b2 : isQ X q 2 = true
  · have E : lnP X (q, d) = hlP X (q, d) := by unfold lnP; rw [if_pos b2]
    have R : lnR X q d = hlR X q d := by unfold lnR; rw [if_pos b2]
    rw [E, R]; exact LD_hl h
  by_cases b7 : isQ X q 7 = true
  · have E : lnP X (q, d) = viP X (q, d) := by unfold lnP; rw [if_neg b2, if_pos b7]
    have R : lnR X q d = viR X q d := by unfold lnR; rw [if_neg b2, if_pos b7]
    rw [E, R]; exact LD_vi h
  by_cases b9 : isQ X q 9 = true
  · have E : lnP X (q, d) = roP X (q, d) := by unfold lnP; rw [if_neg b2, if_neg b7, if_pos b9]
    have R : lnR X q d = roR X q d := by unfold lnR; rw [if_neg b2, if_neg b7, if_pos b9]
    rw [E, R]; exact LD_ro h
  by_cases b11 : isQ X q 11 = true
  · have E : lnP X (q, d) = (trD X 6 (exP X 31 (nxP X q)), d) := by unfold lnP; rw [if_neg b2, if_neg b7, if_neg b9, if_pos b11]
    have E1 : (lnP X (q, d)).1 = trD X 6 (exP X 31 (nxP X q)) := fst_e E
    have R : lnR X q d = tkR X q d := by unfold lnR; rw [if_neg b2, if_neg b7, if_neg b9, if_pos b11]
    rw [E1, R]; exact LD_tk hX h
  by_cases b12 : isQ X q 12 = true
  · have E : lnP X (q, d) = (suD X 6 (exP X 31 (nxP X q)), d) := by unfold lnP; rw [if_neg b2, if_neg b7, if_neg b9, if_neg b11, if_pos b12]
    have E1 : (lnP X (q, d)).1 = suD X 6 (exP X 31 (nxP X q)) := fst_e E
    have R : lnR X q d = adR X q d := by unfold lnR; rw [if_neg b2, if_neg b7, if_neg b9, if_neg b11, if_pos b12]
    rw [E1, R]; exact LD_ad hX h
  · have E : lnP X (q, d) = (flP X 2 q, d) := by unfold lnP; rw [if_neg b2, if_neg b7, if_neg b9, if_neg b11, if_neg b12]
    have E1 : (lnP X (q, d)).1 = flP X 2 q := fst_e E
    rw [E1]; exact fun z => fl_zn (by decide) z
theorem LD_pz {q q' : Sg} {d d' : Nat → Int32} (p : PZ q q') (e : ∀ j : Nat, 1 ≤ j → d' j = d j) (h : LD q d) : LD q' d' := fun z => by
  obtain ⟨w, el⟩ := p z
  obtain ⟨⟨i1, i2, i3⟩, ⟨l1, l2⟩, t, e52, e53⟩ := h w
  rw [el]
  rw [e 1 (by decide), e 2 (by decide), e 3 (by decide), e 4 (by decide), e 5 (by decide), e 6 (by decide), e 7 (by decide), e 8 (by decide), e 9 (by decide), e 52 (by decide), e 53 (by decide)]
  exact ⟨⟨i1, i2, i3⟩, ⟨l1, l2⟩, TKd_c (e 1 (by decide)) i1 (e 50 (by decide)) (fun j hj => e j (by omega)) t, e52, e53⟩
theorem LD_lp {X : TX} (hX : ∀ e, (X e).2.2.2 < 3000) : ∀ (m : Nat) (q : Sg) (d : Nat → Int32), LD q d → LD (lpR X m q d).1 (lpR X m q d).2
  | 0, _, _, h => h
  | m + 1, q, d, h => by
    by_cases c : q.1 = 0 ∧ ¬ (X q.2.2.1).2.2.1 = 24
    · rw [lpR_1 c]
      exact LD_lp hX m _ _ (LD_pz (PZ_e X 30 _) (fun j hj => upd_ne (by omega)) (LD_ln hX h))
    · rw [lpR_0 c]; exact h
theorem LD_tx {X : TX} (hX : ∀ e, (X e).2.2.2 < 3000) : LD (txR X).1 (txR X).2 := by
  have z : ∀ j : Nat, 1 ≤ j → j ≠ 51 → ∀ w : Int32, upd D1 51 w j = 0 := fun j h1 h2 w => by rw [upd_ne h2]; unfold D1; rw [upd_ne (by omega)]
  unfold txR
  refine LD_lp hX 900 _ _ (fun _ => ?_)
  have z01 : ¬ (0 : Int32) = 1 := by decide
  rw [z 1 (by decide) (by decide), z 2 (by decide) (by decide), z 3 (by decide) (by decide), z 4 (by decide) (by decide), z 5 (by decide) (by decide), z 52 (by decide) (by decide), z 53 (by decide) (by decide)]
  refine ⟨⟨iv_c _ (by decide), iv_c _ (by decide), iv_c _ (by decide)⟩, ⟨fun q => absurd q z01, fun q => absurd q z01⟩, ?_, rfl, rfl⟩
  unfold TKd
  rw [z 1 (by decide) (by decide), z 50 (by decide) (by decide), nz0]
  exact ⟨fun k hk => absurd hk (Nat.not_lt_zero _), (show (0 : Int32).toInt = 0 from by decide)⟩

theorem CLs_d {B : Nat → Int32} {L : List Int32} {many fr a b : Nat} (e1 : B many = nI b) (e2 : B fr = nI a) (hl : a + b ≤ L.length) (h9 : L.length ≤ 900) (hB : ∀ j : Nat, j < L.length → B (125 + j) = L.getD j 0) : CLs B many fr = (L.drop a).take b := by
  unfold CLs
  rw [e1, e2, nI_clamp (by omega), nI_clamp (by omega)]
  refine List.ext_getElem ?_ (fun k h1 h2 => ?_)
  · rw [List.length_map, List.length_range, List.length_take, List.length_drop]; omega
  · rw [List.length_map, List.length_range] at h1
    rw [List.getElem_map, List.getElem_range, List.getElem_take, List.getElem_drop, Nat.add_assoc, hB (a + k) (by omega), List.getD_eq_getElem?_getD, List.getElem?_eq_getElem (by omega)]
    rfl
theorem LTy_d {B d : Nat → Int32} {L : List Int32} {told fr many : Nat} {ty : Bool} (t1 : told < 10) (t2 : fr < 10) (t3 : many < 10) (h : ∀ j : Nat, j < 124 → B j = d j) (h24 : B 124 = nI L.length) (h9 : L.length ≤ 900) (hB : ∀ j : Nat, j < L.length → B (125 + j) = L.getD j 0) (l : LOd L (d told) (d fr) (d many) ty) : LTy B told fr many ty := fun q => by
  obtain ⟨a, b, e1, e2, hl, t⟩ := l (by rw [← h told (by omega)]; exact q)
  have e1' : B fr = nI a := (h fr (by omega)).trans e1
  have e2' : B many = nI b := (h many (by omega)).trans e2
  refine ⟨by rw [CLs_d e2' e1' hl h9 hB]; exact t, ?_⟩
  rw [e1', e2', h24, nI_toInt (by omega), nI_toInt (by omega), nI_toInt (by omega)]; omega
/-- a coast that was read -/
theorem CoR_tx {X : TX} {B : Nat → Int32} {ln hn vn rn fs fw sc tb te ab ae : Int32} {fe ga ne rf rt ca st : Nat → Int32} (hX : ∀ e, (X e).2.2.2 < 3000) (w : (txR X).1.1 = 0) (hd : ln = (txR X).2 0 ∧ hn = (txR X).2 1 ∧ vn = (txR X).2 2 ∧ rn = (txR X).2 3) (hr : RWc (txR X).2 fs fe ga ne rf rt ca) (hl : LWc (txR X).2 tb te ab ae fw) (hc : CDc (txR X).1 sc st) (hB : ∀ j : Nat, j < 124 → B j = (txR X).2 j) (hz : CDz (txR X).1 B) : CoR B ln hn vn rn fe ga ne rf rt ca st sc tb te ab ae := by
  obtain ⟨⟨i1, i2, i3⟩, ⟨l1, l2⟩, t, e52, e53⟩ := LD_tx hX w
  obtain ⟨c1, c2⟩ := hc w
  obtain ⟨z1, z2, z3⟩ := hz w
  obtain ⟨_, r1, r2, r3⟩ := hr
  obtain ⟨p1, p2, _⟩ := hl
  generalize (txR X).2 = d at *
  generalize (txR X).1.2.2.2 = L at *
  have j1 := i1.2
  have j2 := i2.2
  have j3 := i3.2
  refine ⟨?_, fun j hj => ?_, fun j hj => ?_, fun j hj => ?_, ⟨?_, ?_⟩, ⟨c1.trans z1.symm, ?_⟩, fun j hj => ?_, LTy_d (by decide) (by decide) (by decide) hB z1 z2 z3 l1, LTy_d (by decide) (by decide) (by decide) hB z1 z2 z3 l2⟩
  · rw [hB 0 (by decide), hB 1 (by decide), hB 2 (by decide), hB 3 (by decide)]; exact hd
  · rw [hB 1 (by decide)] at hj
    rw [hB (10 + j) (by omega), hB (14 + j) (by omega)]; exact r1 j hj
  · rw [hB 2 (by decide)] at hj
    rw [hB (18 + j) (by omega)]; exact r2 j hj
  · rw [hB 3 (by decide)] at hj
    rw [hB (22 + 3 * j) (by omega), hB (23 + 3 * j) (by omega), hB (24 + 3 * j) (by omega)]; exact r3 j hj
  · unfold LPl; rw [hB 4 (by decide), hB 6 (by decide), hB 8 (by decide)]; exact p1
  · unfold LPl; rw [hB 5 (by decide), hB 7 (by decide), hB 9 (by decide)]; exact p2
  · rw [z1]; unfold iv; rw [nI_toInt (by omega)]; omega
  · rw [z1, nI_toInt (by omega)] at hj
    have hj' : j < L.length := by omega
    rw [c2 j hj', z3 j hj']
theorem fs_c {d : Nat → Int32} {n : Nat} {dd bb : Nat → Int} (g : DG n dd bb) (hs : ∀ k : Nat, k < n → (d (46 + k)).toInt = dd k ∧ (d (2000 + k)).toInt = bb k) : ∀ k : Nat, k ≤ n → (fsF d k).toInt = csum dd bb k := by
  have h4 := g.1
  intro k
  induction k with
  | zero => intro _; rfl
  | succ k ih =>
    intro hk
    have i0 := ih (by omega)
    have gk := DG_r g k
    obtain ⟨s1, s2⟩ := hs k (by omega)
    have a1 : (d (46 + k) * 2).toInt = dd k * 2 := by rw [Int32.toInt_mul, s1, (by decide : (2 : Int32).toInt = 2), iv_bm (by omega) (by omega)]
    have dv : (d (46 + k) * 2 + d (2000 + k)).toInt = 2 * dd k + bb k := by rw [Int32.toInt_add, a1, s2, iv_bm (by omega) (by omega)]; omega
    show (fsF d k + (d (46 + k) * 2 + d (2000 + k)) * pw k).toInt = csum dd bb (k + 1)
    generalize d (46 + k) * 2 + d (2000 + k) = x at dv
    generalize fsF d k = al at i0
    have g0 := DG_r g 0
    have g1 := DG_r g 1
    have g2 := DG_r g 2
    have g3 := DG_r g 3
    have c : k = 0 ∨ k = 1 ∨ k = 2 ∨ k = 3 := by omega
    rcases c with q | q | q | q
    · subst q
      have p : (pw 0).toInt = 1 := by decide
      have i0 : al.toInt = 0 := i0
      have m : (x * pw 0).toInt = x.toInt * 1 := by rw [Int32.toInt_mul, p, iv_bm (by omega) (by omega)]
      rw [Int32.toInt_add, m, cs_1, iv_bm (by omega) (by omega)]; omega
    · subst q
      have p : (pw 1).toInt = 10 := by decide
      rw [cs_1] at i0
      have m : (x * pw 1).toInt = x.toInt * 10 := by rw [Int32.toInt_mul, p, iv_bm (by omega) (by omega)]
      rw [Int32.toInt_add, m, cs_2, iv_bm (by omega) (by omega)]; omega
    · subst q
      have p : (pw 2).toInt = 100 := by decide
      rw [cs_2] at i0
      have m : (x * pw 2).toInt = x.toInt * 100 := by rw [Int32.toInt_mul, p, iv_bm (by omega) (by omega)]
      rw [Int32.toInt_add, m, cs_3, iv_bm (by omega) (by omega)]; omega
    · subst q
      have p : (pw 3).toInt = 1000 := by decide
      rw [cs_3] at i0
      have m : (x * pw 3).toInt = x.toInt * 1000 := by rw [Int32.toInt_mul, p, iv_bm (by omega) (by omega)]
      rw [Int32.toInt_add, m, cs_4, iv_bm (by omega) (by omega)]; omega
theorem csum_SC {n : Nat} {dd bb : Nat → Int} {s : Int32} (g : DG n dd bb) (h : s.toInt = csum dd bb n) : SC dd bb s := by
  have h4 := g.1
  have z0 := (g.2 0).2
  have z1 := (g.2 1).2
  have z2 := (g.2 2).2
  have z3 := (g.2 3).2
  unfold SC
  rw [h]
  have c : n = 0 ∨ n = 1 ∨ n = 2 ∨ n = 3 ∨ n = 4 := by omega
  rcases c with q | q | q | q | q
  · subst q
    have := z0 (by omega)
    have := z1 (by omega)
    have := z2 (by omega)
    have := z3 (by omega)
    show 0 = _
    omega
  · subst q
    have := z1 (by omega)
    have := z2 (by omega)
    have := z3 (by omega)
    rw [cs_1]; omega
  · subst q
    have := z2 (by omega)
    have := z3 (by omega)
    rw [cs_2]; omega
  · subst q
    have := z3 (by omega)
    rw [cs_3]; omega
  · subst q
    rw [cs_4]
/-- how all stands as a text tells it -/
theorem SnR_tx {X : TX} {B : Nat → Int32} {fs fw tb te ab ae : Int32} {fe ga ne rf rt ca : Nat → Int32} (hX : ∀ e, (X e).2.2.2 < 3000) (w : (txR X).1.1 = 0) (hr : RWc (txR X).2 fs fe ga ne rf rt ca) (hl : LWc (txR X).2 tb te ab ae fw) (hB : ∀ j : Nat, j < 124 → B j = (txR X).2 j) (ht : RowT B) : SnR (B 1).toNatClampNeg fs fw 0 B 46 ∧ B 53 = 0 := by
  obtain ⟨⟨i1, i2, i3⟩, _, t, e52, e53⟩ := LD_tx hX w
  obtain ⟨r0, _⟩ := hr
  obtain ⟨_, _, p3⟩ := hl
  generalize (txR X).2 = d at *
  have j1 := i1.2
  have k1 := clampNat i1.1
  rw [hB 1 (by decide)]
  generalize en : (d 1).toNatClampNeg = n at *
  have n4 : n ≤ 4 := by omega
  have st : ∀ k : Nat, k < 4 → iv 0 4 (B (46 + k)) := fun k hk => RowT_k ht (by omega) (by
    have c : k = 0 ∨ k = 1 ∨ k = 2 ∨ k = 3 := by omega
    rcases c with q | q | q | q <;> (subst q; decide +kernel))
  have g : DG n (fun k => if k < n then (d (46 + k)).toInt else 0) (fun k => if k < n then (d (2000 + k)).toInt else 0) := by
    refine ⟨n4, fun k => ⟨fun h => ?_, fun h => ?_⟩⟩
    · show 0 ≤ (if k < n then (d (46 + k)).toInt else 0) ∧ (if k < n then (d (46 + k)).toInt else 0) ≤ 4 ∧ 0 ≤ (if k < n then (d (2000 + k)).toInt else 0) ∧ (if k < n then (d (2000 + k)).toInt else 0) ≤ 1
      rw [if_pos h, if_pos h, ← hB (46 + k) (by omega)]
      have a := st k (by omega)
      have b := b01 (t.1 k (by rw [en]; exact h))
      have := a.1
      have := a.2
      omega
    · show (if k < n then (d (46 + k)).toInt else 0) = 0 ∧ (if k < n then (d (2000 + k)).toInt else 0) = 0
      rw [if_neg (by omega), if_neg (by omega)]; exact ⟨rfl, rfl⟩
  refine ⟨⟨_, _, g, csum_SC g ?_, fun k hk => ?_, ?_, ?_, ?_, ?_⟩, ?_⟩
  · rw [r0]; exact fs_c g (fun k hk => ⟨(if_pos hk).symm, (if_pos hk).symm⟩) n (Nat.le_refl _)
  · show _ = if k < n then (d (46 + k)).toInt else 0
    rw [if_pos hk, hB _ (by omega)]
  · rw [hB 50 (by decide), t.2, en]
    show _ = (if 0 < n then (d (2000 + 0)).toInt else 0) + 2 * (if 1 < n then (d (2000 + 1)).toInt else 0) + 4 * (if 2 < n then (d (2000 + 2)).toInt else 0) + 8 * (if 3 < n then (d (2000 + 3)).toInt else 0)
    have c : n = 0 ∨ n = 1 ∨ n = 2 ∨ n = 3 ∨ n = 4 := by omega
    rcases c with q | q | q | q | q <;> (subst q; simp only [tkS, Int.reducePow, Nat.reduceAdd, Nat.reduceLT, if_true, if_false, ↓reduceIte]; omega)
  · rw [hB 51 (by decide)]; exact p3.symm
  · rw [p3, ← hB 51 (by decide)]; exact RowT_k ht (by decide) (by decide +kernel)
  · rw [hB 52 (by decide)]; exact e52
  · rw [hB 53 (by decide)]; exact e53
