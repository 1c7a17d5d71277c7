
def tA (i : Nat) : Int × Int :=
  let j := i % 1025
  if j = 0 then (-2147483648, 2147483647) else if j ≤ 2 then (0, 4) else if j = 3 then (0, 8) else if j ≤ 5 then (0, 1) else if j ≤ 9 then (0, 900) else if j ≤ 21 then (0, 9)
  else if j ≤ 45 then (if (j - 22) % 3 < 2 then (0, 3) else (0, 9)) else if j ≤ 49 then (0, 4) else if j = 50 then (0, 15) else if j = 51 then (0, 9) else if j = 52 then (-2147483648, 2147483647)
  else if j = 53 then (0, 10) else if j ≤ 123 then (if (j - 54) % 7 < 4 then (0, 4) else if (j - 54) % 7 = 4 then (0, 15) else if (j - 54) % 7 = 5 then (0, 9) else (-2147483648, 2147483647))
  else if j = 124 then (0, 900) else (0, 3009)
def tF (j : Nat) : Int × Int := if j = 1 then (0, 4) else if j = 2 then (0, 4) else if j = 3 then (0, 8) else if j = 124 then (0, 900) else (-2147483648, 2147483647)
def tW (j : Nat) : Int × Int := if j = 1 then (0, 4) else (-2147483648, 2147483647)
def tS (j : Nat) : Int × Int := if j < 4 then (0, 4) else if j = 4 then (0, 15) else if j = 5 then (0, 9) else (-2147483648, 2147483647)
theorem tA_mod {i j : Nat} (h : i % 1025 = j % 1025) : tA i = tA j := by unfold tA; simp only [h]
theorem tA_0 : ivT tA (fun _ => 0) := fun j => by
  have h := ckW_at (show ckW tA 0 1 0 1025 0 0 = true by decide +kernel) (j := j % 1025) (by omega) (by omega)
  rw [show 0 + 1 * (j % 1025) = j % 1025 by omega, tA_mod (i := j % 1025) (j := j) (by omega)] at h
  unfold iv; rw [(by decide : (0 : Int32).toInt = 0)]; exact h
theorem tF_0 : ivT tF (fun _ => 0) := fun j => by
  unfold tF iv; simp only; rw [(by decide : (0 : Int32).toInt = 0)]
  repeat' split
  all_goals decide
theorem tW_0 : ivT tW (fun _ => 0) := fun j => by
  unfold tW iv; simp only; rw [(by decide : (0 : Int32).toInt = 0)]
  repeat' split
  all_goals decide
theorem tS_0 : ivT tS (fun _ => 0) := fun j => by
  unfold tS iv; simp only; rw [(by decide : (0 : Int32).toInt = 0)]
  repeat' split
  all_goals decide
theorem tA_ge (j : Nat) : (tA j).1 ≤ 0 ∧ 0 ≤ (tA j).2 := by
  have := tA_0 j; unfold iv at this; rw [(by decide : (0 : Int32).toInt = 0)] at this; exact this

theorem tA_sh {f : Nat → Int32} {x y k v : Int32} {a b : Int} (h : ivT tA f) (hx : x.toInt = 54 + k.toInt) (hy : y.toInt = 61 + k.toInt) (hk : iv a b k) (hab : 0 ≤ a ∧ b ≤ 62) (ev : v = f y.toNatClampNeg) : ivT tA (upd f x.toNatClampNeg v) := by
  have h0 := hk.1
  have h1 := hk.2
  have k1 := clampNat (x := x) (by omega)
  have k2 := clampNat (x := y) (by omega)
  intro j
  by_cases hj : j = x.toNatClampNeg
  · subst hj
    have e : tA x.toNatClampNeg = tA y.toNatClampNeg := by
      have q := List.all_eq_true.mp (show ((List.range 63).all fun q => decide (tA (54 + q) = tA (61 + q))) = true by decide +kernel) (x.toNatClampNeg - 54) (List.mem_range.mpr (by omega))
      rw [show 54 + (x.toNatClampNeg - 54) = x.toNatClampNeg by omega, show 61 + (x.toNatClampNeg - 54) = y.toNatClampNeg by omega] at q
      exact of_decide_eq_true q
    rw [upd_at, ev, e]; exact h _
  · rw [upd_ne hj]; exact h j
def nb (h : Int) : Int := if h = 0 then 0 else if h = 1 then 628 else if h = 2 then 1893 else if h = 3 then 4468 else 9843
def nbP (h to : Int32) : Prop := 0 ≤ to.toInt ∧ to.toInt ≤ nb h.toInt
theorem nb_i {k to : Int32} {B : Int} (h : nbP k to) (e : nb k.toInt ≤ B) : iv 0 B to := ⟨h.1, Int.le_trans h.2 e⟩
theorem nb_o {k to : Int32} {A B : Int} (h : iv A B to) (e : 0 ≤ A ∧ B ≤ nb k.toInt) : nbP k to := ⟨Int.le_trans e.1 h.1, Int.le_trans h.2 e.2⟩

def eff (c : Int32) : Int := if c.toInt < 3000 then 1 else if c.toInt = 3006 then 0 else if c.toInt = 3009 then -2 else -1
def ned (c : Int32) : Int := if c.toInt < 3000 then 0 else if c.toInt = 3006 then 1 else if c.toInt = 3009 then 3 else 2
def okc (c : Int32) : Prop := 0 ≤ c.toInt ∧ (c.toInt < 1006 ∨ 3000 ≤ c.toInt)
/-- how many stand on the row behind k codes from b on -/
def dp (f : Nat → Int32) (b : Nat) : Nat → Int
  | 0 => 0
  | k + 1 => dp f b k + eff (f (b + k))
def Seg (f : Nat → Int32) (b n : Nat) : Prop := ∀ k, k < n → okc (f (b + k)) ∧ ned (f (b + k)) ≤ dp f b k
def WF (f : Nat → Int32) (o : Nat) : Prop := ∀ law, law < 2 → (f (o + 6 + law)).toNatClampNeg + (f (o + 8 + law)).toNatClampNeg ≤ 900 ∧ Seg f (o + 125 + (f (o + 6 + law)).toNatClampNeg) (f (o + 8 + law)).toNatClampNeg
def RW (f : Nat → Int32) : Prop := WF f 0 ∧ WF f 1025 ∧ WF f 2050
theorem eff_le (c : Int32) : eff c ≤ 1 := by unfold eff; repeat' split <;> omega
theorem dp_le (f : Nat → Int32) (b k : Nat) : dp f b k ≤ k := by
  induction k with
  | zero => exact Int.le_refl _
  | succ k ih => have := eff_le (f (b + k)); simp only [dp]; omega
theorem ned_0 (c : Int32) : 0 ≤ ned c := by unfold ned; repeat' split <;> omega
theorem dp_congr {f g : Nat → Int32} {b n : Nat} (h : ∀ k, k < n → g (b + k) = f (b + k)) : dp g b n = dp f b n := by
  induction n with
  | zero => rfl
  | succ n ih => simp only [dp]; rw [ih (fun k hk => h k (by omega)), h n (by omega)]
theorem Seg_congr {f g : Nat → Int32} {b n : Nat} (h : ∀ k, k < n → g (b + k) = f (b + k)) (s : Seg f b n) : Seg g b n := fun k hk => by
  rw [h k hk, dp_congr (fun i hi => h i (by omega))]; exact s k hk
theorem WF_congr {f g : Nat → Int32} {o : Nat} (h : ∀ j, o + 6 ≤ j → j < o + 1025 → (j < o + 10 ∨ o + 125 ≤ j) → g j = f j) (s : WF f o) : WF g o := fun law hl => by
  have e1 : g (o + 6 + law) = f (o + 6 + law) := h _ (by omega) (by omega) (by omega)
  have e2 : g (o + 8 + law) = f (o + 8 + law) := h _ (by omega) (by omega) (by omega)
  have q := s law hl
  rw [e1, e2]
  exact ⟨q.1, Seg_congr (fun k hk => h _ (by omega) (by omega) (by omega)) q.2⟩
theorem RW_up {f g : Nat → Int32} {x v : Int32} {a b : Int} (h : RW f) (hx : iv a b x) (hab : 46 ≤ a ∧ b ≤ 123) (e : g = upd f x.toNatClampNeg v) : RW g := by
  have h0 := hx.1
  have h1 := hx.2
  have k := clampNat (x := x) (by omega)
  subst e
  exact ⟨WF_congr (fun j h1 h2 h3 => upd_ne (by omega)) h.1, WF_congr (fun j h1 h2 h3 => upd_ne (by omega)) h.2.1, WF_congr (fun j h1 h2 h3 => upd_ne (by omega)) h.2.2⟩
theorem RW_0 : RW (fun _ => 0) := by
  have : ∀ o, WF (fun _ => 0) o := fun o law _ => ⟨by show (0 : Int32).toNatClampNeg + (0 : Int32).toNatClampNeg ≤ 900; decide, fun k hk => by
    have hk' : k < (0 : Int32).toNatClampNeg := hk
    rw [(by decide : (0 : Int32).toNatClampNeg = 0)] at hk'; omega⟩
  exact ⟨this _, this _, this _⟩
/-- reckons: at a code -/
def RK (f : Nat → Int32) (law k n : Int32) : Prop := n.toInt = dp f (125 + (f (6 + law.toNatClampNeg)).toNatClampNeg) k.toNatClampNeg
theorem RK_0 {f : Nat → Int32} {law : Int32} : RK f law 0 0 := by
  unfold RK; rw [(by decide : (0 : Int32).toNatClampNeg = 0)]; rfl
theorem RK_c {f : Nat → Int32} {law k n m fr i6 i8 x y c : Int32} (h : RW f) (hl : iv 0 1 law) (hk : iv 0 899 k) (hn : RK f law k n) (e6 : i6 = 6 + law) (e8 : i8 = 8 + law) (em : m = f i8.toNatClampNeg) (hm : iv 0 900 m) (ef : fr = f i6.toNatClampNeg) (hf : iv 0 900 fr) (hkm : k < m) (ex : x = 125 + fr) (ey : y = x + k) (ec : c = f y.toNatClampNeg) : okc c ∧ ned c ≤ n.toInt ∧ n.toInt ≤ k.toInt := by
  rw [Int32.lt_iff_toInt_lt] at hkm
  have q6 := toInt_add e6 (iv_c (6 : Int32) (a := 6) (b := 6) (by decide)) hl (by decide)
  have q8 := toInt_add e8 (iv_c (8 : Int32) (a := 8) (b := 8) (by decide)) hl (by decide)
  have qx := toInt_add ex (iv_c (125 : Int32) (a := 125) (b := 125) (by decide)) hf (by decide)
  have z6 : (6 : Int32).toInt = 6 := by decide
  have z8 : (8 : Int32).toInt = 8 := by decide
  have z125 : (125 : Int32).toInt = 125 := by decide
  have hx : iv 125 1025 x := by unfold iv at *; omega
  have qy := toInt_add ey hx hk (by decide)
  have kl := clampNat hl.1
  have kk := clampNat hk.1
  have kf := clampNat hf.1
  have km := clampNat hm.1
  have k6 := clampNat (x := i6) (by have := hl.1; omega)
  have k8 := clampNat (x := i8) (by have := hl.1; omega)
  have ky := clampNat (x := y) (by have := hf.1; have := hk.1; omega)
  have l1 := hl.2
  have w := h.1 law.toNatClampNeg (by omega)
  have a6 : i6.toNatClampNeg = 0 + 6 + law.toNatClampNeg := by omega
  have a8 : i8.toNatClampNeg = 0 + 8 + law.toNatClampNeg := by omega
  rw [← a6, ← a8, ← em, ← ef] at w
  have s := w.2 k.toNatClampNeg (by omega)
  have ay : y.toNatClampNeg = 0 + 125 + fr.toNatClampNeg + k.toNatClampNeg := by omega
  rw [← ay, ← ec] at s
  unfold RK at hn
  have a6' : 6 + law.toNatClampNeg = i6.toNatClampNeg := by omega
  rw [a6', ← ef] at hn
  have e0 : 125 + fr.toNatClampNeg = 0 + 125 + fr.toNatClampNeg := by omega
  rw [e0] at hn
  have := dp_le f (0 + 125 + fr.toNatClampNeg) k.toNatClampNeg
  exact ⟨s.1, by omega, by omega⟩
theorem RK_s {f : Nat → Int32} {law k k' n n' fr i6 x y c : Int32} (hl : iv 0 1 law) (hk : iv 0 899 k) (hn : RK f law k n) (e6 : i6 = 6 + law) (ef : fr = f i6.toNatClampNeg) (hf : iv 0 900 fr) (ex : x = 125 + fr) (ey : y = x + k) (ec : c = f y.toNatClampNeg) (ek : k' = k + 1) (e : n'.toInt = n.toInt + eff c) : RK f law k' n' := by
  have q6 := toInt_add e6 (iv_c (6 : Int32) (a := 6) (b := 6) (by decide)) hl (by decide)
  have qx := toInt_add ex (iv_c (125 : Int32) (a := 125) (b := 125) (by decide)) hf (by decide)
  have z6 : (6 : Int32).toInt = 6 := by decide
  have z125 : (125 : Int32).toInt = 125 := by decide
  have hx : iv 125 1025 x := by unfold iv at *; omega
  have qy := toInt_add ey hx hk (by decide)
  have qk := inc_toInt ek hk (by decide)
  have kl := clampNat hl.1
  have kk := clampNat hk.1
  have kf := clampNat hf.1
  have k6 := clampNat (x := i6) (by have := hl.1; omega)
  have ky := clampNat (x := y) (by have := hf.1; have := hk.1; omega)
  have kk' := clampNat (x := k') (by have := hk.1; omega)
  unfold RK at *
  have a6' : 6 + law.toNatClampNeg = i6.toNatClampNeg := by omega
  rw [a6', ← ef] at hn ⊢
  have ay : y.toNatClampNeg = 125 + fr.toNatClampNeg + k.toNatClampNeg := by omega
  have ak : k'.toNatClampNeg = k.toNatClampNeg + 1 := by omega
  rw [ak]
  simp only [dp]
  rw [← ay, ← ec, e, hn]
theorem eff_push {c : Int32} (h : c < 3000) : eff c = 1 := by
  rw [Int32.lt_iff_toInt_lt, (by decide : (3000 : Int32).toInt = 3000)] at h; unfold eff; rw [if_pos h]
theorem eff_not {c : Int32} (h : c = 3006) : eff c = 0 := by subst h; decide
theorem eff_if {c : Int32} (h : c = 3009) : eff c = -2 := by subst h; decide
theorem eff_two {c : Int32} (h : ¬ c < 3000) (h1 : ¬ c = 3006) (h2 : ¬ c = 3009) : eff c = -1 := by
  rw [Int32.lt_iff_toInt_lt, (by decide : (3000 : Int32).toInt = 3000)] at h
  have e1 : c.toInt ≠ 3006 := fun q => h1 (Int32.toInt_inj.mp (q.trans (by decide)))
  have e2 : c.toInt ≠ 3009 := fun q => h2 (Int32.toInt_inj.mp (q.trans (by decide)))
  unfold eff; rw [if_neg h, if_neg e1, if_neg e2]
theorem ned_not {c : Int32} (h : c = 3006) : ned c = 1 := by subst h; decide
theorem ned_if {c : Int32} (h : c = 3009) : ned c = 3 := by subst h; decide
theorem ned_two {c : Int32} (h : ¬ c < 3000) (h1 : ¬ c = 3006) (h2 : ¬ c = 3009) : ned c = 2 := by
  rw [Int32.lt_iff_toInt_lt, (by decide : (3000 : Int32).toInt = 3000)] at h
  have e1 : c.toInt ≠ 3006 := fun q => h1 (Int32.toInt_inj.mp (q.trans (by decide)))
  have e2 : c.toInt ≠ 3009 := fun q => h2 (Int32.toInt_inj.mp (q.trans (by decide)))
  unfold ned; rw [if_neg h, if_neg e1, if_neg e2]
theorem iv_shl1 {y : Int32} {c d : Int} (hy : iv c d y) (h : 0 ≤ c ∧ d ≤ 3) : iv 1 8 ((1 : Int32) <<< (y &&& 31)) := by
  unfold iv at *
  have ky := clampNat (x := y) (by omega)
  have ey : y = nI y.toNatClampNeg := by
    obtain ⟨j, hj, e⟩ := nI_of (x := y) (by rw [Int32.lt_iff_toInt_lt, (by decide : (0 : Int32).toInt = 0)]; omega)
    have : j = y.toNatClampNeg := by
      have := congrArg Int32.toInt e
      rw [nI_toInt hj] at this; omega
    rw [← this]; exact e
  rw [ey]
  have q := List.all_eq_true.mp (show ((List.range 4).all fun a => decide (1 ≤ ((1 : Int32) <<< (nI a &&& 31)).toInt ∧ ((1 : Int32) <<< (nI a &&& 31)).toInt ≤ 8)) = true by decide +kernel) y.toNatClampNeg (List.mem_range.mpr (by omega))
  exact of_decide_eq_true q
/-- a stack that can be taken from; a told deed that can be -/
def SP (f : Nat → Int32) (h : Int) : Prop := 1 ≤ (f (46 + h.toNat)).toInt
def WN (f : Nat → Int32) (v : Int) : Prop := (0 ≤ v ∧ v ≤ 3) ∨ (10 ≤ v ∧ v ≤ 13 ∧ SP f (v - 10)) ∨ (20 ≤ v ∧ v ≤ 29)
theorem SP_i {f : Nat → Int32} {h i x : Int32} {a b : Int} (s : SP f h.toInt) (ei : i = 46 + h) (hh : iv a b h) (hab : 0 ≤ a ∧ b ≤ 3) (ex : x = f i.toNatClampNeg) (hx : iv 0 4 x) : iv 1 4 x := by
  have q := toInt_add ei (iv_c (46 : Int32) (a := 46) (b := 46) (by decide)) hh (by have := hh.1; omega)
  have z : (46 : Int32).toInt = 46 := by decide
  have h0 := hh.1
  have k := clampNat (x := i) (by omega)
  have e : i.toNatClampNeg = 46 + h.toInt.toNat := by omega
  unfold SP at s
  rw [← e, ← ex] at s
  exact ⟨s, hx.2⟩
theorem SP_o {f : Nat → Int32} {k : Int64} {h i x : Int32} {a b : Int} (hk : ivL a b k) (hab : 0 ≤ a ∧ b ≤ 3) (eh : h = k.toInt32) (ei : i = 46 + h) (ex : x = f i.toNatClampNeg) (hx : iv 0 4 x) (hn : ¬ x = 0) : SP f k.toInt := by
  have eh' : h.toInt = k.toInt := by
    unfold ivL at hk
    rw [eh, Int64.toInt_toInt32, Int.bmod_eq_of_le (by omega) (by omega)]
  have hh : iv a b h := by unfold iv; rw [eh']; exact hk
  have q := toInt_add ei (iv_c (46 : Int32) (a := 46) (b := 46) (by decide)) hh (by have := hh.1; omega)
  have z : (46 : Int32).toInt = 46 := by decide
  have h0 := hh.1
  have k' := clampNat (x := i) (by omega)
  have e : i.toNatClampNeg = 46 + k.toInt.toNat := by omega
  unfold SP
  rw [← e, ← ex]
  have : x.toInt ≠ 0 := fun q => hn (Int32.toInt_inj.mp (q.trans (by decide)))
  have := hx.1
  omega
theorem l2i_toInt {k : Int64} {x : Int32} {a b : Int} (e : x = k.toInt32) (hk : ivL a b k) (hab : -2147483648 ≤ a ∧ b ≤ 2147483647) : x.toInt = k.toInt := by
  unfold ivL at hk
  rw [e, Int64.toInt_toInt32, Int.bmod_eq_of_le (by omega) (by omega)]
theorem lsub_toInt {j k : Int64} {a b : Int} (e : j = k - 10) (hk : ivL a b k) (hab : -1000 ≤ a ∧ b ≤ 1000) : j.toInt = k.toInt - 10 := by
  unfold ivL at hk
  rw [e, Int64.toInt_sub, (by decide : (10 : Int64).toInt = 10), ivL_bm (by omega) (by omega)]
theorem isub_toInt {j k c : Int32} {a b : Int} {n : Int} (e : j = k - c) (hc : c.toInt = n) (hk : iv a b k) (hab : -1000 ≤ a ∧ b ≤ 1000 ∧ 0 ≤ n ∧ n ≤ 1000) : j.toInt = k.toInt - n := by
  unfold iv at hk
  rw [e, Int32.toInt_sub, hc, iv_bm (by omega) (by omega)]
theorem iv_or15 {x y : Int32} {a b c d : Int} (hx : iv a b x) (hy : iv c d y) (h : 0 ≤ a ∧ b ≤ 15 ∧ 0 ≤ c ∧ d ≤ 15) : iv 0 15 (x ||| y) := by
  unfold iv at *
  have kx := clampNat (x := x) (by omega)
  have ky := clampNat (x := y) (by omega)
  have ex : x = nI x.toNatClampNeg := by
    obtain ⟨j, hj, e⟩ := nI_of (x := x) (by rw [Int32.lt_iff_toInt_lt, (by decide : (0 : Int32).toInt = 0)]; omega)
    have : j = x.toNatClampNeg := by
      have := congrArg Int32.toInt e
      rw [nI_toInt hj] at this; omega
    rw [← this]; exact e
  have ey : y = nI y.toNatClampNeg := by
    obtain ⟨j, hj, e⟩ := nI_of (x := y) (by rw [Int32.lt_iff_toInt_lt, (by decide : (0 : Int32).toInt = 0)]; omega)
    have : j = y.toNatClampNeg := by
      have := congrArg Int32.toInt e
      rw [nI_toInt hj] at this; omega
    rw [← this]; exact e
  rw [ex, ey]
  have q := List.all_eq_true.mp (List.all_eq_true.mp (show ((List.range 16).all fun a => (List.range 16).all fun b => decide (0 ≤ (nI a ||| nI b).toInt ∧ (nI a ||| nI b).toInt ≤ 15)) = true by decide +kernel) x.toNatClampNeg (List.mem_range.mpr (by omega))) y.toNatClampNeg (List.mem_range.mpr (by omega))
  exact of_decide_eq_true q
theorem iv_or1 {x y : Int32} {a b c d : Int} (hx : iv a b x) (hy : iv c d y) (h : 0 ≤ a ∧ b ≤ 1 ∧ 0 ≤ c ∧ d ≤ 1) : iv 0 1 (x ||| y) := by
  unfold iv at *
  have kx := clampNat (x := x) (by omega)
  have ky := clampNat (x := y) (by omega)
  have ex : x = nI x.toNatClampNeg := by
    obtain ⟨j, hj, e⟩ := nI_of (x := x) (by rw [Int32.lt_iff_toInt_lt, (by decide : (0 : Int32).toInt = 0)]; omega)
    have : j = x.toNatClampNeg := by
      have := congrArg Int32.toInt e
      rw [nI_toInt hj] at this; omega
    rw [← this]; exact e
  have ey : y = nI y.toNatClampNeg := by
    obtain ⟨j, hj, e⟩ := nI_of (x := y) (by rw [Int32.lt_iff_toInt_lt, (by decide : (0 : Int32).toInt = 0)]; omega)
    have : j = y.toNatClampNeg := by
      have := congrArg Int32.toInt e
      rw [nI_toInt hj] at this; omega
    rw [← this]; exact e
  rw [ex, ey]
  have q := List.all_eq_true.mp (List.all_eq_true.mp (show ((List.range 2).all fun a => (List.range 2).all fun b => decide (0 ≤ (nI a ||| nI b).toInt ∧ (nI a ||| nI b).toInt ≤ 1)) = true by decide +kernel) x.toNatClampNeg (List.mem_range.mpr (by omega))) y.toNatClampNeg (List.mem_range.mpr (by omega))
  exact of_decide_eq_true q

theorem nn_dec {f g : Nat → Int32} {p : Nat} {v : Int32} {k : Nat} (e : g = upd f p v) (h : p < k) (hv : v ≠ -1) (hp : f p = -1) : nn g k < nn f k := by
  rw [e]; have := nn_in h hv hp; omega
def PL (n : Int32) (f : Nat → Int32) : Prop := ∀ j : Nat, j < 10000 → (f j).toInt < n.toInt
theorem PL_0 {n : Int32} {f : Nat → Int32} {i : Int32} (h : ∀ j : Nat, (j : Int) < i.toInt → f j = -1) (hi : ¬ i < 10000) (hn : n.toInt = 0) : PL n f := fun j hj => by
  rw [Int32.lt_iff_toInt_lt, (by decide : (10000 : Int32).toInt = 10000)] at hi
  rw [h j (by omega), (by decide : (-1 : Int32).toInt = -1)]; omega
theorem PL_s {n n' : Int32} {f g : Nat → Int32} {p : Nat} (h : PL n f) (e : g = upd f p n) (en : n'.toInt = n.toInt + 1) : PL n' g := fun j hj => by
  rw [e]
  by_cases q : j = p
  · subst q; rw [upd_at]; omega
  · rw [upd_ne q]; have := h j hj; omega
theorem FN_i {w : Int32} {f : Nat → Int32} {k B : Nat} (h : w.toInt = 0) (hk : k ≤ B) : FN w f k B := by
  unfold FN; have := nn_le f k; omega
theorem rem_lt {x y r : Int32} {a b c d : Int} (e : r = x - x / y * y) (hx : iv a b x) (hy : iv c d y) (h : 0 ≤ a ∧ 0 < c) : 0 ≤ r.toInt ∧ r.toInt < y.toInt := by
  have h1 := hy.1
  have q := iv_remp (B := y.toInt - 1) hx ⟨h.1, (by omega : 0 < y.toInt), by omega⟩ (y := y) rfl
  rw [← e] at q
  unfold iv at q; omega

def nk (v : Int32) (f : Nat → Int32) : Nat → Nat
  | 0 => 0
  | k + 1 => nk v f k + if f k = v then 1 else 0
theorem nk_le (v : Int32) (f : Nat → Int32) (k : Nat) : nk v f k ≤ k := by
  induction k with
  | zero => exact Nat.le_refl _
  | succ k ih => simp only [nk]; split <;> omega
theorem nk_out {c : Int32} {f : Nat → Int32} {p : Nat} {v : Int32} {k : Nat} (h : k ≤ p) : nk c (upd f p v) k = nk c f k := by
  induction k with
  | zero => rfl
  | succ k ih => simp only [nk]; rw [ih (by omega), upd_ne (by omega)]
theorem nk_in {c : Int32} {f : Nat → Int32} {p : Nat} {v : Int32} {k : Nat} (h : p < k) (hv : v ≠ c) (hp : f p = c) : nk c (upd f p v) k + 1 = nk c f k := by
  induction k with
  | zero => omega
  | succ k ih =>
    simp only [nk]
    rcases Nat.lt_or_ge p k with q | q
    · have := ih q; rw [upd_ne (by omega)]; omega
    · have : p = k := by omega
      subst this
      rw [nk_out (Nat.le_refl _), upd_at, if_neg hv, if_pos hp]
def FK (n : Int32) (kn : Nat → Int32) : Prop := n.toInt + (nk 0 kn 10000 : Int) ≤ 10000
def inS (n : Int32) (st : Nat → Int32) (v : Nat) : Prop := ∃ k : Nat, (k : Int) < n.toInt ∧ (st k).toNatClampNeg = v
def KI (n : Int32) (st kn : Nat → Int32) : Prop := ∀ j : Nat, j < 10000 → kn j ≠ 0 → inS n st j
def preS (n : Int32) (st st' : Nat → Int32) : Prop := ∀ j : Nat, (j : Int) < n.toInt → st' j = st j
theorem FK_lt {n : Int32} {kn : Nat → Int32} {p : Nat} (h : FK n kn) (hp : p < 10000) (e : kn p = 0) : n.toInt < 10000 := by
  unfold FK at h
  have := nk_in (v := 1) (c := 0) hp (by decide) e
  omega
theorem FK_s {n n' v : Int32} {kn kn' : Nat → Int32} {p : Nat} (h : FK n kn) (hp : p < 10000) (e : kn p = 0) (hv : v ≠ 0) (ek : kn' = upd kn p v) (en : n'.toInt = n.toInt + 1) : FK n' kn' := by
  unfold FK at *
  have := nk_in (v := v) (c := 0) hp hv e
  rw [ek]; omega
theorem FK_0 {n : Int32} {kn : Nat → Int32} (h : n.toInt = 0) : FK n kn := by
  unfold FK; have := nk_le 0 kn 10000; omega
theorem KI_0 {n i : Int32} {st kn : Nat → Int32} (h : ∀ j : Nat, (j : Int) < i.toInt → kn j = 0) (hi : ¬ i < 10000) : KI n st kn := fun j hj hn => by
  rw [Int32.lt_iff_toInt_lt, (by decide : (10000 : Int32).toInt = 10000)] at hi
  exact absurd (h j (by omega)) hn
theorem inS_m {n n' : Int32} {st st' : Nat → Int32} {v : Nat} (h : inS n st v) (hn : n.toInt ≤ n'.toInt) (hp : preS n st st') : inS n' st' v := by
  obtain ⟨k, h1, h2⟩ := h
  exact ⟨k, by omega, by rw [hp k h1]; exact h2⟩
theorem preS_s {n v : Int32} {st st' : Nat → Int32} {a b : Int} (hn : iv a b n) (h0 : 0 ≤ a) (e : st' = upd st n.toNatClampNeg v) : preS n st st' := fun j hj => by
  have := hn.1
  have k := clampNat (x := n) (by omega)
  rw [e, upd_ne (by omega)]
theorem preS_r {n : Int32} {st : Nat → Int32} : preS n st st := fun _ _ => rfl
theorem preS_t {n n' : Int32} {a b c : Nat → Int32} (h : preS n a b) (g : preS n' b c) (hn : n.toInt ≤ n'.toInt) : preS n a c := fun j hj => (g j (by omega)).trans (h j hj)
theorem inS_s {n n' v : Int32} {st st' : Nat → Int32} {a b : Int} (hn : iv a b n) (h0 : 0 ≤ a) (en : n'.toInt = n.toInt + 1) (e : st' = upd st n.toNatClampNeg v) : inS n' st' v.toNatClampNeg := by
  have := hn.1
  have k := clampNat (x := n) (by omega)
  exact ⟨n.toNatClampNeg, by omega, by rw [e, upd_at]⟩
theorem KI_s {n n' v w : Int32} {st st' kn kn' : Nat → Int32} {a b : Int} (h : KI n st kn) (hn : iv a b n) (h0 : 0 ≤ a) (en : n'.toInt = n.toInt + 1) (e : st' = upd st n.toNatClampNeg v) (ek : kn' = upd kn v.toNatClampNeg w) : KI n' st' kn' := fun j hj hk => by
  by_cases q : j = v.toNatClampNeg
  · subst q; exact inS_s hn h0 en e
  · rw [ek, upd_ne q] at hk
    exact inS_m (h j hj hk) (by omega) (preS_s hn h0 e)
/-- what stands behind is met -/
def okT (n : Int32) (st : Nat → Int32) (v : Int32) : Prop := v = -1 ∨ inS n st v.toNatClampNeg
def CL (n : Int32) (st th : Nat → Int32) (k d : Nat) : Prop := ∀ i j : Nat, j < 4 → (i < k ∨ (i = k ∧ j < d)) → okT n st (th (4 * (st i).toNatClampNeg + j))
theorem okT_m {n n' v : Int32} {st st' : Nat → Int32} (h : okT n st v) (hn : n.toInt ≤ n'.toInt) (hp : preS n st st') : okT n' st' v := h.imp id (fun q => inS_m q hn hp)
theorem CL_m {n n' : Int32} {st st' th : Nat → Int32} {k d : Nat} (h : CL n st th k d) (hk : (k : Int) < n.toInt) (hn : n.toInt ≤ n'.toInt) (hp : preS n st st') : CL n' st' th k d := fun i j hj q => by
  rw [hp i (by omega)]; exact okT_m (h i j hj q) hn hp
theorem CL_s {n v : Int32} {st th th' : Nat → Int32} {k d p : Nat} (h : CL n st th k d) (e : th' = upd th p v) (hp : p = 4 * (st k).toNatClampNeg + d) (hv : okT n st v) : CL n st th' k (d + 1) := fun i j hj q => by
  rw [e]
  by_cases e2 : 4 * (st i).toNatClampNeg + j = p
  · rw [e2, upd_at]; exact hv
  · rw [upd_ne e2]
    refine h i j hj ?_
    rcases q with q | q
    · exact Or.inl q
    · rcases Nat.lt_or_ge j d with q2 | q2
      · exact Or.inr ⟨q.1, q2⟩
      · exfalso
        have : j = d := by omega
        apply e2; rw [hp, q.1, this]
theorem CL_n {n : Int32} {st th : Nat → Int32} {k d : Nat} (h : CL n st th k d) (hd : 4 ≤ d) : CL n st th (k + 1) 0 := fun i j hj q => h i j hj (by omega)
theorem CL_0 {n : Int32} {st th : Nat → Int32} : CL n st th 0 0 := fun i j hj q => by omega
/-- all that is met, and what stands behind it -/
def SL (n : Int32) (st th : Nat → Int32) : Prop := ∀ i j : Nat, (i : Int) < n.toInt → j < 4 → okT n st (th (4 * (st i).toNatClampNeg + j))
theorem SL_of {n k d : Int32} {st th : Nat → Int32} {a b : Int} (h : CL n st th k.toNatClampNeg d.toNatClampNeg) (hk : ¬ k < n) (hk0 : iv a b k) (h0 : 0 ≤ a) : SL n st th := fun i j hi hj => by
  rw [Int32.lt_iff_toInt_lt] at hk
  have := hk0.1
  have q := clampNat (x := k) (by omega)
  exact h i j hj (Or.inl (by omega))
/-- the stand of now -/
def snF (f : Nat → Int32) : Int32 := if f 1 = 0 then 625 * f 50 else if f 1 = 1 then 625 * f 50 + 1 * f 46 else if f 1 = 2 then 625 * f 50 + 1 * f 46 + 5 * f 47 else if f 1 = 3 then 625 * f 50 + 1 * f 46 + 5 * f 47 + 25 * f 48 else 625 * f 50 + 1 * f 46 + 5 * f 47 + 25 * f 48 + 125 * f 49
theorem snF_0 {f : Nat → Int32} (h : f 1 = 0) : snF f = 625 * f 50 := by unfold snF; rw [if_pos h]
theorem snF_1 {f : Nat → Int32} (h : f 1 = 1) : snF f = 625 * f 50 + 1 * f 46 := by unfold snF; rw [if_neg (by rw [h]; decide), if_pos h]
theorem snF_2 {f : Nat → Int32} (h : f 1 = 2) : snF f = 625 * f 50 + 1 * f 46 + 5 * f 47 := by unfold snF; rw [if_neg (by rw [h]; decide), if_neg (by rw [h]; decide), if_pos h]
theorem snF_3 {f : Nat → Int32} (h : f 1 = 3) : snF f = 625 * f 50 + 1 * f 46 + 5 * f 47 + 25 * f 48 := by unfold snF; rw [if_neg (by rw [h]; decide), if_neg (by rw [h]; decide), if_neg (by rw [h]; decide), if_pos h]
theorem snF_4 {f : Nat → Int32} (h : f 1 = 4) : snF f = 625 * f 50 + 1 * f 46 + 5 * f 47 + 25 * f 48 + 125 * f 49 := by unfold snF; rw [if_neg (by rw [h]; decide), if_neg (by rw [h]; decide), if_neg (by rw [h]; decide), if_neg (by rw [h]; decide)]

def sm (f : Nat → Int32) : Nat → Nat
  | 0 => 0
  | k + 1 => sm f k + (f k).toNatClampNeg
theorem sm_out {f : Nat → Int32} {p k : Nat} {v : Int32} (h : k ≤ p) : sm (upd f p v) k = sm f k := by
  induction k with
  | zero => rfl
  | succ k ih => simp only [sm]; rw [ih (by omega), upd_ne (by omega)]
theorem sm_in {f : Nat → Int32} {p k : Nat} {v : Int32} (h : p < k) : sm (upd f p v) k + (f p).toNatClampNeg = sm f k + v.toNatClampNeg := by
  induction k with
  | zero => omega
  | succ k ih =>
    simp only [sm]
    rcases Nat.lt_or_ge p k with q | q
    · have := ih q; rw [upd_ne (by omega)]; omega
    · have : p = k := by omega
      subst this
      rw [sm_out (Nat.le_refl _), upd_at]; omega
theorem sm_lt {f g : Nat → Int32} {s x v : Int32} {a b c d e e' : Int} (eg : g = upd f s.toNatClampNeg v) (hs : iv a b s) (hab : 0 ≤ a ∧ b ≤ 9999) (ex : x = f s.toNatClampNeg) (hx : iv c d x) (hv : iv e e' v) (h0 : 0 ≤ e) (hlt : v < x) : sm g 10000 < sm f 10000 := by
  have h1 := hs.1
  have h2 := hs.2
  have h3 := hv.1
  have ks := clampNat (x := s) (by omega)
  have kv := clampNat (x := v) (by omega)
  rw [Int32.lt_iff_toInt_lt] at hlt
  have kx := clampNat (x := x) (by omega)
  have q := sm_in (f := f) (v := v) (p := s.toNatClampNeg) (k := 10000) (by omega)
  rw [← eg, ← ex] at q
  omega
theorem sm_le {f g : Nat → Int32} {s x v : Int32} {a b c d e e' : Int} (eg : g = upd f s.toNatClampNeg v) (hs : iv a b s) (hab : 0 ≤ a ∧ b ≤ 9999) (ex : x = f s.toNatClampNeg) (hx : iv c d x) (hv : iv e e' v) (h0 : 0 ≤ e) (hlt : v.toInt ≤ x.toInt) : sm g 10000 ≤ sm f 10000 := by
  have h1 := hs.1
  have h2 := hs.2
  have h3 := hv.1
  have ks := clampNat (x := s) (by omega)
  have kv := clampNat (x := v) (by omega)
  have kx := clampNat (x := x) (by omega)
  have q := sm_in (f := f) (v := v) (p := s.toNatClampNeg) (k := 10000) (by omega)
  rw [← eg, ← ex] at q
  omega
def SD (S S0 : Nat) (m : Int32) : Prop := S ≤ S0 ∧ (m = 1 → S < S0)
theorem SD_0 {S : Nat} {m : Int32} (h : m = 0) : SD S S m := ⟨Nat.le_refl _, fun q => absurd (h.symm.trans q) (by decide)⟩
theorem SD_1 {S S' S0 : Nat} {m m' : Int32} (h : SD S S0 m) (q : S' < S) : SD S' S0 m' := ⟨by have := h.1; omega, fun _ => by have := h.1; omega⟩
theorem SD_e {S S' S0 : Nat} {m m' : Int32} (h : SD S S0 m) (q : S' ≤ S) (e : m' = m) : SD S' S0 m' := ⟨by have := h.1; omega, fun z => by have := h.2 (e.symm.trans z); omega⟩
theorem mu_more {S S' : Nat} {m m' : Int32} {a b c d : Int} (hm : iv a b m) (ha : 0 < a ∧ b ≤ 1) (hm' : iv c d m') (hc : 0 ≤ c ∧ d ≤ 1) (h : SD S' S m') : 2 * S' + m'.toNatClampNeg < 2 * S + m.toNatClampNeg := by
  have h1 := hm.1
  have h2 := hm.2
  have h3 := hm'.1
  have h4 := hm'.2
  have k1 := clampNat (x := m) (by omega)
  have k2 := clampNat (x := m') (by omega)
  have := h.1
  by_cases q : m' = 1
  · have := h.2 q; omega
  · have : m'.toInt ≠ 1 := fun e => q (Int32.toInt_inj.mp (e.trans (by decide)))
    omega
/-- how far it is by a deed -/
def fN (th far : Nat → Int32) (s d : Nat) : Int32 := if th (4 * s + d) = -1 ∨ far (th (4 * s + d)).toNatClampNeg = 268435456 then 268435456 else far (th (4 * s + d)).toNatClampNeg + 1
theorem ix4c {a u x y : Int32} {N M : Int} (ha : iv 0 N a) (hu : iv 0 M u) (hN : N ≤ 100000 ∧ M ≤ 100000) (ex : x = 4 * a) (ey : y = x + u) : y.toNatClampNeg = 4 * a.toNatClampNeg + u.toNatClampNeg := by
  have := ix4 ha hu hN (ex.trans (Int32.mul_comm _ _)) ey
  omega
theorem fN_a {th far : Nat → Int32} {s d x y t : Int32} {N M : Int} (hs : iv 0 N s) (hd : iv 0 M d) (hN : N ≤ 100000 ∧ M ≤ 100000) (ex : x = 4 * s) (ey : y = x + d) (et : t = th y.toNatClampNeg) (h : t = -1) : 268435456 = fN th far s.toNatClampNeg d.toNatClampNeg := by
  have e := ix4c hs hd hN ex ey
  unfold fN; rw [← e, ← et, if_pos (Or.inl h)]
theorem fN_b {th far : Nat → Int32} {s d x y t z : Int32} {N M : Int} (hs : iv 0 N s) (hd : iv 0 M d) (hN : N ≤ 100000 ∧ M ≤ 100000) (ex : x = 4 * s) (ey : y = x + d) (et : t = th y.toNatClampNeg) (ez : z = far t.toNatClampNeg) (h : z = 268435456) : 268435456 = fN th far s.toNatClampNeg d.toNatClampNeg := by
  have e := ix4c hs hd hN ex ey
  unfold fN; rw [← e, ← et, ← ez, if_pos (Or.inr h)]
theorem fN_c {th far : Nat → Int32} {s d x y t z v : Int32} {N M : Int} (hs : iv 0 N s) (hd : iv 0 M d) (hN : N ≤ 100000 ∧ M ≤ 100000) (ex : x = 4 * s) (ey : y = x + d) (et : t = th y.toNatClampNeg) (ez : z = far t.toNatClampNeg) (h1 : ¬ t = -1) (h : ¬ z = 268435456) (ev : v = z + 1) : v = fN th far s.toNatClampNeg d.toNatClampNeg := by
  have e := ix4c hs hd hN ex ey
  unfold fN; rw [← e, ← et, ← ez, if_neg (by rintro (q | q); exact h1 q; exact h q), ev]
/-- what is not at the end has one nearer behind it -/
def FI1 (n : Int32) (st th far : Nat → Int32) : Prop := ∀ i : Nat, (i : Int) < n.toInt → 0 < (far (st i).toNatClampNeg).toInt → (far (st i).toNatClampNeg).toInt < 268435456 → ∃ d : Nat, d < 4 ∧ th (4 * (st i).toNatClampNeg + d) ≠ -1 ∧ (far (th (4 * (st i).toNatClampNeg + d)).toNatClampNeg).toInt < (far (st i).toNatClampNeg).toInt
def cnd (st th far : Nat → Int32) (i d : Nat) : Prop := 0 < (far (st i).toNatClampNeg).toInt → (far (st i).toNatClampNeg).toInt ≤ (fN th far (st i).toNatClampNeg d).toInt
def FI2 (n : Int32) (st th far : Nat → Int32) : Prop := ∀ i d : Nat, (i : Int) < n.toInt → d < 4 → cnd st th far i d
def F2k (n k : Int32) (st th far : Nat → Int32) : Prop := ∀ i d : Nat, k.toInt < (i : Int) → (i : Int) < n.toInt → d < 4 → cnd st th far i d
def F2d (k d : Int32) (st th far : Nat → Int32) : Prop := ∀ j : Nat, (j : Int) < d.toInt → cnd st th far k.toNatClampNeg j
def ini (n k : Int32) (st far : Nat → Int32) : Prop := ∀ i : Nat, (i : Int) < k.toInt → (i : Int) < n.toInt → far (st i).toNatClampNeg = 0 ∨ far (st i).toNatClampNeg = 268435456
theorem ini_0 {n k : Int32} {st far : Nat → Int32} (h : k.toInt = 0) : ini n k st far := fun i q => by omega
theorem ini_s {n k k' v x : Int32} {st far far' : Nat → Int32} {a b : Int} (h : ini n k st far) (hk : iv a b k) (hab : 0 ≤ a ∧ b < 2147483647) (ek : k' = k + 1) (ex : x = st k.toNatClampNeg) (e : far' = upd far x.toNatClampNeg v) (hv : v = 0 ∨ v = 268435456) : ini n k' st far' := fun i q1 q2 => by
  have e' := inc_toInt ek hk ⟨by omega, hab.2⟩
  have := hk.1
  have kk := clampNat (x := k) (by omega)
  rw [e]
  by_cases z : (st i).toNatClampNeg = x.toNatClampNeg
  · rw [z, upd_at]; exact hv
  · rw [upd_ne z]
    refine h i ?_ q2
    rcases Int.lt_trichotomy (i : Int) k.toInt with w | w | w
    · exact w
    · exfalso; apply z; rw [ex, show i = k.toNatClampNeg by omega]
    · omega
theorem FI1_0 {n k : Int32} {st th far : Nat → Int32} (h : ini n k st far) (hk : ¬ k < n) : FI1 n st th far := fun i hi h0 h1 => by
  rw [Int32.lt_iff_toInt_lt] at hk
  rcases h i (by omega) hi with q | q
  · rw [q] at h0; exact absurd h0 (by decide)
  · rw [q] at h1; exact absurd h1 (by decide)
theorem fN_lt {th far : Nat → Int32} {s d : Nat} {v x : Int32} (tf : ∀ j, iv 0 268435456 (far j)) (ev : v = fN th far s d) (hx : iv 0 268435456 x) (hlt : v < x) : th (4 * s + d) ≠ -1 ∧ v.toInt = (far (th (4 * s + d)).toNatClampNeg).toInt + 1 := by
  rw [Int32.lt_iff_toInt_lt] at hlt
  have h2 := hx.2
  unfold fN at ev
  by_cases q : th (4 * s + d) = -1 ∨ far (th (4 * s + d)).toNatClampNeg = 268435456
  · rw [if_pos q] at ev
    rw [ev, (by decide : (268435456 : Int32).toInt = 268435456)] at hlt; omega
  · rw [if_neg q] at ev
    exact ⟨fun z => q (Or.inl z), toInt_add ev (tf _) (iv_c (1 : Int32) (a := 1) (b := 1) (by decide)) (by decide)⟩
theorem FI1_s {n k v x sk : Int32} {st th far far' : Nat → Int32} {d : Nat} (h : FI1 n st th far) (tf : ∀ j, iv 0 268435456 (far j)) (es : sk = st k.toNatClampNeg) (e : far' = upd far sk.toNatClampNeg v) (ex : x = far sk.toNatClampNeg) (ev : v = fN th far sk.toNatClampNeg d) (hd : d < 4) (hlt : v < x) : FI1 n st th far' := fun i hi h0 h1 => by
  have q := fN_lt tf ev (ex ▸ tf _) hlt
  have hlt' := hlt
  rw [Int32.lt_iff_toInt_lt] at hlt'
  by_cases z : (st i).toNatClampNeg = sk.toNatClampNeg
  · refine ⟨d, hd, by rw [z]; exact q.1, ?_⟩
    rw [z]
    have ne : (th (4 * sk.toNatClampNeg + d)).toNatClampNeg ≠ sk.toNatClampNeg := fun w => by
      have := q.2
      rw [w, ← ex] at this; omega
    rw [e, upd_ne ne, upd_at]; have := q.2; omega
  · have e1 : far' (st i).toNatClampNeg = far (st i).toNatClampNeg := by rw [e, upd_ne z]
    rw [e1] at h0 h1 ⊢
    obtain ⟨j, hj, g1, g2⟩ := h i hi h0 h1
    refine ⟨j, hj, g1, ?_⟩
    by_cases w : (th (4 * (st i).toNatClampNeg + j)).toNatClampNeg = sk.toNatClampNeg
    · rw [w] at g2 ⊢
      rw [e, upd_at]; rw [← ex] at g2; omega
    · rw [e, upd_ne w]; exact g2
theorem isub_toInt2 {k n : Int32} {a b : Int} (e : k = n - 1) (hn : iv a b n) (hab : 0 ≤ a ∧ b ≤ 100000) : k.toInt = n.toInt - 1 := by
  have := toInt_sub e hn (iv_c (1 : Int32) (a := 1) (b := 1) (by decide)) (by omega)
  rw [(by decide : (1 : Int32).toInt = 1)] at this; exact this
theorem F2k_0 {n k m : Int32} {st th far : Nat → Int32} {a b : Int} (ek : k = n - 1) (hn : iv a b n) (hab : 0 ≤ a ∧ b ≤ 100000) : m = 0 → F2k n k st th far := fun _ i d h1 h2 => by
  have := isub_toInt2 ek hn hab
  omega
theorem F2d_0 {k d m : Int32} {st th far : Nat → Int32} (h : d.toInt = 0) : m = 0 → F2d k d st th far := fun _ j hj => by omega
theorem F2d_s {k d d' r x sk m : Int32} {st th far : Nat → Int32} {a b : Int} (h : m = 0 → F2d k d st th far) (es : sk = st k.toNatClampNeg) (ex : x = far sk.toNatClampNeg) (er : r = fN th far sk.toNatClampNeg d.toNatClampNeg) (hge : ¬ r < x) (hd : iv a b d) (hab : 0 ≤ a ∧ b < 2147483647) (ed : d' = d + 1) : m = 0 → F2d k d' st th far := fun hm j hj => by
  have e' := inc_toInt ed hd ⟨by omega, hab.2⟩
  have := hd.1
  have kd := clampNat (x := d) (by omega)
  rw [Int32.lt_iff_toInt_lt] at hge
  by_cases q : j = d.toNatClampNeg
  · subst q; intro _; rw [← es, ← ex, ← er]; omega
  · exact h hm j (by omega)
theorem F2k_s {n k k' d m : Int32} {st th far : Nat → Int32} {a b : Int} (h : m = 0 → F2k n k st th far) (g : m = 0 → ∀ j : Nat, j < 4 → cnd st th far k.toNatClampNeg j) (hk : iv a b k) (hab : 0 ≤ a ∧ b ≤ 100000) (ek : k' = k + -1) : m = 0 → F2k n k' st th far := fun hm i j h1 h2 h3 => by
  have := hk.1
  have kk := clampNat (x := k) (by omega)
  have e : k'.toInt = k.toInt + -1 := toInt_add ek hk (iv_c (-1 : Int32) (a := -1) (b := -1) (by decide)) (by omega)
  by_cases q : i = k.toNatClampNeg
  · subst q; exact g hm j h3
  · exact h hm i j (by omega) h2 h3
theorem g4 {k d m : Int32} {st th far : Nat → Int32} (h : m = 0 → F2d k d st th far) (hd : ¬ d < 4) : m = 0 → ∀ j : Nat, j < 4 → cnd st th far k.toNatClampNeg j := fun hm j hj => by
  rw [Int32.lt_iff_toInt_lt, (by decide : (4 : Int32).toInt = 4)] at hd
  exact h hm j (by omega)
theorem g0 {k m x sk : Int32} {st th far : Nat → Int32} (es : sk = st k.toNatClampNeg) (ex : x = far sk.toNatClampNeg) (h : x ≤ 0) : m = 0 → ∀ j : Nat, j < 4 → cnd st th far k.toNatClampNeg j := fun _ j _ h0 => by
  rw [← es, ← ex] at h0
  rw [Int32.le_iff_toInt_le, (by decide : (0 : Int32).toInt = 0)] at h; omega
theorem FI2_of {n k m : Int32} {st th far : Nat → Int32} (h : m = 0 → F2k n k st th far) (hk : k < 0) : m = 0 → FI2 n st th far := fun hm i d hi hd => by
  rw [Int32.lt_iff_toInt_lt, (by decide : (0 : Int32).toInt = 0)] at hk
  exact h hm i d (by omega) hi hd
/-- a deed by which it is as near as it can be -/
theorem way_ex {n : Int32} {s x : Int32} {st th far : Nat → Int32} (f1 : FI1 n st th far) (f2 : FI2 n st th far) (tf : ∀ j, iv 0 268435456 (far j)) (hs : inS n st s.toNatClampNeg) (ex : x = far s.toNatClampNeg) (h0 : 0 < x) (h1 : x < 268435456) : ∃ d : Nat, d < 4 ∧ fN th far s.toNatClampNeg d = x := by
  obtain ⟨i, hi, e⟩ := hs
  rw [Int32.lt_iff_toInt_lt, (by decide : (0 : Int32).toInt = 0)] at h0
  rw [Int32.lt_iff_toInt_lt, (by decide : (268435456 : Int32).toInt = 268435456)] at h1
  have a := f1 i hi (by rw [e, ← ex]; exact h0) (by rw [e, ← ex]; exact h1)
  rw [e] at a
  obtain ⟨d, hd, g1, g2⟩ := a
  rw [← ex] at g2
  refine ⟨d, hd, ?_⟩
  have b := f2 i d hi hd (by rw [e, ← ex]; exact h0)
  rw [e, ← ex] at b
  have ne : ¬ (th (4 * s.toNatClampNeg + d) = -1 ∨ far (th (4 * s.toNatClampNeg + d)).toNatClampNeg = 268435456) := by
    rintro (q | q)
    · exact g1 q
    · rw [q, (by decide : (268435456 : Int32).toInt = 268435456)] at g2; omega
  have c : fN th far s.toNatClampNeg d = far (th (4 * s.toNatClampNeg + d)).toNatClampNeg + 1 := by unfold fN; rw [if_neg ne]
  have v := toInt_add c (tf _) (iv_c (1 : Int32) (a := 1) (b := 1) (by decide)) (by decide)
  have z : (1 : Int32).toInt = 1 := by decide
  exact Int32.toInt_inj.mp (by omega)
theorem way_to {n s d x y t r : Int32} {st th far : Nat → Int32} {N M : Int} (sl : SL n st th) (hs : inS n st s.toNatClampNeg) (tf : ∀ j, iv 0 268435456 (far j)) (h1 : r < 268435456) (er : r = fN th far s.toNatClampNeg d.toNatClampNeg) (hs' : iv 0 N s) (hd : iv 0 M d) (hN : N ≤ 100000 ∧ M ≤ 3) (ex : x = 4 * s) (ey : y = x + d) (et : t = th y.toNatClampNeg) : t ≠ -1 ∧ inS n st t.toNatClampNeg ∧ (far t.toNatClampNeg).toInt + 1 = r.toInt := by
  have e := ix4c hs' hd ⟨hN.1, by omega⟩ ex ey
  have q := fN_lt (x := 268435456) tf er (iv_c _ (by decide)) h1
  rw [← e, ← et] at q
  have := hd.1
  have := hd.2
  have kd := clampNat (x := d) (by omega)
  obtain ⟨i, hi, e2⟩ := hs
  have w := sl i d.toNatClampNeg hi (by omega)
  rw [e2, ← e, ← et] at w
  refine ⟨q.1, ?_, by omega⟩
  rcases w with w | w
  · exact absurd w q.1
  · exact w
def WD (d x : Int32) (th far : Nat → Int32) (s : Nat) : Prop := ∃ j : Nat, d.toInt ≤ (j : Int) ∧ j < 4 ∧ fN th far s j = x
theorem WD_s {d d' x r : Int32} {th far : Nat → Int32} {s : Nat} {a b : Int} (h : WD d x th far s) (er : r = fN th far s d.toNatClampNeg) (hne : ¬ r = x) (hd : iv a b d) (hab : 0 ≤ a ∧ b < 2147483647) (ed : d' = d + 1) : WD d' x th far s := by
  obtain ⟨j, h1, h2, h3⟩ := h
  have e' := inc_toInt ed hd ⟨by omega, hab.2⟩
  have := hd.1
  have kd := clampNat (x := d) (by omega)
  refine ⟨j, ?_, h2, h3⟩
  have : j ≠ d.toNatClampNeg := fun q => hne (by rw [er, ← q, h3])
  omega
theorem WD_b {d x r : Int32} {th far : Nat → Int32} {s : Nat} {a b : Int} (h : WD d x th far s) (er : r = fN th far s d.toNatClampNeg) (hne : ¬ r = x) (hd : iv a b d) (h0 : 0 ≤ a) : iv 0 2 d := by
  obtain ⟨j, h1, h2, h3⟩ := h
  have := hd.1
  have kd := clampNat (x := d) (by omega)
  have : j ≠ d.toNatClampNeg := fun q => hne (by rw [er, ← q, h3])
  unfold iv; omega
theorem or_z {m x : Int32} (e : x = m ||| 0) : x = m := by rw [e]; exact Int32.or_zero

def dgF (h : Int32) : Int32 := if h = 0 then 1 else if h = 1 then 5 else if h = 2 then 25 else 125
def stF (s h : Int32) : Int32 := (s - s / 625 * 625) / dgF h - (s - s / 625 * 625) / dgF h / 5 * 5
theorem dgF_0 {h : Int32} (e : h = 0) : dgF h = 1 := by unfold dgF; rw [if_pos e]
theorem dgF_1 {h : Int32} (e : h = 1) : dgF h = 5 := by subst e; decide
theorem dgF_2 {h : Int32} (e : h = 2) : dgF h = 25 := by subst e; decide
theorem dgF_3 {h : Int32} (e0 : ¬ h = 0) (e1 : ¬ h = 1) (e2 : ¬ h = 2) : dgF h = 125 := by unfold dgF; rw [if_neg e0, if_neg e1, if_neg e2]
theorem stF_e {s h a d b r : Int32} (ed : dgF h = d) (ea : a = s - s / 625 * 625) (eb : b = a / d) (er : r = b - b / 5 * 5) : r = stF s h := by
  unfold stF; rw [ed, ← ea, ← eb, er]
def mn (x y : Int32) : Int32 := if x < y then x else y
theorem mn_t {x y : Int32} (h : x < y) : mn x y = x := by unfold mn; rw [if_pos h]
theorem mn_f {x y : Int32} (h : ¬ x < y) : mn x y = y := by unfold mn; rw [if_neg h]
def lsF (f : Nat → Int32) (s : Int32) : Int32 := if f 1 = 0 then 4 else if f 1 = 1 then mn (stF s 0) 4 else if f 1 = 2 then mn (stF s 1) (mn (stF s 0) 4) else if f 1 = 3 then mn (stF s 2) (mn (stF s 1) (mn (stF s 0) 4)) else mn (stF s 3) (mn (stF s 2) (mn (stF s 1) (mn (stF s 0) 4)))
theorem lsF_0 {f : Nat → Int32} {s : Int32} (h : f 1 = 0) : lsF f s = 4 := by unfold lsF; rw [if_pos h]
theorem lsF_1 {f : Nat → Int32} {s : Int32} (h : f 1 = 1) : lsF f s = mn (stF s 0) 4 := by unfold lsF; rw [if_neg (by rw [h]; decide), if_pos h]
theorem lsF_2 {f : Nat → Int32} {s : Int32} (h : f 1 = 2) : lsF f s = mn (stF s 1) (mn (stF s 0) 4) := by unfold lsF; rw [if_neg (by rw [h]; decide), if_neg (by rw [h]; decide), if_pos h]
theorem lsF_3 {f : Nat → Int32} {s : Int32} (h : f 1 = 3) : lsF f s = mn (stF s 2) (mn (stF s 1) (mn (stF s 0) 4)) := by unfold lsF; rw [if_neg (by rw [h]; decide), if_neg (by rw [h]; decide), if_neg (by rw [h]; decide), if_pos h]
theorem lsF_4 {f : Nat → Int32} {s : Int32} (h : f 1 = 4) : lsF f s = mn (stF s 3) (mn (stF s 2) (mn (stF s 1) (mn (stF s 0) 4))) := by unfold lsF; rw [if_neg (by rw [h]; decide), if_neg (by rw [h]; decide), if_neg (by rw [h]; decide), if_neg (by rw [h]; decide)]
/-- how long it keeps by a deed -/
def kN (th far fa : Nat → Int32) (s d k : Int32) : Int32 := let t := th (4 * s + d).toNatClampNeg; if t = -1 ∨ lsF fa t < k then -1 else if far t.toNatClampNeg = 268435456 then 268435456 else far t.toNatClampNeg + 1
theorem kN_a {th far fa : Nat → Int32} {s d k x y t : Int32} (ex : x = 4 * s) (ey : y = x + d) (et : t = th y.toNatClampNeg) (h : t = -1) : -1 = kN th far fa s d k := by
  unfold kN; rw [← ex, ← ey, ← et]; simp only []; rw [if_pos (Or.inl h)]
theorem kN_b {th far fa : Nat → Int32} {s d k x y t l : Int32} (ex : x = 4 * s) (ey : y = x + d) (et : t = th y.toNatClampNeg) (el : l = lsF fa t) (h : l < k) : -1 = kN th far fa s d k := by
  unfold kN; rw [← ex, ← ey, ← et]; simp only []; rw [if_pos (Or.inr (el ▸ h))]
theorem kN_c {th far fa : Nat → Int32} {s d k x y t l z : Int32} (ex : x = 4 * s) (ey : y = x + d) (et : t = th y.toNatClampNeg) (h1 : ¬ t = -1) (el : l = lsF fa t) (h2 : ¬ l < k) (ez : z = far t.toNatClampNeg) (h : z = 268435456) : 268435456 = kN th far fa s d k := by
  unfold kN; rw [← ex, ← ey, ← et]; simp only []; rw [if_neg (by rintro (q | q); exact h1 q; exact h2 (el ▸ q)), ← ez, if_pos h]
theorem kN_d {th far fa : Nat → Int32} {s d k x y t l z v : Int32} (ex : x = 4 * s) (ey : y = x + d) (et : t = th y.toNatClampNeg) (h1 : ¬ t = -1) (el : l = lsF fa t) (h2 : ¬ l < k) (ez : z = far t.toNatClampNeg) (h : ¬ z = 268435456) (ev : v = z + 1) : v = kN th far fa s d k := by
  unfold kN; rw [← ex, ← ey, ← et]; simp only []; rw [if_neg (by rintro (q | q); exact h1 q; exact h2 (el ▸ q)), ← ez, if_neg h, ev]

theorem or_le {x a b : Int32} {p q r s : Int} (e : x = a ||| b) (ha : iv p q a) (hb : iv r s b) (h : 0 ≤ p ∧ q ≤ 15 ∧ 0 ≤ r ∧ s ≤ 15) : a.toInt ≤ x.toInt := by
  unfold iv at *
  have kx := clampNat (x := a) (by omega)
  have ky := clampNat (x := b) (by omega)
  have ex : ∀ z : Int32, 0 ≤ z.toInt → z = nI z.toNatClampNeg := fun z hz => by
    obtain ⟨j, hj, e⟩ := nI_of (x := z) (by rw [Int32.lt_iff_toInt_lt, (by decide : (0 : Int32).toInt = 0)]; omega)
    have : j = z.toNatClampNeg := by
      have k := clampNat (x := z) hz
      have := congrArg Int32.toInt e
      rw [nI_toInt hj] at this; omega
    rw [← this]; exact e
  rw [e, ex a (by omega), ex b (by omega)]
  have q := List.all_eq_true.mp (List.all_eq_true.mp (show ((List.range 16).all fun a => (List.range 16).all fun b => decide ((nI a).toInt ≤ (nI a ||| nI b).toInt)) = true by decide +kernel) a.toNatClampNeg (List.mem_range.mpr (by omega))) b.toNatClampNeg (List.mem_range.mpr (by omega))
  exact of_decide_eq_true q
theorem ne_toInt {x y : Int32} (h : ¬ x = y) : x.toInt ≠ y.toInt := fun q => h (Int32.toInt_inj.mp q)
theorem tA_cp {f : Nat → Int32} {x y v k : Int32} {c d : Nat} {a b : Int} (h : ivT tA f) (hx : x.toInt = (c : Int) + k.toInt) (hy : y.toInt = (d : Int) + k.toInt) (hk : iv a b k) (h0 : 0 ≤ a) (hm : c % 1025 = d % 1025) (ev : v = f y.toNatClampNeg) : ivT tA (upd f x.toNatClampNeg v) := by
  have := hk.1
  have k1 := clampNat (x := x) (by omega)
  have k2 := clampNat (x := y) (by omega)
  intro j
  by_cases hj : j = x.toNatClampNeg
  · subst hj; rw [upd_at, ev, tA_mod (i := x.toNatClampNeg) (j := y.toNatClampNeg) (by omega)]; exact h _
  · rw [upd_ne hj]; exact h j
theorem dp_sh {f : Nat → Int32} {b c n : Nat} (h : ∀ k, k < n → f (c + k) = f (b + k)) : dp f c n = dp f b n := by
  induction n with
  | zero => rfl
  | succ n ih => simp only [dp]; rw [ih (fun k hk => h k (by omega)), h n (by omega)]
theorem WF_sh {f : Nat → Int32} {o p : Nat} (h : ∀ j, j < 1025 → f (p + j) = f (o + j)) (s : WF f o) : WF f p := fun law hl => by
  have e1 : f (p + 6 + law) = f (o + 6 + law) := by have := h (6 + law) (by omega); rw [← Nat.add_assoc, ← Nat.add_assoc] at this; exact this
  have e2 : f (p + 8 + law) = f (o + 8 + law) := by have := h (8 + law) (by omega); rw [← Nat.add_assoc, ← Nat.add_assoc] at this; exact this
  have q := s law hl
  rw [e1, e2]
  refine ⟨q.1, fun k hk => ?_⟩
  have e3 : ∀ i, i < (f (o + 8 + law)).toNatClampNeg → f (p + 125 + (f (o + 6 + law)).toNatClampNeg + i) = f (o + 125 + (f (o + 6 + law)).toNatClampNeg + i) := fun i hi => by
    have := h (125 + (f (o + 6 + law)).toNatClampNeg + i) (by omega)
    rw [show p + 125 + (f (o + 6 + law)).toNatClampNeg + i = p + (125 + (f (o + 6 + law)).toNatClampNeg + i) by omega, show o + 125 + (f (o + 6 + law)).toNatClampNeg + i = o + (125 + (f (o + 6 + law)).toNatClampNeg + i) by omega]
    exact this
  rw [e3 k hk, dp_sh (fun i hi => e3 i (by omega))]
  exact q.2 k hk
def IMG (c : Nat) (k : Int32) (f : Nat → Int32) : Prop := (∀ j : Nat, (j : Int) < k.toInt → f (c + j) = f (0 + j)) ∧ WF f 0 ∧ (c ≠ 1025 → WF f 1025) ∧ (c ≠ 2050 → WF f 2050)
theorem IMG_0 {c : Nat} {k : Int32} {f : Nat → Int32} (h : RW f) (hk : k.toInt = 0) : IMG c k f := ⟨fun j hj => by omega, h.1, fun _ => h.2.1, fun _ => h.2.2⟩
theorem IMG_s {c : Nat} {k k' x v : Int32} {f g : Nat → Int32} {a b : Int} (h : IMG c k f) (hc : c = 1025 ∨ c = 2050) (hk : iv a b k) (hab : 0 ≤ a ∧ b ≤ 1024) (hx : x.toInt = (c : Int) + k.toInt) (ev : v = f k.toNatClampNeg) (e : g = upd f x.toNatClampNeg v) (ek : k' = k + 1) : IMG c k' g := by
  have h0 := hk.1
  have h1 := hk.2
  have e' := inc_toInt ek hk ⟨by omega, by omega⟩
  have kk := clampNat (x := k) (by omega)
  have kx := clampNat (x := x) (by omega)
  subst e
  refine ⟨fun j hj => ?_, WF_congr (fun j h1 h2 h3 => upd_ne (by omega)) h.2.1, fun q => WF_congr (fun j h1 h2 h3 => upd_ne (by omega)) (h.2.2.1 q), fun q => WF_congr (fun j h1 h2 h3 => upd_ne (by omega)) (h.2.2.2 q)⟩
  rw [upd_ne (j := 0 + j) (by omega)]
  by_cases q : c + j = x.toNatClampNeg
  · rw [q, upd_at, ev, show k.toNatClampNeg = 0 + j by omega]
  · rw [upd_ne q]; exact h.1 j (by omega)
theorem IMG_e {c : Nat} {k : Int32} {f : Nat → Int32} (h : IMG c k f) (hc : c = 1025 ∨ c = 2050) (hk : ¬ k < 1025) : RW f := by
  rw [Int32.lt_iff_toInt_lt, (by decide : (1025 : Int32).toInt = 1025)] at hk
  have w : WF f c := WF_sh (fun j hj => h.1 j (by omega)) h.2.1
  refine ⟨h.2.1, ?_, ?_⟩
  · by_cases q : c = 1025
    · rw [← q]; exact w
    · exact h.2.2.1 q
  · by_cases q : c = 2050
    · rw [← q]; exact w
    · exact h.2.2.2 q
def RST (c : Nat) (k : Int32) (f : Nat → Int32) : Prop := (∀ j : Nat, (j : Int) < k.toInt → f (0 + j) = f (c + j)) ∧ WF f 1025 ∧ WF f 2050
theorem RST_0 {c : Nat} {k : Int32} {f : Nat → Int32} (h : RW f) (hk : k.toInt = 0) : RST c k f := ⟨fun j hj => by omega, h.2.1, h.2.2⟩
theorem RST_s {c : Nat} {k k' y v : Int32} {f g : Nat → Int32} {a b : Int} (h : RST c k f) (hc : c = 1025 ∨ c = 2050) (hk : iv a b k) (hab : 0 ≤ a ∧ b ≤ 1024) (hy : y.toInt = (c : Int) + k.toInt) (ev : v = f y.toNatClampNeg) (e : g = upd f k.toNatClampNeg v) (ek : k' = k + 1) : RST c k' g := by
  have h0 := hk.1
  have h1 := hk.2
  have e' := inc_toInt ek hk ⟨by omega, by omega⟩
  have kk := clampNat (x := k) (by omega)
  have ky := clampNat (x := y) (by omega)
  subst e
  refine ⟨fun j hj => ?_, WF_congr (fun j h1 h2 h3 => upd_ne (by omega)) h.2.1, WF_congr (fun j h1 h2 h3 => upd_ne (by omega)) h.2.2⟩
  rw [upd_ne (j := c + j) (by omega)]
  by_cases q : 0 + j = k.toNatClampNeg
  · rw [q, upd_at, ev, show y.toNatClampNeg = c + j by omega]
  · rw [upd_ne q]; exact h.1 j (by omega)
theorem RST_e {c : Nat} {k : Int32} {f : Nat → Int32} (h : RST c k f) (hc : c = 1025 ∨ c = 2050) (hk : ¬ k < 1025) : RW f := by
  rw [Int32.lt_iff_toInt_lt, (by decide : (1025 : Int32).toInt = 1025)] at hk
  refine ⟨?_, h.2.1, h.2.2⟩
  have e : ∀ j, j < 1025 → f (0 + j) = f (c + j) := fun j hj => h.1 j (by omega)
  rcases hc with q | q
  · rw [q] at e; exact WF_sh e h.2.1
  · rw [q] at e; exact WF_sh e h.2.2

theorem lrem_toInt {x y r : Int64} (e : r = x - x / y * y) (hy : ¬ y = 0) : r.toInt = x.toInt.tmod y.toInt := by
  have y0 : y.toInt ≠ 0 := fun q => hy (Int64.toInt_inj.mp (q.trans (by decide)))
  have hd : x.toInt.tmod y.toInt = x.toInt - x.toInt.tdiv y.toInt * y.toInt := by
    have := Int.tmod_add_tdiv_mul x.toInt y.toInt
    omega
  have b1 : (x.toInt.tmod y.toInt).natAbs ≤ x.toInt.natAbs := by rw [Int.natAbs_tmod]; exact Nat.mod_le _ _
  have x1 := Int64.le_toInt x
  have x2 := Int64.toInt_lt x
  rw [e, Int64.toInt_sub, Int64.toInt_mul, Int64.toInt_div, Int.bmod_mul_bmod, Int.sub_bmod_bmod, ← hd]
  apply ivL_bm
  · rcases Int.natAbs_eq (x.toInt.tmod y.toInt) with q | q
    · omega
    · omega
  · rcases Int.natAbs_eq (x.toInt.tmod y.toInt) with q | q
    · by_cases z : x.toInt ≤ 0
      · have : x.toInt.tmod y.toInt ≤ 0 := by
          have := Int.tmod_nonneg (a := -x.toInt) y.toInt (by omega)
          rw [Int.neg_tmod] at this; omega
        omega
      · omega
    · omega
theorem abs_tmod {a b : Int} (hb : b ≠ 0) : (a.tmod b).natAbs < b.natAbs := by
  rw [Int.natAbs_tmod]; exact Nat.mod_lt _ (Int.natAbs_pos.mpr hb)
theorem abs_half {a b : Int} (hb : b ≠ 0) (h : b.natAbs < a.natAbs) : 2 * (a.tmod b).natAbs < a.natAbs := by
  rw [Int.natAbs_tmod]
  have h0 : 0 < b.natAbs := Int.natAbs_pos.mpr hb
  have h1 := Nat.mod_lt a.natAbs h0
  have h2 := Nat.div_add_mod a.natAbs b.natAbs
  have h3 : 1 ≤ a.natAbs / b.natAbs := (Nat.le_div_iff_mul_le h0).mpr (by omega)
  have h4 : b.natAbs * 1 ≤ b.natAbs * (a.natAbs / b.natAbs) := Nat.mul_le_mul_left _ h3
  omega
theorem com_C {a b r : Int64} (e : r = a - a / b * b) (hb : ¬ b = 0) : r.toInt.natAbs < b.toInt.natAbs := by
  rw [lrem_toInt e hb]; exact abs_tmod (fun q => hb (Int64.toInt_inj.mp (q.trans (by decide))))
theorem com_D {a b r : Int64} {M K : Int} (e : r = a - a / b * b) (hb : ¬ b = 0) (ha : ivL (-M) M a) (h : b.toInt.natAbs < a.toInt.natAbs) (hM : M ≤ 2 * K + 1) : ivL (-K) K r := by
  have q := abs_half (a := a.toInt) (fun q => hb (Int64.toInt_inj.mp (q.trans (by decide)))) h
  rw [← lrem_toInt e hb] at q
  unfold ivL at *; omega

def RR (rm : Nat → Int32) : Prop := ∀ j : Nat, j < 10 → 0 ≤ (rm j).toInt
def RRk (k : Int32) (rm : Nat → Int32) : Prop := ∀ j : Nat, (j : Int) < k.toInt → 0 ≤ (rm j).toInt
theorem RRk_0 {k : Int32} {rm : Nat → Int32} (h : k.toInt = 0) : RRk k rm := fun j hj => by omega
theorem RRk_s {k k' : Int32} {rm rm' : Nat → Int32} {a b : Int} (h : RRk k rm) (hk : iv a b k) (hab : 0 ≤ a ∧ b < 2147483647) (e : rm' = upd rm k.toNatClampNeg 0) (ek : k' = k + 1) : RRk k' rm' := fun j hj => by
  have e' := inc_toInt ek hk ⟨by omega, hab.2⟩
  have := hk.1
  have kk := clampNat (x := k) (by omega)
  rw [e]
  by_cases q : j = k.toNatClampNeg
  · subst q; rw [upd_at]; decide
  · rw [upd_ne q]; exact h j (by omega)
theorem RR_of {k : Int32} {rm : Nat → Int32} (h : RRk k rm) (hk : ¬ k < 100) : RR rm := fun j hj => by
  rw [Int32.lt_iff_toInt_lt, (by decide : (100 : Int32).toInt = 100)] at hk
  exact h j (by omega)
theorem RR_p {x v : Int32} {rm rm' : Nat → Int32} {c d : Int} (h : RR rm) (hv : iv c d v) (h0 : 0 ≤ c) (e : rm' = upd rm x.toNatClampNeg v) : RR rm' := fun j hj => by
  rw [e]
  by_cases q : j = x.toNatClampNeg
  · subst q; rw [upd_at]; have := hv.1; omega
  · rw [upd_ne q]; exact h j hj
theorem RR_o {x v : Int32} {rm rm' : Nat → Int32} {a b : Int} (h : RR rm) (hx : iv a b x) (ha : 10 ≤ a) (e : rm' = upd rm x.toNatClampNeg v) : RR rm' := fun j hj => by
  have := hx.1
  have k := clampNat (x := x) (by omega)
  rw [e, upd_ne (by omega)]; exact h j hj
/-- the tree of what is come to -/
def IT (n : Int32) (cb q rm : Nat → Int32) (rk : Nat → Nat) : Prop := (∀ v : Nat, v < 10 → 0 ≤ (cb v).toInt → v ≠ 0 → rk (cb v).toNatClampNeg < rk v ∧ (cb v).toNatClampNeg < 10 ∧ 0 ≤ (cb (cb v).toNatClampNeg).toInt ∧ rm (10 * (cb v).toNatClampNeg + v) ≠ 0) ∧ (∀ v : Nat, v < 10 → 0 ≤ (cb v).toInt → (rk v : Int) < n.toInt) ∧ (∀ p : Nat, (p : Int) < n.toInt → (q p).toNatClampNeg < 10 ∧ 0 ≤ (cb (q p).toNatClampNeg).toInt) ∧ 0 ≤ (cb 0).toInt
def IC (n : Int32) (cb q rm : Nat → Int32) : Prop := ∃ rk : Nat → Nat, IT n cb q rm rk
theorem IC_0 {n : Int32} {cb cb' q q' rm : Nat → Int32} {i : Int32} (h : ∀ j : Nat, (j : Int) < i.toInt → cb j = -1) (hi : ¬ i < 10) (ec : cb' = upd cb (0 : Int32).toNatClampNeg 0) (eq : q' = upd q (0 : Int32).toNatClampNeg 0) (hn : n.toInt = 1) : IC n cb' q' rm := by
  rw [Int32.lt_iff_toInt_lt, (by decide : (10 : Int32).toInt = 10)] at hi
  rw [(by decide : (0 : Int32).toNatClampNeg = 0)] at ec eq
  have z : (0 : Int32).toInt = 0 := by decide
  have c0 : cb' 0 = 0 := by rw [ec, upd_at]
  have cv : ∀ v : Nat, v < 10 → v ≠ 0 → cb' v = -1 := fun v hv h0 => by rw [ec, upd_ne h0]; exact h v (by omega)
  refine ⟨fun _ => 0, fun v hv h0 h1 => ?_, fun v hv h0 => by show ((0 : Nat) : Int) < n.toInt; omega, fun p hp => ?_, by rw [c0]; decide⟩
  · rw [cv v hv h1] at h0; exact absurd h0 (by decide)
  · have : p = 0 := by omega
    subst this
    rw [eq, upd_at, (by decide : (0 : Int32).toNatClampNeg = 0), c0]
    exact ⟨by decide, by decide⟩
theorem IC_s {n n' t u k : Int32} {cb cb' q q' rm : Nat → Int32} {a b c d e f : Int} (h : IC n cb q rm) (hn : iv a b n) (ha : 0 ≤ a) (en : n'.toInt = n.toInt + 1) (ht : iv c d t) (hcd : 0 ≤ c ∧ d ≤ 9) (hk : iv e f k) (hef : 0 ≤ e) (hkn : k < n) (eu : u = q k.toNatClampNeg) (hu : iv 0 9 u) (hx : cb t.toNatClampNeg = -1) (hr : ¬ rm (10 * u.toNatClampNeg + t.toNatClampNeg) = 0) (ec : cb' = upd cb t.toNatClampNeg u) (eq : q' = upd q n.toNatClampNeg t) : IC n' cb' q' rm := by
  obtain ⟨rk, h1, h2, h3, h4⟩ := h
  rw [Int32.lt_iff_toInt_lt] at hkn
  have n0 := hn.1
  have t0 := ht.1
  have t1 := ht.2
  have k0 := hk.1
  have u0 := hu.1
  have u1 := hu.2
  have kn := clampNat (x := n) (by omega)
  have kt := clampNat (x := t) (by omega)
  have kk := clampNat (x := k) (by omega)
  have ku := clampNat (x := u) (by omega)
  have m1 : (-1 : Int32).toInt = -1 := by decide
  have hq := h3 k.toNatClampNeg (by omega)
  rw [← eu] at hq
  have ut : u.toNatClampNeg ≠ t.toNatClampNeg := fun z => by have := hq.2; rw [z, hx, m1] at this; omega
  have ct : cb' t.toNatClampNeg = u := by rw [ec, upd_at]
  have co : ∀ v, v ≠ t.toNatClampNeg → cb' v = cb v := fun v hv => by rw [ec, upd_ne hv]
  refine ⟨fun v => if v = t.toNatClampNeg then n.toNatClampNeg else rk v, fun v hv h0 hv0 => ?_, fun v hv h0 => ?_, fun p hp => ?_, ?_⟩
  · by_cases z : v = t.toNatClampNeg
    · subst z
      rw [ct] at h0 ⊢
      simp only [if_true, if_neg ut]
      have := h2 u.toNatClampNeg (by omega) hq.2
      exact ⟨by omega, by omega, by rw [co _ ut]; exact hq.2, hr⟩
    · rw [co v z] at h0 ⊢
      have g := h1 v hv h0 hv0
      have w : (cb v).toNatClampNeg ≠ t.toNatClampNeg := fun y => by have := g.2.2.1; rw [y, hx, m1] at this; omega
      simp only [if_neg z, if_neg w]
      exact ⟨g.1, g.2.1, by rw [co _ w]; exact g.2.2.1, g.2.2.2⟩
  · by_cases z : v = t.toNatClampNeg
    · simp only [if_pos z]; omega
    · simp only [if_neg z]; rw [co v z] at h0; have := h2 v hv h0; omega
  · by_cases z : p = n.toNatClampNeg
    · rw [eq, z, upd_at]; exact ⟨by omega, by rw [ct]; omega⟩
    · rw [eq, upd_ne z]
      have g := h3 p (by omega)
      refine ⟨g.1, ?_⟩
      by_cases y : (q p).toNatClampNeg = t.toNatClampNeg
      · rw [y, ct]; omega
      · rw [co _ y]; exact g.2
  · by_cases z : (0 : Nat) = t.toNatClampNeg
    · rw [z, ct]; omega
    · rw [co 0 z]; exact h4
theorem FN_1i {n : Int32} {cb cb' : Nat → Int32} {i : Int32} (h : ∀ j : Nat, (j : Int) < i.toInt → cb j = -1) (hi : ¬ i < 10) (ec : cb' = upd cb (0 : Int32).toNatClampNeg 0) (hn : n.toInt = 1) : FN n cb' 10 10 := by
  rw [Int32.lt_iff_toInt_lt, (by decide : (10 : Int32).toInt = 10)] at hi
  rw [(by decide : (0 : Int32).toNatClampNeg = 0)] at ec
  unfold FN
  have := nn_in (f := cb) (v := 0) (p := 0) (k := 10) (by decide) (by decide) (h 0 (by omega))
  have := nn_le cb 10
  rw [ec]; omega
/-- a tree of parents, by which one comes -/
def IC1 (cb rm : Nat → Int32) (rk : Nat → Nat) : Prop := ∀ v : Nat, v < 10 → 0 ≤ (cb v).toInt → v ≠ 0 → rk (cb v).toNatClampNeg < rk v ∧ (cb v).toNatClampNeg < 10 ∧ 0 ≤ (cb (cb v).toNatClampNeg).toInt ∧ rm (10 * (cb v).toNatClampNeg + v) ≠ 0
theorem IC1_of {n : Int32} {cb q rm : Nat → Int32} (h : IC n cb q rm) : ∃ rk, IC1 cb rm rk := by
  obtain ⟨rk, h1, _⟩ := h
  exact ⟨rk, h1⟩
/-- on the way back: the first row is as it was, or at the end fell by one -/
def WI (k : Int32) (rm rm0 : Nat → Int32) : Prop := (k ≠ 0 ∧ ∀ j : Nat, j < 10 → rm j = rm0 j) ∨ (k = 0 ∧ RR rm ∧ sm rm 10 < sm rm0 10)
theorem WI_0 {k : Int32} {rm : Nat → Int32} (h : k ≠ 0) : WI k rm rm := Or.inl ⟨h, fun _ _ => rfl⟩
theorem WI_e {k : Int32} {rm rm0 : Nat → Int32} (h : WI k rm rm0) (hk : k = 0) : RR rm ∧ sm rm 10 < sm rm0 10 := by
  rcases h with ⟨q, _⟩ | ⟨_, q⟩
  · exact absurd hk q
  · exact q
theorem sm_cg {f g : Nat → Int32} {k : Nat} (h : ∀ j, j < k → f j = g j) : sm f k = sm g k := by
  induction k with
  | zero => rfl
  | succ k ih => simp only [sm]; rw [ih (fun j hj => h j (by omega)), h k (by omega)]
theorem WI_s {k p x1 y1 v1 w1 x2 y2 w2 : Int32} {cb rm0 rm f1 f2 : Nat → Int32} {rk : Nat → Nat} (h : WI k rm rm0) (r0 : RR rm0) (hk : iv 1 9 k) (ic : IC1 cb rm0 rk) (hc : 0 ≤ (cb k.toNatClampNeg).toInt) (ep : p = cb k.toNatClampNeg) (hp : iv 0 9 p) (ex1 : x1 = 10 * p) (ey1 : y1 = x1 + k) (ev1 : v1 = rm y1.toNatClampNeg) (ew1 : w1 = v1 - 1) (e1 : f1 = upd rm y1.toNatClampNeg w1) (ex2 : x2 = 10 * k) (ey2 : y2 = x2 + p) (e2 : f2 = upd f1 y2.toNatClampNeg w2) : WI p f2 rm0 := by
  have k0 := hk.1
  have k1 := hk.2
  have p0 := hp.1
  have p1 := hp.2
  have kk := clampNat (x := k) (by omega)
  have kp := clampNat (x := p) (by omega)
  have z10 : (10 : Int32).toInt = 10 := by decide
  have qx1 := toInt_mulC (k := 10) ex1 hp (by decide) (by decide)
  have qy1 := toInt_add ey1 (a := 0) (b := 90) ⟨by omega, by omega⟩ hk (by decide)
  have qx2 := toInt_mulC (k := 10) ex2 hk (by decide) (by decide)
  have qy2 := toInt_add ey2 (a := 10) (b := 90) ⟨by omega, by omega⟩ hp (by decide)
  have ky1 := clampNat (x := y1) (by omega)
  have ky2 := clampNat (x := y2) (by omega)
  have kne : k ≠ 0 := fun q => by rw [q, (by decide : (0 : Int32).toInt = 0)] at k0; omega
  rcases h with ⟨_, h⟩ | ⟨q, _⟩
  · have o2 : ∀ j : Nat, j < 10 → f2 j = f1 j := fun j hj => by rw [e2, upd_ne (by omega)]
    by_cases z : p = 0
    · right
      have pz : p.toInt = 0 := by rw [z]; decide
      have ic' := (ic k.toNatClampNeg (by omega) hc (by omega)).2.2.2
      rw [← ep] at ic'
      have iy : y1.toNatClampNeg = k.toNatClampNeg := by omega
      have ir : 10 * p.toNatClampNeg + k.toNatClampNeg = k.toNatClampNeg := by omega
      rw [ir, ← h k.toNatClampNeg (by omega), ← iy, ← ev1] at ic'
      have v0 := r0 k.toNatClampNeg (by omega)
      rw [← h k.toNatClampNeg (by omega), ← iy, ← ev1] at v0
      have vn : v1.toInt ≠ 0 := fun q => ic' (Int32.toInt_inj.mp (q.trans (by decide)))
      have vl := Int32.toInt_lt v1
      have ww : w1.toInt = v1.toInt - 1 := by rw [ew1, Int32.toInt_sub, (by decide : (1 : Int32).toInt = 1), iv_bm (by omega) (by omega)]
      have kv := clampNat (x := v1) (by omega)
      have kw := clampNat (x := w1) (by omega)
      refine ⟨z, fun j hj => ?_, ?_⟩
      · rw [o2 j hj, e1]
        by_cases q : j = y1.toNatClampNeg
        · rw [q, upd_at]; omega
        · rw [upd_ne q, h j hj]; exact r0 j hj
      · rw [sm_cg o2, ← sm_cg h, e1]
        have g := sm_in (f := rm) (v := w1) (p := y1.toNatClampNeg) (k := 10) (by omega)
        rw [← ev1] at g
        omega
    · left
      have pn : p.toInt ≠ 0 := fun q => z (Int32.toInt_inj.mp (q.trans (by decide)))
      exact ⟨z, fun j hj => by rw [o2 j hj, e1, upd_ne (by omega)]; exact h j hj⟩
  · exact absurd q kne

def isF (num : Nat → Int64) (tray h i t : Int32) : Int32 := if t = -1 then 0 else if num (40 * tray + i).toNatClampNeg = -1 then 1 else if num (40 * tray + i).toNatClampNeg = (stF t h).toInt64 then 1 else 0
theorem isF_a {num : Nat → Int64} {tray h i t : Int32} (e : t = -1) : 0 = isF num tray h i t := by unfold isF; rw [if_pos e]
theorem isF_b {num : Nat → Int64} {tray h i t x y : Int32} {v : Int64} (e : ¬ t = -1) (ex : x = 40 * tray) (ey : y = x + i) (ev : v = num y.toNatClampNeg) (q : v = -1) : 1 = isF num tray h i t := by
  unfold isF; rw [if_neg e, ← ex, ← ey, ← ev, if_pos q]
theorem isF_c {num : Nat → Int64} {tray h i t x y r : Int32} {v j : Int64} (e : ¬ t = -1) (ex : x = 40 * tray) (ey : y = x + i) (ev : v = num y.toNatClampNeg) (q : ¬ v = -1) (er : r = stF t h) (ej : j = r.toInt64) (q2 : v = j) : 1 = isF num tray h i t := by
  unfold isF; rw [if_neg e, ← ex, ← ey, ← ev, if_neg q, ← er, ← ej, if_pos q2]
theorem isF_d {num : Nat → Int64} {tray h i t x y r : Int32} {v j : Int64} (e : ¬ t = -1) (ex : x = 40 * tray) (ey : y = x + i) (ev : v = num y.toNatClampNeg) (q : ¬ v = -1) (er : r = stF t h) (ej : j = r.toInt64) (q2 : ¬ v = j) : 0 = isF num tray h i t := by
  unfold isF; rw [if_neg e, ← ex, ← ey, ← ev, if_neg q, ← er, ← ej, if_neg q2]
/-- a deed that goes on -/
def CD (on num : Nat → Int64) (th : Nat → Int32) (tray h i : Int32) (s d : Nat) : Prop := isF num tray h i (th (4 * s + d)) = 1 ∧ on (10000 * (i.toNatClampNeg + 1) + (th (4 * s + d)).toNatClampNeg) ≠ 0
def RP (on num : Nat → Int64) (th : Nat → Int32) (tray h i : Int32) (s : Nat) : Prop := on (10000 * i.toNatClampNeg + s) ≠ 0 → ∃ d : Nat, d < 4 ∧ CD on num th tray h i s d
def HR (m : Int32) (n : Int) (st th : Nat → Int32) (on num : Nat → Int64) (tray h i : Int32) : Prop := ∀ i' : Int32, i.toInt < i'.toInt → 0 ≤ i'.toInt → i'.toInt < n → ∀ k : Nat, (k : Int) < m.toInt → RP on num th tray h i' (st k).toNatClampNeg
def HK (st th : Nat → Int32) (on num : Nat → Int64) (tray h i k : Int32) : Prop := ∀ j : Nat, (j : Int) < k.toInt → RP on num th tray h i (st j).toNatClampNeg
def HD (st th : Nat → Int32) (on num : Nat → Int64) (tray h i k d : Int32) (sum : Int64) : Prop := ¬ sum = 0 → ∃ j : Nat, (j : Int) < d.toInt ∧ j < 4 ∧ CD on num th tray h i (st k.toNatClampNeg).toNatClampNeg j
theorem HR_0 {m i n : Int32} {st th : Nat → Int32} {on num : Nat → Int64} {tray h : Int32} {a b : Int} (e : i = n - 1) (hn : iv a b n) (hab : 0 ≤ a ∧ b ≤ 100000) {N : Int} (hN : N = n.toInt) : HR m N st th on num tray h i := fun i' h1 h2 h3 => by
  have := isub_toInt2 e hn hab
  omega
theorem HK_0 {i k : Int32} {st th : Nat → Int32} {on num : Nat → Int64} {tray h : Int32} (hk : k.toInt = 0) : HK st th on num tray h i k := fun j hj => by omega
theorem HD_0 {i k d : Int32} {st th : Nat → Int32} {on num : Nat → Int64} {tray h : Int32} : HD st th on num tray h i k d 0 := fun q => absurd rfl q
theorem HD_m {i k d d' : Int32} {st th : Nat → Int32} {on num : Nat → Int64} {tray h : Int32} {sum : Int64} {a b : Int} (g : HD st th on num tray h i k d sum) (hd : iv a b d) (hab : 0 ≤ a ∧ b < 2147483647) (ed : d' = d + 1) : HD st th on num tray h i k d' sum := fun q => by
  obtain ⟨j, h1, h2⟩ := g q
  have := inc_toInt ed hd ⟨by omega, hab.2⟩
  exact ⟨j, by omega, h2⟩
theorem HD_s {i k d d' sk x4 ix t r i1 m ix2 : Int32} {st th : Nat → Int32} {on num : Nat → Int64} {tray h : Int32} {sum v sum' : Int64} (g : HD st th on num tray h i k d sum) (hd : iv 0 3 d) (hi : iv 0 7 i) (ed : d' = d + 1) (es : sk = st k.toNatClampNeg) (hs : iv 0 9999 sk) (ex4 : x4 = 4 * sk) (eix : ix = x4 + d) (et : t = th ix.toNatClampNeg) (ht : iv 0 9999 t) (er : r = isF num tray h i t) (hr : iv 1 1 r) (e1 : i1 = i + 1) (em : m = 10000 * i1) (e2 : ix2 = m + t) (ev : v = on ix2.toNatClampNeg) (es' : sum' = sum + v) : HD st th on num tray h i k d' sum' := fun q => by
  have qd := inc_toInt ed hd (by decide)
  have hd0 := hd.1
  have hd1 := hd.2
  have kd := clampNat (x := d) (by omega)
  by_cases z : v = 0
  · have : sum' = sum := by rw [es', z]; exact Int64.add_zero _
    rw [this] at q
    obtain ⟨j, h1, h2⟩ := g q
    exact ⟨j, by omega, h2⟩
  · refine ⟨d.toNatClampNeg, by omega, by omega, ?_⟩
    have e := ix4c hs hd ⟨by decide, by decide⟩ ex4 eix
    unfold CD
    rw [← es, ← e, ← et, ← er]
    have q1 := inc_toInt e1 hi (by decide)
    have hi0 := hi.1
    have hi1 := hi.2
    have qm := toInt_mulC (k := 10000) em (a := 1) (b := 8) ⟨by omega, by omega⟩ (by decide) (by decide)
    have q2 := toInt_add e2 (a := 10000) (b := 80000) ⟨by omega, by omega⟩ ht (by decide)
    have ht0 := ht.1
    have k1 := clampNat (x := i) (by omega)
    have k2 := clampNat (x := t) (by omega)
    have k3 := clampNat (x := ix2) (by omega)
    refine ⟨iv_eqp hr (iv_c (1 : Int32) (by decide)), ?_⟩
    rw [show 10000 * (i.toNatClampNeg + 1) + t.toNatClampNeg = ix2.toNatClampNeg by omega, ← ev]
    exact z
/-- a row of what is high is written -/
theorem CD_up {on num : Nat → Int64} {th : Nat → Int32} {tray h i : Int32} {s d p : Nat} {v : Int64} (g : CD on num th tray h i s d) (hp : p < 10000 * (i.toNatClampNeg + 1)) : CD (vp_updL on p v) num th tray h i s d := ⟨g.1, by rw [updL_ne (by omega)]; exact g.2⟩
theorem HR_up {m i : Int32} {n : Int} {st th : Nat → Int32} {on on' num : Nat → Int64} {tray h : Int32} {p : Nat} {v : Int64} (g : HR m n st th on num tray h i) (hi : 0 ≤ i.toInt) (e : on' = vp_updL on p v) (hp : p < 10000 * (i.toNatClampNeg + 1)) : HR m n st th on' num tray h i := fun i' h1 h2 h3 k hk q => by
  have k1 := clampNat hi
  have k2 := clampNat h2
  rw [e, updL_ne (by omega)] at q
  obtain ⟨d, hd, c⟩ := g i' h1 h2 h3 k hk q
  exact ⟨d, hd, by rw [e]; exact CD_up c (by omega)⟩
theorem HK_s {i k k' d sk m ix : Int32} {st th : Nat → Int32} {on on' num : Nat → Int64} {tray h : Int32} {sum : Int64} {a b : Int} (g : HK st th on num tray h i k) (f : HD st th on num tray h i k d sum) (hk : iv a b k) (hab : 0 ≤ a ∧ b < 2147483647) (ek : k' = k + 1) (ts : ∀ j, iv 0 9999 (st j)) (hi : iv 0 7 i) (es : sk = st k.toNatClampNeg) (em : m = 10000 * i) (eix : ix = m + sk) (e : on' = vp_updL on ix.toNatClampNeg sum) : HK st th on' num tray h i k' ∧ ix.toNatClampNeg < 10000 * (i.toNatClampNeg + 1) := by
  have qk := inc_toInt ek hk ⟨by omega, hab.2⟩
  have hk0 := hk.1
  have kk := clampNat (x := k) (by omega)
  have hi0 := hi.1
  have hi1 := hi.2
  have hs := ts k.toNatClampNeg
  rw [← es] at hs
  have hs0 := hs.1
  have hs1 := hs.2
  have qm := toInt_mulC (k := 10000) em hi (by decide) (by decide)
  have qi := toInt_add eix (a := 0) (b := 70000) ⟨by omega, by omega⟩ hs (by decide)
  have k1 := clampNat (x := i) (by omega)
  have k2 := clampNat (x := sk) (by omega)
  have k3 := clampNat (x := ix) (by omega)
  refine ⟨fun j hj q => ?_, by omega⟩
  have tj := ts j
  have tj0 := tj.1
  have tj1 := tj.2
  have kj := clampNat (x := st j) (by omega)
  by_cases z : (st j).toNatClampNeg = sk.toNatClampNeg
  · have y : 10000 * i.toNatClampNeg + (st j).toNatClampNeg = ix.toNatClampNeg := by omega
    rw [y, e, updL_at] at q
    obtain ⟨d, h1, h2, c⟩ := f q
    rw [← es] at c
    exact ⟨d, h2, by rw [e, z]; exact CD_up c (by omega)⟩
  · rw [e, updL_ne (by omega)] at q
    have w : (j : Int) < k.toInt := by
      rcases Int.lt_trichotomy (j : Int) k.toInt with w | w | w
      · exact w
      · exfalso; apply z; rw [es, show j = k.toNatClampNeg by omega]
      · omega
    obtain ⟨d, hd, c⟩ := g j w q
    exact ⟨d, hd, by rw [e]; exact CD_up c (by omega)⟩
theorem HR_s {m i i' k : Int32} {n : Int} {st th : Nat → Int32} {on num : Nat → Int64} {tray h : Int32} {a b : Int} (g : HR m n st th on num tray h i) (f : HK st th on num tray h i k) (hk : ¬ k < m) (hi : iv a b i) (hab : 0 ≤ a ∧ b ≤ 100000) (ei : i' = i + -1) : HR m n st th on num tray h i' := fun j h1 h2 h3 q hq => by
  rw [Int32.lt_iff_toInt_lt] at hk
  have e : i'.toInt = i.toInt + -1 := toInt_add ei hi (iv_c (-1 : Int32) (a := -1) (b := -1) (by decide)) (by omega)
  by_cases z : j = i
  · subst z; exact f q (by omega)
  · have : j.toInt ≠ i.toInt := fun w => z (Int32.toInt_inj.mp w)
    exact g j (by omega) h2 h3 q hq
def HA (m : Int32) (n : Int) (st th : Nat → Int32) (on num : Nat → Int64) (tray h : Int32) : Prop := ∀ i : Int32, 0 ≤ i.toInt → i.toInt < n → ∀ k : Nat, (k : Int) < m.toInt → RP on num th tray h i (st k).toNatClampNeg
theorem HA_of {m i : Int32} {n : Int} {st th : Nat → Int32} {on num : Nat → Int64} {tray h : Int32} (g : HR m n st th on num tray h i) (hi : i < 0) : HA m n st th on num tray h := fun j h1 h2 k hk => by
  rw [Int32.lt_iff_toInt_lt, (by decide : (0 : Int32).toInt = 0)] at hi
  exact g j (by omega) h1 h2 k hk
def WH (on num : Nat → Int64) (th : Nat → Int32) (tray h i d : Int32) (s : Nat) : Prop := ∃ j : Nat, d.toInt ≤ (j : Int) ∧ j < 4 ∧ CD on num th tray h i s j
theorem WH_0 {m i s : Int32} {n : Int} {st th : Nat → Int32} {on num : Nat → Int64} {tray h : Int32} (g : HA m n st th on num tray h) (h0 : 0 ≤ i.toInt) (h1 : i.toInt < n) (hs : inS m st s.toNatClampNeg) (ho : on (10000 * i.toNatClampNeg + s.toNatClampNeg) ≠ 0) : WH on num th tray h i 0 s.toNatClampNeg := by
  obtain ⟨k, hk, e⟩ := hs
  have q := g i h0 h1 k hk
  rw [e] at q
  obtain ⟨d, hd, c⟩ := q ho
  exact ⟨d, by rw [(by decide : (0 : Int32).toInt = 0)]; omega, hd, c⟩
theorem WH_b {on num : Nat → Int64} {th : Nat → Int32} {tray h i d s : Int32} {a b : Int} (g : WH on num th tray h i d s.toNatClampNeg) (hd : iv a b d) (ha : 0 ≤ a) (ne : ¬ CD on num th tray h i s.toNatClampNeg d.toNatClampNeg) : iv 0 2 d := by
  obtain ⟨j, h1, h2, c⟩ := g
  have := hd.1
  have kd := clampNat (x := d) (by omega)
  have : j ≠ d.toNatClampNeg := fun q => ne (q ▸ c)
  unfold iv; omega
theorem WH_s {on num : Nat → Int64} {th : Nat → Int32} {tray h i d d' s : Int32} {a b : Int} (g : WH on num th tray h i d s.toNatClampNeg) (hd : iv a b d) (hab : 0 ≤ a ∧ b < 2147483647) (ed : d' = d + 1) (ne : ¬ CD on num th tray h i s.toNatClampNeg d.toNatClampNeg) : WH on num th tray h i d' s.toNatClampNeg := by
  obtain ⟨j, h1, h2, c⟩ := g
  have e := inc_toInt ed hd ⟨by omega, hab.2⟩
  have := hd.1
  have kd := clampNat (x := d) (by omega)
  have : j ≠ d.toNatClampNeg := fun q => ne (q ▸ c)
  exact ⟨j, by omega, h2, c⟩
theorem nCD_a {on num : Nat → Int64} {th : Nat → Int32} {tray h i d s x4 ix t r : Int32} {N M : Int} (hs : iv 0 N s) (hd : iv 0 M d) (hN : N ≤ 100000 ∧ M ≤ 100000) (ex4 : x4 = 4 * s) (eix : ix = x4 + d) (et : t = th ix.toNatClampNeg) (er : r = isF num tray h i t) (hr : iv 0 0 r) : ¬ CD on num th tray h i s.toNatClampNeg d.toNatClampNeg := fun c => by
  have e := ix4c hs hd hN ex4 eix
  have q := c.1
  rw [← e, ← et, ← er] at q
  rw [q] at hr; exact absurd hr.2 (by decide)
theorem CDix {on : Nat → Int64} {i t i1 m ix2 : Int32} {v : Int64} (hi : iv 0 7 i) (ht : iv 0 9999 t) (e1 : i1 = i + 1) (em : m = 10000 * i1) (e2 : ix2 = m + t) (ev : v = on ix2.toNatClampNeg) : v = on (10000 * (i.toNatClampNeg + 1) + t.toNatClampNeg) := by
  have q1 := inc_toInt e1 hi (by decide)
  have hi0 := hi.1
  have hi1 := hi.2
  have qm := toInt_mulC (k := 10000) em (a := 1) (b := 8) ⟨by omega, by omega⟩ (by decide) (by decide)
  have q2 := toInt_add e2 (a := 10000) (b := 80000) ⟨by omega, by omega⟩ ht (by decide)
  have ht0 := ht.1
  have k1 := clampNat (x := i) (by omega)
  have k2 := clampNat (x := t) (by omega)
  have k3 := clampNat (x := ix2) (by omega)
  rw [show 10000 * (i.toNatClampNeg + 1) + t.toNatClampNeg = ix2.toNatClampNeg by omega]; exact ev
theorem nCD_b {on num : Nat → Int64} {th : Nat → Int32} {tray h i d s x4 ix t i1 m ix2 : Int32} {v : Int64} {N M : Int} (hs : iv 0 N s) (hd : iv 0 M d) (hN : N ≤ 100000 ∧ M ≤ 100000) (ex4 : x4 = 4 * s) (eix : ix = x4 + d) (et : t = th ix.toNatClampNeg) (hi : iv 0 7 i) (ht : iv 0 9999 t) (e1 : i1 = i + 1) (em : m = 10000 * i1) (e2 : ix2 = m + t) (ev : v = on ix2.toNatClampNeg) (hv : v = 0) : ¬ CD on num th tray h i s.toNatClampNeg d.toNatClampNeg := fun c => by
  have e := ix4c hs hd hN ex4 eix
  have q := c.2
  rw [← e, ← et, ← CDix hi ht e1 em e2 ev] at q
  exact q hv
theorem hb_to {m d s x4 ix t : Int32} {st th : Nat → Int32} {N M : Int} (sl : SL m st th) (hs' : inS m st s.toNatClampNeg) (hs : iv 0 N s) (hd : iv 0 M d) (hN : N ≤ 100000 ∧ M ≤ 3) (ex4 : x4 = 4 * s) (eix : ix = x4 + d) (et : t = th ix.toNatClampNeg) (ht : 0 ≤ t.toInt) : inS m st t.toNatClampNeg := by
  have e := ix4c hs hd ⟨hN.1, by omega⟩ ex4 eix
  have d0 := hd.1
  have d1 := hd.2
  have kd := clampNat (x := d) (by omega)
  obtain ⟨k, hk, z⟩ := hs'
  have q := sl k d.toNatClampNeg hk (by omega)
  rw [z, ← e, ← et] at q
  rcases q with q | q
  · rw [q, (by decide : (-1 : Int32).toInt = -1)] at ht; omega
  · exact q

def seF (f : Nat → Int32) (k n : Int32) : Int32 := if k < n then f k.toNatClampNeg else -1
theorem seF_a {f : Nat → Int32} {k n r : Int32} (h : k < n) (e : r = f k.toNatClampNeg) : r = seF f k n := by unfold seF; rw [if_pos h, e]
theorem seF_b {f : Nat → Int32} {k n : Int32} (h : ¬ k < n) : -1 = seF f k n := by unfold seF; rw [if_neg h]
def PT (at' be size kind : Int32) : Prop := at'.toInt ≤ be.toInt ∧ be.toInt ≤ size.toInt ∧ (kind ≠ 24 → at'.toInt < be.toInt)
def nd (x : Int) : Int := if x ≤ 0 then 1 else if x = 1 then 10 else if x = 2 then 100 else 1000
theorem nd_le {x : Int} (h : x < 3) : nd x ≤ 100 := by unfold nd; repeat' split <;> omega
theorem nd_s {x m r m' : Int} (h0 : 0 ≤ x) (h : m < nd x) (hx : x < 3) (hr : r ≤ 9) (e : m' = 10 * m + r) : m' < nd (x + 1) := by
  unfold nd at *
  rcases (by omega : x = 0 ∨ x = 1 ∨ x = 2) with q | q | q <;> subst q <;> simp at h ⊢ <;> omega
theorem nd_k {x m : Int} (h : m < nd x) (hx : ¬ x < 3) : m < nd (x + 1) := by
  unfold nd at *
  rw [if_neg (by omega), if_neg (by omega), if_neg (by omega)] at h ⊢; exact h
/-- KEYS ends with a blank -/
theorem chK {x r : Int32} {a b : Int} (hx : iv a b x) (hab : 0 ≤ a ∧ b ≤ 115) (e : r = chF ([32, 99, 111, 97, 115, 116, 32, 119, 101, 97, 116, 104, 101, 114, 32, 104, 105, 108, 108, 32, 115, 116, 97, 99, 107, 32, 102, 101, 97, 114, 32, 103, 97, 112, 32, 116, 111, 111, 107, 32, 118, 105, 108, 108, 97, 103, 101, 32, 110, 101, 101, 100, 115, 32, 114, 111, 97, 100, 32, 99, 97, 114, 114, 105, 101, 115, 32, 116, 97, 107, 101, 115, 32, 97, 100, 100, 115, 32, 105, 102, 32, 116, 104, 101, 110, 32, 101, 108, 115, 101, 32, 101, 110, 100, 32, 119, 101, 115, 116, 32, 115, 101, 101, 110, 32, 97, 110, 100, 32, 111, 114, 32, 110, 111, 116, 32] : List Int32) x) (h : ¬ r = 32) : x.toInt ≤ 114 := by
  have h0 := hx.1
  have h1 := hx.2
  rcases (by omega : x.toInt ≤ 114 ∨ x.toInt = 115) with q | q
  · exact q
  · exfalso
    have : x = 115 := Int32.toInt_inj.mp (q.trans (by decide))
    subst this
    exact h (e.trans (by decide))

def woF (k : Int32) : Int32 := if k = 2 then 0 else if k = 3 then 1 else if k = 17 then 2 else if k = 18 then 3 else if k = 4 then 4 else if k = 1 then 5 else -1

def T5 (f : Nat → Int32) : Prop := ∀ j, j < 1025 → iv (tA j).1 (tA j).2 (f j)
theorem T5_up {f g : Nat → Int32} {x d v : Int32} {c k a n : Nat} {A B lo hi : Int} (h : T5 f) (hx : x.toInt = (c : Int) + (k : Int) * d.toInt) (hd : iv A B d) (hab : (a : Int) ≤ A ∧ B < (a : Int) + n) (hv : iv lo hi v) (ck : ckW tA c k a n lo hi = true) (e : g = upd f x.toNatClampNeg v) : T5 g := by
  have h0 : 0 ≤ d.toInt := by have := hd.1; omega
  have kd := clampNat h0
  have e' : x.toNatClampNeg = c + k * d.toNatClampNeg := by
    have : x.toInt = ((c + k * d.toNatClampNeg : Nat) : Int) := by rw [hx, ← kd]; push_cast; rfl
    have kx := clampNat (x := x) (by omega)
    omega
  have q := ckW_at ck (j := d.toNatClampNeg) (by have := hd.1; omega) (by have := hd.2; omega)
  intro j hj
  rw [e]
  by_cases z : j = x.toNatClampNeg
  · subst z; rw [upd_at, e']; exact iv_w hv q
  · rw [upd_ne z]; exact h j hj
theorem T5_c {f g : Nat → Int32} {p : Nat} {v : Int32} (h : T5 f) (hv : p < 1025 → iv (tA p).1 (tA p).2 v) (e : g = upd f p v) : T5 g := fun j hj => by
  rw [e]
  by_cases z : j = p
  · subst z; rw [upd_at]; exact hv hj
  · rw [upd_ne z]; exact h j hj
theorem tA_code {j : Nat} (h1 : 125 ≤ j) (h2 : j < 1025) : tA j = (0, 3009) := by
  have h : j % 1025 = j := Nat.mod_eq_of_lt h2
  unfold tA; simp only [h]
  rw [if_neg (by omega), if_neg (by omega), if_neg (by omega), if_neg (by omega), if_neg (by omega), if_neg (by omega), if_neg (by omega), if_neg (by omega), if_neg (by omega), if_neg (by omega), if_neg (by omega), if_neg (by omega), if_neg (by omega), if_neg (by omega)]
theorem tF_N {f : Nat → Int32} (h : ivT tF f) : iv 0 900 (f 124) := by
  have := h 124; exact this
/-- what a piece of a law brought: so many on the row, so much room left -/
def EX (a0 : Int32) (f0 : Nat → Int32) (a1 : Int32) (f1 : Nat → Int32) (d s : Int) : Prop :=
  0 ≤ (f0 124).toInt ∧ (f0 124).toInt ≤ (f1 124).toInt ∧ (f1 124).toInt - (f0 124).toInt + s ≤ a1.toInt - a0.toInt ∧ (∀ j, j < 124 → f1 j = f0 j) ∧ (∀ j : Nat, (j : Int) < (f0 124).toInt → f1 (125 + j) = f0 (125 + j)) ∧ Seg f1 (125 + (f0 124).toNatClampNeg) ((f1 124).toNatClampNeg - (f0 124).toNatClampNeg) ∧ dp f1 (125 + (f0 124).toNatClampNeg) ((f1 124).toNatClampNeg - (f0 124).toNatClampNeg) = d ∧ (T5 f0 → T5 f1)
def RX (we ae : Int32) (fe : Nat → Int32) (w a : Int32) (f : Nat → Int32) (d s : Int) : Prop := w = 0 → we = 0 ∧ EX ae fe a f d s
theorem RX_0 {w a : Int32} {f : Nat → Int32} (h : ivT tF f) : RX w a f w a f 0 0 := fun hw => by
  have n := tF_N h
  refine ⟨hw, n.1, Int.le_refl _, by omega, fun _ _ => rfl, fun _ _ => rfl, fun k hk => by omega, ?_, id⟩
  rw [Nat.sub_self]; rfl
theorem RX_a {we ae w a w' a' : Int32} {fe f : Nat → Int32} {d s t : Int} (h : RX we ae fe w a f d s) (hw : w' = 0 → w = 0) (ha : a.toInt + t ≤ a'.toInt) : RX we ae fe w' a' f d (s + t) := fun q => by
  obtain ⟨h1, e1, e2, e3, e4⟩ := h (hw q)
  exact ⟨h1, e1, e2, by omega, e4⟩
theorem RX_f {we ae w a : Int32} {fe f : Nat → Int32} {d s : Int} {A B : Int} (h : iv A B w) (hA : 0 < A) : RX we ae fe w a f d s := fun q => by
  rw [q] at h; have := h.1; rw [(by decide : (0 : Int32).toInt = 0)] at this; omega
theorem RX_w {we ae w a : Int32} {fe f : Nat → Int32} {d s s' : Int} (h : RX we ae fe w a f d s) (hs : s' ≤ s) : RX we ae fe w a f d s' := fun q => by
  obtain ⟨h1, e1, e2, e3, e4⟩ := h q
  exact ⟨h1, e1, e2, by omega, e4⟩
theorem dp_add (f : Nat → Int32) (b m n : Nat) : dp f b (m + n) = dp f b m + dp f (b + m) n := by
  induction n with
  | zero => simp [dp]
  | succ n ih =>
    show dp f b (m + n) + eff (f (b + (m + n))) = _
    simp only [dp]; rw [ih, show b + (m + n) = b + m + n by omega]; omega
theorem RX_seq {we ae w a w' a' : Int32} {fe f f' : Nat → Int32} {d s d' s' : Int} (hd : 0 ≤ d) (h : RX we ae fe w a f d s) (g : RX w a f w' a' f' d' s') : RX we ae fe w' a' f' (d + d') (s + s') := fun q => by
  obtain ⟨hw, g1, g2, g3, g4, g5, g6, g7, g8⟩ := g q
  obtain ⟨h0, e1, e2, e3, e4, e5, e6, e7, e8⟩ := h hw
  have k0 := clampNat e1
  have k1 := clampNat (x := f 124) (by omega)
  have k2 := clampNat (x := f' 124) (by omega)
  have sp : (f' 124).toNatClampNeg - (fe 124).toNatClampNeg = ((f 124).toNatClampNeg - (fe 124).toNatClampNeg) + ((f' 124).toNatClampNeg - (f 124).toNatClampNeg) := by omega
  have cg : ∀ k, k < (f 124).toNatClampNeg - (fe 124).toNatClampNeg → f' (125 + (fe 124).toNatClampNeg + k) = f (125 + (fe 124).toNatClampNeg + k) := fun k hk => by
    have := g5 ((fe 124).toNatClampNeg + k) (by omega)
    rw [← Nat.add_assoc] at this; exact this
  have dpe : dp f' (125 + (fe 124).toNatClampNeg) ((f 124).toNatClampNeg - (fe 124).toNatClampNeg) = d := by rw [dp_congr cg]; exact e7
  have b2 : 125 + (fe 124).toNatClampNeg + ((f 124).toNatClampNeg - (fe 124).toNatClampNeg) = 125 + (f 124).toNatClampNeg := by omega
  refine ⟨h0, e1, by omega, by omega, fun j hj => (g4 j hj).trans (e4 j hj), fun j hj => (g5 j (by omega)).trans (e5 j hj), ?_, ?_, fun t => g8 (e8 t)⟩
  · intro k hk
    rcases Nat.lt_or_ge k ((f 124).toNatClampNeg - (fe 124).toNatClampNeg) with z | z
    · have s1 := Seg_congr cg e6 k z
      exact s1
    · obtain ⟨i, hi⟩ : ∃ i, k = ((f 124).toNatClampNeg - (fe 124).toNatClampNeg) + i := ⟨k - ((f 124).toNatClampNeg - (fe 124).toNatClampNeg), by omega⟩
      have s2 := g6 i (by omega)
      have p : 125 + (fe 124).toNatClampNeg + k = 125 + (f 124).toNatClampNeg + i := by omega
      rw [p, hi, dp_add, dpe, b2]
      exact ⟨s2.1, by have := s2.2; omega⟩
  · rw [sp, dp_add, dpe, b2, g7]
def cdF (f : Nat → Int32) (c : Int32) : Nat → Int32 := upd (upd f (125 + f (124 : Int32).toNatClampNeg).toNatClampNeg c) (124 : Int32).toNatClampNeg (f (124 : Int32).toNatClampNeg + 1)
theorem RX_c {we ae w a c : Int32} {fe f f' : Nat → Int32} {d s : Int} (h : RX we ae fe w a f d s) (tf : ivT tF f) (e : w = 0 → f' = cdF f c) (hn : ned c ≤ d) (hc : okc c) (hc2 : c.toInt ≤ 3009) (hN : w = 0 → (f 124).toInt ≤ 899) : RX we ae fe w a f' (d + eff c) (s - 1) := fun q => by
  obtain ⟨h0, e1, e2, e3, e4, e5, e6, e7, e8⟩ := h q
  have hN' := hN q
  have ef := e q
  have z124 : (124 : Int32).toNatClampNeg = 124 := by decide
  have n0 := tF_N tf
  unfold cdF at ef
  rw [z124] at ef
  have qx : ((125 : Int32) + f 124).toInt = 125 + (f 124).toInt := by
    have := toInt_add (x := (125 : Int32) + f 124) rfl (iv_c (125 : Int32) (a := 125) (b := 125) (by decide)) n0 (by decide)
    rw [(by decide : (125 : Int32).toInt = 125)] at this; exact this
  have k1 := clampNat n0.1
  have kx := clampNat (x := (125 : Int32) + f 124) (by omega)
  have px : ((125 : Int32) + f 124).toNatClampNeg = 125 + (f 124).toNatClampNeg := by omega
  rw [px] at ef
  have N' : f' 124 = f 124 + 1 := by rw [ef, upd_at]
  have N'' : (f' 124).toInt = (f 124).toInt + 1 := by
    have := toInt_add N' n0 (iv_c (1 : Int32) (a := 1) (b := 1) (by decide)) (by decide)
    rw [(by decide : (1 : Int32).toInt = 1)] at this; exact this
  have k2 := clampNat (x := f' 124) (by omega)
  have k0 := clampNat e1
  have o1 : ∀ j, j ≠ 124 → j ≠ 125 + (f 124).toNatClampNeg → f' j = f j := fun j h1 h2 => by rw [ef, upd_ne h1, upd_ne h2]
  have oc : f' (125 + (f 124).toNatClampNeg) = c := by rw [ef, upd_ne (by omega), upd_at]
  have sp : (f' 124).toNatClampNeg - (fe 124).toNatClampNeg = ((f 124).toNatClampNeg - (fe 124).toNatClampNeg) + 1 := by omega
  have cg : ∀ k, k < (f 124).toNatClampNeg - (fe 124).toNatClampNeg → f' (125 + (fe 124).toNatClampNeg + k) = f (125 + (fe 124).toNatClampNeg + k) := fun k hk => o1 _ (by omega) (by omega)
  have dpe : dp f' (125 + (fe 124).toNatClampNeg) ((f 124).toNatClampNeg - (fe 124).toNatClampNeg) = d := by rw [dp_congr cg]; exact e7
  have b2 : 125 + (fe 124).toNatClampNeg + ((f 124).toNatClampNeg - (fe 124).toNatClampNeg) = 125 + (f 124).toNatClampNeg := by omega
  refine ⟨h0, e1, by omega, by omega, fun j hj => (o1 j (by omega) (by omega)).trans (e4 j hj), fun j hj => (o1 _ (by omega) (by omega)).trans (e5 j hj), ?_, ?_, fun t => ?_⟩
  · intro k hk
    rcases Nat.lt_or_ge k ((f 124).toNatClampNeg - (fe 124).toNatClampNeg) with z | z
    · exact Seg_congr cg e6 k z
    · have : k = (f 124).toNatClampNeg - (fe 124).toNatClampNeg := by omega
      subst this
      rw [b2, oc, dpe]; exact ⟨hc, hn⟩
  · rw [sp]; simp only [dp]; rw [dpe, b2, oc]
  · have t1 : T5 (upd f (125 + (f 124).toNatClampNeg) c) := T5_c (e8 t) (fun hp => by rw [tA_code (by omega) hp]; exact ⟨hc.1, hc2⟩) rfl
    refine T5_c t1 (fun _ => ?_) ef
    show iv (tA 124).1 (tA 124).2 (f 124 + 1)
    rw [← N', (by decide : tA 124 = (0, 900))]
    exact ⟨by show (0 : Int) ≤ _; omega, by show _ ≤ (900 : Int); omega⟩
def WFN (f : Nat → Int32) : Prop := ∀ law, law < 2 → (f (6 + law)).toNatClampNeg + (f (8 + law)).toNatClampNeg ≤ (f 124).toNatClampNeg ∧ Seg f (125 + (f (6 + law)).toNatClampNeg) (f (8 + law)).toNatClampNeg
def PS (w a : Int32) (f : Nat → Int32) : Prop := w = 0 → T5 f ∧ (f 124).toInt ≤ a.toInt ∧ WFN f
theorem PS_f {w a : Int32} {f : Nat → Int32} {A B : Int} (h : iv A B w) (hA : 0 < A) : PS w a f := fun q => by
  rw [q] at h; have := h.1; rw [(by decide : (0 : Int32).toInt = 0)] at this; omega
theorem PS_a {w a w' a' : Int32} {f : Nat → Int32} (h : PS w a f) (hw : w' = 0 → w = 0) (ha : a.toInt ≤ a'.toInt) : PS w' a' f := fun q => by
  obtain ⟨h1, h2, h3⟩ := h (hw q)
  exact ⟨h1, by omega, h3⟩
theorem PS_x {we ae w a : Int32} {fe f : Nat → Int32} {d s : Int} (h : PS we ae fe) (r : RX we ae fe w a f d s) (hs : 0 ≤ s) : PS w a f := fun q => by
  obtain ⟨hw, e1, e2, e3, e4, e5, e6, e7, e8⟩ := r q
  obtain ⟨h1, h2, h3⟩ := h hw
  have k0 := clampNat e1
  have k1 := clampNat (x := f 124) (by omega)
  refine ⟨e8 h1, by omega, fun law hl => ?_⟩
  have g := h3 law hl
  rw [e4 (6 + law) (by omega), e4 (8 + law) (by omega)]
  refine ⟨by omega, Seg_congr (fun k hk => ?_) g.2⟩
  have := e5 ((fe (6 + law)).toNatClampNeg + k) (by omega)
  rw [← Nat.add_assoc] at this; exact this
theorem PS_n {we ae w a : Int32} {fe f : Nat → Int32} {d s : Int} {A B : Int} (h : PS we ae fe) (r : RX we ae fe w a f d s) (ha : iv A B a) (hB : B ≤ 900) (hs : 1 ≤ s) : w = 0 → (f 124).toInt ≤ 899 := fun q => by
  obtain ⟨hw, e1, e2, e3, -⟩ := r q
  obtain ⟨h1, h2, h3⟩ := h hw
  have := ha.2
  omega
theorem PS_d {w a : Int32} {f : Nat → Int32} {A B : Int} (h : PS w a f) (ha : iv A B a) (hB : B ≤ 899) : w = 0 → (f 124).toInt ≤ 899 := fun q => by
  have := (h q).2.1
  have := ha.2
  omega
theorem PS_up {w a x d v : Int32} {f g : Nat → Int32} {c k i n : Nat} {A B lo hi X Y : Int} (h : PS w a f) (e : g = upd f x.toNatClampNeg v) (hx : x.toInt = (c : Int) + (k : Int) * d.toInt) (hd : iv A B d) (hab : (i : Int) ≤ A ∧ B < (i : Int) + n) (ck : ckW tA c k i n lo hi = true) (hv : w = 0 → iv lo hi v) (hX : iv X Y x) (hr : 0 ≤ X ∧ (Y ≤ 5 ∨ (10 ≤ X ∧ Y ≤ 123))) : PS w a g := fun q => by
  obtain ⟨h1, h2, h3⟩ := h q
  have X0 := hX.1
  have X1 := hX.2
  have kx := clampNat (x := x) (by omega)
  have ne : ∀ j : Nat, (6 ≤ j ∧ j ≤ 9) ∨ 124 ≤ j → g j = f j := fun j hj => by rw [e, upd_ne (by omega)]
  refine ⟨T5_up h1 hx hd hab (hv q) ck e, by rw [ne 124 (by omega)]; exact h2, fun law hl => ?_⟩
  rw [ne (6 + law) (by omega), ne (8 + law) (by omega), ne 124 (by omega)]
  exact ⟨(h3 law hl).1, Seg_congr (fun k hk => ne _ (by omega)) (h3 law hl).2⟩
theorem PS_0 {w a : Int32} {f : Nat → Int32} {k : Int32} (h : ∀ j : Nat, (j : Int) < k.toInt → f j = 0) (hk : k.toInt = 1025) (ha : 0 ≤ a.toInt) : PS w a f := fun _ => by
  have z : (0 : Int32).toInt = 0 := by decide
  have zn : (0 : Int32).toNatClampNeg = 0 := by decide
  have f0 : ∀ j, j < 1025 → f j = 0 := fun j hj => h j (by omega)
  refine ⟨fun j hj => by rw [f0 j hj]; exact tA_0 j, by rw [f0 124 (by omega), z]; exact ha, fun law hl => ?_⟩
  rw [f0 (6 + law) (by omega), f0 (8 + law) (by omega), f0 124 (by omega), zn]
  exact ⟨by omega, fun k hk => by omega⟩
/-- a law is told -/
theorem PS_law {w a a0 n0 m y : Int32} {f0 f g1 g2 g : Nat → Int32} {law : Nat} (hl : law < 2) (h : PS w a f) (r : w = 0 → EX a0 f0 a f 1 0) (en : n0 = f0 124) (e1 : g1 = upd f (4 + law) 1) (e2 : g2 = upd g1 (6 + law) n0) (em : m = g2 124) (ey : y = m - n0) (e3 : g = upd g2 (8 + law) y) : PS w a g := fun q => by
  obtain ⟨h1, h2, h3⟩ := h q
  obtain ⟨x1, x2, x3, x4, x5, x6, x7, x8⟩ := r q
  have z1 : (1 : Int32).toInt = 1 := by decide
  have t124 := h1 124 (by decide)
  have t900 : (f 124).toInt ≤ 900 := t124.2
  have k0 := clampNat (x := n0) (by rw [en]; exact x1)
  have k1 := clampNat (x := f 124) (by omega)
  have m' : m = f 124 := by rw [em, e2, upd_ne (by omega), e1, upd_ne (by omega)]
  have en' : n0.toInt = (f0 124).toInt := by rw [en]
  have y' : y.toInt = (f 124).toInt - (f0 124).toInt := by
    rw [ey, m', Int32.toInt_sub, iv_bm (by omega) (by omega), en']
  have ky := clampNat (x := y) (by omega)
  have o : ∀ j, j ≠ 4 + law → j ≠ 6 + law → j ≠ 8 + law → g j = f j := fun j a b c => by rw [e3, upd_ne c, e2, upd_ne b, e1, upd_ne a]
  have v6 : g (6 + law) = n0 := by rw [e3, upd_ne (by omega), e2, upd_at]
  have v8 : g (8 + law) = y := by rw [e3, upd_at]
  have tt : ∀ l, l < 2 → tA (4 + l) = (0, 1) ∧ tA (6 + l) = (0, 900) ∧ tA (8 + l) = (0, 900) := by decide
  refine ⟨?_, by rw [o 124 (by omega) (by omega) (by omega)]; exact h2, fun l hl' => ?_⟩
  · have t1 : T5 g1 := T5_c h1 (fun _ => by rw [(tt law hl).1]; exact ⟨by decide, by decide⟩) e1
    have t2 : T5 g2 := T5_c t1 (fun _ => by rw [(tt law hl).2.1]; exact ⟨by show (0 : Int) ≤ _; omega, by show _ ≤ (900 : Int); omega⟩) e2
    exact T5_c t2 (fun _ => by rw [(tt law hl).2.2]; exact ⟨by show (0 : Int) ≤ _; omega, by show _ ≤ (900 : Int); omega⟩) e3
  · rw [o 124 (by omega) (by omega) (by omega)]
    by_cases z : l = law
    · subst z
      rw [v6, v8]
      refine ⟨by omega, ?_⟩
      have s : Seg f (125 + n0.toNatClampNeg) y.toNatClampNeg := by
        have q6 := x6
        rw [← en] at q6
        have : (f 124).toNatClampNeg - n0.toNatClampNeg = y.toNatClampNeg := by omega
        rw [this] at q6; exact q6
      exact Seg_congr (fun k hk => o _ (by omega) (by omega) (by omega)) s
    · rw [o (6 + l) (by omega) (by omega) (by omega), o (8 + l) (by omega) (by omega) (by omega)]
      exact ⟨(h3 l hl').1, Seg_congr (fun k hk => o _ (by omega) (by omega) (by omega)) (h3 l hl').2⟩
def adv (r : Int32) : Int := if r = 1 then 1 else 0
theorem adv_0 (r : Int32) : 0 ≤ adv r := by unfold adv; split <;> omega
theorem adv_1 {r : Int32} (h : r = 1) : adv r = 1 := by unfold adv; rw [if_pos h]
theorem adv_le {r : Int32} {a b : Int} (h : a ≤ b) (g : r = 1 → a + 1 ≤ b) : a + adv r ≤ b := by
  unfold adv; split
  · next q => exact g q
  · omega

def wz (w : Int32) : Int := if w = 0 then 1 else 0
theorem mu_w {w w' a a' : Int32} {A B : Int} (hw : w = 0) (h1 : a.toInt ≤ a'.toInt) (h2 : w' = 0 → a.toInt + 1 ≤ a'.toInt) (ha : iv A B a') (hB : B ≤ 900) : (2 * (900 - a'.toInt) + wz w').toNat < (2 * (900 - a.toInt) + wz w).toNat := by
  have b := ha.2
  unfold wz
  rw [if_pos hw]
  split
  · next q => have := h2 q; omega
  · omega
theorem cp_T {f g : Nat → Int32} {k v : Int32} {a b : Int} (h : ivT tA f) (t : T5 g) (hk : iv a b k) (hab : 0 ≤ a ∧ b ≤ 1024) (ev : v = g k.toNatClampNeg) : ivT tA (upd f k.toNatClampNeg v) := fun j => by
  have h0 := hk.1
  have h1 := hk.2
  have kk := clampNat (x := k) (by omega)
  by_cases z : j = k.toNatClampNeg
  · subst z; rw [upd_at, ev]; exact t _ (by omega)
  · rw [upd_ne z]; exact h j
def CPY (k : Int32) (f g : Nat → Int32) : Prop := (∀ j : Nat, (j : Int) < k.toInt → f j = g j) ∧ WF f 1025 ∧ WF f 2050
theorem CPY_0 {k : Int32} {f g : Nat → Int32} (h : RW f) (hk : k.toInt = 0) : CPY k f g := ⟨fun j hj => by omega, h.2.1, h.2.2⟩
theorem CPY_s {k k' v : Int32} {f f' g : Nat → Int32} {a b : Int} (h : CPY k f g) (hk : iv a b k) (hab : 0 ≤ a ∧ b ≤ 1024) (ev : v = g k.toNatClampNeg) (e : f' = upd f k.toNatClampNeg v) (ek : k' = k + 1) : CPY k' f' g := by
  have h0 := hk.1
  have h1 := hk.2
  have e' := inc_toInt ek hk ⟨by omega, by omega⟩
  have kk := clampNat (x := k) (by omega)
  subst e
  refine ⟨fun j hj => ?_, WF_congr (fun j h1 h2 h3 => upd_ne (by omega)) h.2.1, WF_congr (fun j h1 h2 h3 => upd_ne (by omega)) h.2.2⟩
  by_cases q : j = k.toNatClampNeg
  · subst q; rw [upd_at, ev]
  · rw [upd_ne q]; exact h.1 j (by omega)
theorem CPY_e {k w a : Int32} {f g : Nat → Int32} {A B : Int} (h : CPY k f g) (hk : ¬ k < 1025) (p : PS w a g) (hw : w = 0) (ha : iv A B a) (hB : B ≤ 900) (tf : ivT tF g) : RW f := by
  rw [Int32.lt_iff_toInt_lt, (by decide : (1025 : Int32).toInt = 1025)] at hk
  obtain ⟨t5, n, wf⟩ := p hw
  have n0 := (tF_N tf).1
  have b := ha.2
  have kn := clampNat n0
  have fg : ∀ j, j < 1025 → f j = g j := fun j hj => h.1 j (by omega)
  refine ⟨fun law hl => ?_, h.2.1, h.2.2⟩
  have q := wf law hl
  rw [show 0 + 6 + law = 6 + law by omega, show 0 + 8 + law = 8 + law by omega, fg (6 + law) (by omega), fg (8 + law) (by omega)]
  refine ⟨by omega, ?_⟩
  rw [show 0 + 125 + (g (6 + law)).toNatClampNeg = 125 + (g (6 + law)).toNatClampNeg by omega]
  exact Seg_congr (fun k hk => fg _ (by omega)) q.2

/-- the reference's reader stands so -/
def RZ (T : Nat → Int32) (n : Int32) (q : Sg) (wr wa ki a be nu : Int32) : Prop :=
  (q.1 = 0 ∧ wr = 0 ∧ (0 ≤ q.2.2.1.toInt ∧ q.2.2.1.toInt ≤ n.toInt) ∧ a = (tkX T n q.2.2.1).1 ∧ be = (tkX T n q.2.2.1).2.1 ∧ ki = (tkX T n q.2.2.1).2.2.1 ∧ ¬ ki = 25 ∧ (ki = 23 → nu = (tkX T n q.2.2.1).2.2.2)) ∨ (¬ q.1 = 0 ∧ wr = q.1 ∧ wa = q.2.1) ∨ (q.1 = 1 ∧ wr = 0 ∧ ki = 25 ∧ a = q.2.1)
theorem RZ_cg {T : Nat → Int32} {n : Int32} {q q' : Sg} {wr wa ki a be nu : Int32} (e : q' = q) (h : RZ T n q wr wa ki a be nu) : RZ T n q' wr wa ki a be nu := by rw [e]; exact h
theorem RZ_is {T : Nat → Int32} {n : Int32} {q : Sg} {wr wa ki a be nu k : Int32} (h : RZ T n q wr wa ki a be nu) (hk : ¬ k = 25) : (wr = 0 ∧ ki = k) ↔ isQ (tkX T n) q k = true := by
  rw [isQ_iff]
  rcases h with ⟨h1, h2, -, -, -, h3, -⟩ | ⟨h1, h2, h3⟩ | ⟨h1, h2, h3, h4⟩
  · rw [← h3]; exact ⟨fun z => ⟨h1, z.2⟩, fun z => ⟨h2, z.2⟩⟩
  · exact ⟨fun z => absurd (h2.symm.trans z.1) h1, fun z => absurd z.1 h1⟩
  · exact ⟨fun z => absurd (z.2.symm.trans h3) hk, fun z => by rw [h1] at z; exact absurd z.1 (by decide)⟩
theorem RZ_i1 {T : Nat → Int32} {n : Int32} {q : Sg} {wr wa ki a be nu k r : Int32} (h : RZ T n q wr wa ki a be nu) (hk : ¬ k = 25) (g1 : r = 1 → wr = 0) (g2 : r = 1 → ki = k) (hr : iv 1 1 r) : isQ (tkX T n) q k = true :=
  have e : r = 1 := iv_eqp hr (iv_c (1 : Int32) (by decide))
  (RZ_is h hk).mp ⟨g1 e, g2 e⟩
theorem RZ_i0 {T : Nat → Int32} {n : Int32} {q : Sg} {wr wa ki a be nu k r : Int32} (h : RZ T n q wr wa ki a be nu) (hk : ¬ k = 25) (g : r = 0 → ¬ (wr = 0 ∧ ki = k)) (hr : iv 0 0 r) : isQ (tkX T n) q k = false :=
  have e : r = 0 := iv_eqp hr (iv_c (0 : Int32) (by decide))
  Bool.eq_false_iff.mpr (fun z => g e ((RZ_is h hk).mpr z))
/-- next -/
def NZ (T : Nat → Int32) (n be a' be' ki' nu' : Int32) : Prop := a' = (tkX T n be).1 ∧ be' = (tkX T n be).2.1 ∧ ki' = (tkX T n be).2.2.1 ∧ (ki' = 23 → nu' = (tkX T n be).2.2.2)
theorem RZ_nx {T : Nat → Int32} {n : Int32} {q : Sg} {wr wa ki a be nu a' be' ki' nu' : Int32} (hn : n.toInt ≤ 900) (h : RZ T n q wr wa ki a be nu) (w : q.1 = 0) (s : NZ T n be a' be' ki' nu') : RZ T n (nxP (tkX T n) q) wr wa ki' a' be' nu' := by
  obtain ⟨s1, s2, s3, s4⟩ := s
  rcases h with ⟨h1, h2, r, h4, h5, h6, h7⟩ | ⟨h1, h2, h3⟩ | ⟨h1, h2, h3, h4⟩
  · have bE := tkE_bd (T := T) hn r
    have bP := tkP_bd (T := T) hn r
    have e1 : (tkX T n q.2.2.1).2.1 = tkE T n q.2.2.1 := by rw [tkX_in r]
    have re : 0 ≤ be.toInt ∧ be.toInt ≤ n.toInt := by rw [h5, e1]; omega
    unfold nxP; rw [if_pos w, ← h5]
    by_cases z : (tkX T n be).2.2.1 = 25
    · rw [if_pos z]
      exact Or.inr (Or.inr ⟨rfl, h2, s3.trans z, s1⟩)
    · rw [if_neg z]
      exact Or.inl ⟨rfl, h2, re, s1, s2, s3, fun y => z (s3.symm.trans y), s4⟩
  · exact absurd w h1
  · rw [h1] at w; exact absurd w (by decide)
theorem RZ_0 {T : Nat → Int32} {n wa a' be' ki' nu' : Int32} (hn : 0 ≤ n.toInt) (s : NZ T n 0 a' be' ki' nu') : RZ T n (q0P (tkX T n)) 0 wa ki' a' be' nu' := by
  obtain ⟨s1, s2, s3, s4⟩ := s
  have re : 0 ≤ (0 : Int32).toInt ∧ (0 : Int32).toInt ≤ n.toInt := by rw [(by decide : (0 : Int32).toInt = 0)]; omega
  unfold q0P
  by_cases z : (tkX T n 0).2.2.1 = 25
  · rw [if_pos z]
    exact Or.inr (Or.inr ⟨rfl, rfl, s3.trans z, s1⟩)
  · rw [if_neg z]
    exact Or.inl ⟨rfl, rfl, re, s1, s2, s3, fun y => z (s3.symm.trans y), s4⟩
/-- fails -/
def FZ (wr wa ki a f wr' wa' : Int32) : Prop := (wr = 0 → (ki = 25 → wr' = 1) ∧ (¬ ki = 25 → wr' = f) ∧ wa' = a) ∧ (¬ wr = 0 → wr' = wr ∧ wa' = wa)
theorem RZ_fl {T : Nat → Int32} {n f : Int32} {q : Sg} {wr wa ki a be nu wr' wa' : Int32} (h : RZ T n q wr wa ki a be nu) (s : FZ wr wa ki a f wr' wa') (hf : ¬ f = 0) : RZ T n (flP (tkX T n) f q) wr' wa' ki a be nu := by
  rcases h with ⟨h1, h2, r, h4, h5, h6, h7, h8⟩ | ⟨h1, h2, h3⟩ | ⟨h1, h2, h3, h4⟩
  · obtain ⟨-, b2, b3⟩ := s.1 h2
    unfold flP; rw [if_pos h1]
    exact Or.inr (Or.inl ⟨hf, b2 h7, b3.trans h4⟩)
  · obtain ⟨b1, b2⟩ := s.2 (fun z => h1 (h2.symm.trans z))
    rw [flP_w h1]
    exact Or.inr (Or.inl ⟨h1, b1.trans h2, b2.trans h3⟩)
  · obtain ⟨b1, -, b3⟩ := s.1 h2
    have w : ¬ q.1 = 0 := by rw [h1]; decide
    rw [flP_w w]
    exact Or.inr (Or.inl ⟨w, (b1 h3).trans h1.symm, b3.trans h4⟩)
theorem pu_0 {c : Int32} {q : Sg} (w : q.1 = 0) : (puP c q).1 = 0 := by unfold puP; rw [if_pos w]; exact w
theorem RZ_pu {T : Nat → Int32} {n c : Int32} {q : Sg} {wr wa ki a be nu : Int32} (h : RZ T n q wr wa ki a be nu) : RZ T n (puP c q) wr wa ki a be nu := by
  by_cases w : q.1 = 0
  · unfold puP; rw [if_pos w]; exact h
  · rw [puP_w w]; exact h
theorem RZ_w {T : Nat → Int32} {n : Int32} {q : Sg} {wr wa ki a be nu : Int32} (h : RZ T n q wr wa ki a be nu) (w : ¬ wr = 0) : wr = q.1 ∧ wa = q.2.1 := by
  rcases h with ⟨h1, h2, -⟩ | ⟨h1, h2, h3⟩ | ⟨h1, h2, h3, h4⟩
  · exact absurd h2 w
  · exact ⟨h2, h3⟩
  · exact absurd h2 w
theorem RZ_q {T : Nat → Int32} {n : Int32} {q : Sg} {wr wa ki a be nu : Int32} (h : RZ T n q wr wa ki a be nu) (w : q.1 = 0) : wr = 0 ∧ ki = (tkX T n q.2.2.1).2.2.1 ∧ (ki = 23 → nu = (tkX T n q.2.2.1).2.2.2) := by
  rcases h with ⟨h1, h2, r, h4, h5, h6, h7, h8⟩ | ⟨h1, h2, h3⟩ | ⟨h1, h2, h3, h4⟩
  · exact ⟨h2, h6, h8⟩
  · exact absurd w h1
  · rw [h1] at w; exact absurd w (by decide)
/-- wrong is 0 and the kind isn't BAD: nothing has failed -/
theorem RZ_k {T : Nat → Int32} {n : Int32} {q : Sg} {wr wa ki a be nu : Int32} (h : RZ T n q wr wa ki a be nu) (w : wr = 0) (k : ¬ ki = 25) : q.1 = 0 := by
  rcases h with ⟨h1, -⟩ | ⟨h1, h2, h3⟩ | ⟨h1, h2, h3, h4⟩
  · exact h1
  · exact absurd (h2.symm.trans w) h1
  · exact absurd h3 k
theorem blB_z1 {T : Nat → Int32} {n k r : Int32} (er : r = seF T k n) (h : r = 10 ∨ r = 32) : blB T n k = true := by
  unfold seF at er
  by_cases z : k < n
  · rw [if_pos z] at er; exact blB_1 z er h
  · rw [if_neg z] at er; rw [er] at h; exact absurd h (by decide)
theorem blB_z0 {T : Nat → Int32} {n k r : Int32} (er : r = seF T k n) (h1 : ¬ r = 10) (h2 : ¬ r = 32) : blB T n k = false := by
  unfold seF at er
  by_cases z : k < n
  · rw [if_pos z] at er; exact blB_n er h1 h2
  · exact blB_0 z
theorem se_lt {T : Nat → Int32} {n k r : Int32} (er : r = seF T k n) (h : 0 ≤ r.toInt) : k < n ∧ r = T k.toNatClampNeg := by
  unfold seF at er
  by_cases z : k < n
  · rw [if_pos z] at er; exact ⟨z, er⟩
  · rw [if_neg z] at er; rw [er] at h; exact absurd h (by decide)
theorem ltB_z1 {T : Nat → Int32} {n lo hi k r : Int32} (er : r = seF T k n) (h0 : 0 ≤ lo.toInt) (h1 : lo ≤ r) (h2 : r ≤ hi) : ltB T n lo hi k = true := by
  have h3 := Int32.le_iff_toInt_le.mp h1
  obtain ⟨z, e⟩ := se_lt er (by omega)
  exact ltB_1 z e h1 h2
theorem ltB_z0 {T : Nat → Int32} {n lo hi k r : Int32} (er : r = seF T k n) (h : ¬ lo ≤ r ∨ ¬ r ≤ hi) : ltB T n lo hi k = false := by
  unfold seF at er
  by_cases z : k < n
  · rw [if_pos z] at er; exact ltB_n er h
  · exact ltB_0 z
theorem zP {T : Nat → Int32} {n be a : Int32} (hb : iv 0 900 be) (ha : iv 0 900 a) (i1 : be.toInt ≤ a.toInt) (i2 : ∀ j : Int32, be.toInt ≤ j.toInt → j.toInt < a.toInt → blB T n j = true) (b : blB T n a = false) : tkP T n be = a := st_P hb ha i1 i2 b
theorem NZ_of {T : Nat → Int32} {n be a' be' ki' nu' : Int32} (r : 0 ≤ be.toInt ∧ be.toInt ≤ n.toInt) (h1 : a' = tkP T n be) (h2 : be' = tkE T n be) (h3 : ki' = tkK T n be) (h4 : ki' = 23 → nu' = tkV T n be) : NZ T n be a' be' ki' nu' := by
  unfold NZ; rw [tkX_in r]; exact ⟨h1, h2, h3, h4⟩
theorem NZ_end {T : Nat → Int32} {n be a nu' : Int32} (r : 0 ≤ be.toInt ∧ be.toInt ≤ n.toInt) (hp : tkP T n be = a) (h : ¬ a < n) : NZ T n be a a 24 nu' :=
  NZ_of r hp.symm (by unfold tkE; rw [hp, if_neg h]) (by unfold tkK; rw [hp, if_neg h]) (fun z => absurd z (by decide))
theorem NZ_word {T : Nat → Int32} {n be a b x k nu' : Int32} (r : 0 ≤ be.toInt ∧ be.toInt ≤ n.toInt) (hp : tkP T n be = a) (ex : x = seF T a n) (c1 : 97 ≤ x) (c2 : x ≤ 122) (er : b = scF (ltB T n 97 122) 901 a) (ek : k = kyF T a b 0 KWS) : NZ T n be a b k nu' := by
  obtain ⟨h, ex'⟩ := se_lt ex (by have := Int32.le_iff_toInt_le.mp c1; rw [(by decide : (97 : Int32).toInt = 97)] at this; omega)
  have cc : tkC T n be = x := by unfold tkC; rw [hp]; exact ex'.symm
  have lt : 97 ≤ tkC T n be ∧ tkC T n be ≤ 122 := by rw [cc]; exact ⟨c1, c2⟩
  have eE : tkE T n be = b := by unfold tkE; rw [hp, if_pos h, if_pos lt]; exact er.symm
  have eK : tkK T n be = kyF T a b 0 KWS := by unfold tkK; rw [hp, if_pos h, if_pos lt, eE]
  refine NZ_of r hp.symm eE.symm (ek.trans eK.symm) (fun z => ?_)
  have rg := (ky_rg T a b).2
  rw [← ek, z] at rg; exact absurd rg (by decide)
theorem dvz_0 {T : Nat → Int32} {a : Int32} : (0 : Int32) = dv T a (min (a - a).toNatClampNeg 3) := by
  have : a - a = 0 := Int32.sub_self a
  rw [this]; rfl
theorem mn_s {a b b' : Int32} (ha : iv 0 900 a) (hb : iv 0 900 b) (h : a.toInt ≤ b.toInt) (eb : b' = b + 1) : (b' - a).toNatClampNeg = (b - a).toNatClampNeg + 1 ∧ ((b - a).toNatClampNeg : Int) = b.toInt - a.toInt := by
  have a1 := ha.1
  have b2 := hb.2
  have e1 := inc_toInt eb hb (by decide)
  have d1 : (b - a).toInt = b.toInt - a.toInt := by rw [Int32.toInt_sub, iv_bm (by omega) (by omega)]
  have d2 : (b' - a).toInt = b'.toInt - a.toInt := by rw [Int32.toInt_sub, iv_bm (by omega) (by omega)]
  have c1 := clampNat (x := b - a) (by omega)
  have c2 := clampNat (x := b' - a) (by omega)
  omega
theorem dvz_s {T : Nat → Int32} {n a b b' m t u m' r d : Int32} (ha : iv 0 900 a) (hb : iv 0 900 b) (h : a.toInt ≤ b.toInt) (e : m = dv T a (min (b - a).toNatClampNeg 3)) (ed : d = b - a) (hd : d < 3) (er : r = seF T b n) (h0 : 0 ≤ r.toInt) (et : t = 10 * m) (eu : u = t + r) (em : m' = u - 48) (eb : b' = b + 1) : m' = dv T a (min (b' - a).toNatClampNeg 3) := by
  obtain ⟨z1, z2⟩ := mn_s ha hb h eb
  obtain ⟨-, er'⟩ := se_lt er h0
  have d1 : d.toInt = b.toInt - a.toInt := by
    have a1 := ha.1
    have b2 := hb.2
    rw [ed, Int32.toInt_sub, iv_bm (by omega) (by omega)]
  rw [Int32.lt_iff_toInt_lt, d1, (by decide : (3 : Int32).toInt = 3)] at hd
  have m1 : min (b - a).toNatClampNeg 3 = (b - a).toNatClampNeg := by omega
  have m2 : min (b' - a).toNatClampNeg 3 = (b - a).toNatClampNeg + 1 := by omega
  have ep : a + nI (b - a).toNatClampNeg = b := by
    have a1 := ha.1
    have b2 := hb.2
    refine Int32.toInt_inj.mp ?_
    rw [Int32.toInt_add, nI_toInt (by omega), z2, iv_bm (by omega) (by omega)]; omega
  rw [m2]
  show m' = dv T a (b - a).toNatClampNeg * 10 + T (a + nI (b - a).toNatClampNeg).toNatClampNeg - 48
  rw [m1] at e
  rw [ep, ← e, ← er', em, eu, et, Int32.mul_comm]
theorem dvz_k {T : Nat → Int32} {a b b' m d : Int32} (ha : iv 0 900 a) (hb : iv 0 900 b) (h : a.toInt ≤ b.toInt) (e : m = dv T a (min (b - a).toNatClampNeg 3)) (ed : d = b - a) (hd : ¬ d < 3) (eb : b' = b + 1) : m = dv T a (min (b' - a).toNatClampNeg 3) := by
  obtain ⟨z1, z2⟩ := mn_s ha hb h eb
  have d1 : d.toInt = b.toInt - a.toInt := by
    have a1 := ha.1
    have b2 := hb.2
    rw [ed, Int32.toInt_sub, iv_bm (by omega) (by omega)]
  rw [Int32.lt_iff_toInt_lt, d1, (by decide : (3 : Int32).toInt = 3)] at hd
  have m1 : min (b - a).toNatClampNeg 3 = 3 := by omega
  have m2 : min (b' - a).toNatClampNeg 3 = 3 := by omega
  rw [m2]; rw [m1] at e; exact e
theorem NZ_num {T : Nat → Int32} {n be a b x d m : Int32} (r : 0 ≤ be.toInt ∧ be.toInt ≤ n.toInt) (hp : tkP T n be = a) (ex : x = seF T a n) (nl : ¬ (97 ≤ x ∧ x ≤ 122)) (c1 : 48 ≤ x) (c2 : x ≤ 57) (er : b = scF (ltB T n 48 57) 901 a) (ed : d = b - a) (hd : d ≤ 3) (ha : iv 0 900 a) (hb : iv 0 900 b) (hab : a.toInt ≤ b.toInt) (em : m = dv T a (min (b - a).toNatClampNeg 3)) : NZ T n be a b 23 m := by
  obtain ⟨h, ex'⟩ := se_lt ex (by have := Int32.le_iff_toInt_le.mp c1; rw [(by decide : (48 : Int32).toInt = 48)] at this; omega)
  obtain ⟨eE, eK⟩ := dg_k hp h ex' nl c1 c2 er
  rw [← ed, if_neg (Int32.not_lt.mpr hd)] at eK
  refine NZ_of r hp.symm eE.symm eK.symm (fun z => ?_)
  unfold tkV; rw [if_pos eK, hp, eE]
  obtain ⟨-, z2⟩ := mn_s ha hb hab rfl
  have d1 : d.toInt = b.toInt - a.toInt := by
    have a1 := ha.1
    have b2 := hb.2
    rw [ed, Int32.toInt_sub, iv_bm (by omega) (by omega)]
  rw [Int32.le_iff_toInt_le, d1, (by decide : (3 : Int32).toInt = 3)] at hd
  rw [show min (b - a).toNatClampNeg 3 = (b - a).toNatClampNeg by omega] at em
  exact em
theorem NZ_bad3 {T : Nat → Int32} {n be a b x d m : Int32} (r : 0 ≤ be.toInt ∧ be.toInt ≤ n.toInt) (hp : tkP T n be = a) (ex : x = seF T a n) (nl : ¬ (97 ≤ x ∧ x ≤ 122)) (c1 : 48 ≤ x) (c2 : x ≤ 57) (er : b = scF (ltB T n 48 57) 901 a) (ed : d = b - a) (hd : ¬ d ≤ 3) : NZ T n be a b 25 m := by
  obtain ⟨h, ex'⟩ := se_lt ex (by have := Int32.le_iff_toInt_le.mp c1; rw [(by decide : (48 : Int32).toInt = 48)] at this; omega)
  obtain ⟨eE, eK⟩ := dg_k hp h ex' nl c1 c2 er
  rw [← ed, if_pos (Int32.not_le.mp hd)] at eK
  exact NZ_of r hp.symm eE.symm eK.symm (fun z => absurd z (by decide))
/-- the kind by the signs looked at so far -/
def sgA (c : Int32) : Nat → Int32
  | 0 => 25
  | k + 1 => if c = ([59, 58, 43, 45, 42, 40, 41, 91, 93, 61, 60, 62] : List Int32).getD k 0 then nI (30 + k) else sgA c k
theorem sgA_F (c : Int32) : sgA c 12 = sgF c := by
  by_cases h : sgF c = 25
  · rw [h]
    have k : ∀ i : Nat, i < 12 → ¬ c = ([59, 58, 43, 45, 42, 40, 41, 91, 93, 61, 60, 62] : List Int32).getD i 0 := fun i hi z => by
      have t : ∀ i : Nat, i < 12 → ¬ sgF (([59, 58, 43, 45, 42, 40, 41, 91, 93, 61, 60, 62] : List Int32).getD i 0) = 25 := by decide +kernel
      exact t i hi (by rw [← z]; exact h)
    show sgA c 12 = 25
    simp only [sgA]
    rw [if_neg (k 11 (by decide)), if_neg (k 10 (by decide)), if_neg (k 9 (by decide)), if_neg (k 8 (by decide)), if_neg (k 7 (by decide)), if_neg (k 6 (by decide)), if_neg (k 5 (by decide)), if_neg (k 4 (by decide)), if_neg (k 3 (by decide)), if_neg (k 2 (by decide)), if_neg (k 1 (by decide)), if_neg (k 0 (by decide))]
  · have g : ∃ i : Nat, i < 12 ∧ c = ([59, 58, 43, 45, 42, 40, 41, 91, 93, 61, 60, 62] : List Int32).getD i 0 := by
      unfold sgF at h
      repeat' split at h
      all_goals first | (exact absurd rfl h) | skip
      all_goals (next z => subst z; decide)
    obtain ⟨i, hi, e⟩ := g
    have t : ∀ i : Nat, i < 12 → sgA (([59, 58, 43, 45, 42, 40, 41, 91, 93, 61, 60, 62] : List Int32).getD i 0) 12 = sgF (([59, 58, 43, 45, 42, 40, 41, 91, 93, 61, 60, 62] : List Int32).getD i 0) := by decide +kernel
    rw [e]; exact t i hi
theorem chS : ∀ i : Nat, i < 12 → chF ([59, 58, 43, 45, 42, 40, 41, 91, 93, 61, 60, 62] : List Int32) (nI i) = ([59, 58, 43, 45, 42, 40, 41, 91, 93, 61, 60, 62] : List Int32).getD i 0 := by decide +kernel
theorem sgA_1 {c ch k k' x : Int32} (hk : iv 0 11 k) (ec : ch = chF ([59, 58, 43, 45, 42, 40, 41, 91, 93, 61, 60, 62] : List Int32) k) (h : c = ch) (ex : x = 30 + k) (ek : k' = k + 1) : x = sgA c k'.toNatClampNeg := by
  have k1 := hk.1
  have k2 := hk.2
  obtain ⟨i, hi, e⟩ := nI_of (iv_n0lt hk (by decide))
  have hi2 : k.toInt = i := by rw [e, nI_toInt hi]
  have e1 := inc_toInt ek hk (by decide)
  have cl := clampNat (x := k') (by omega)
  have en : k'.toNatClampNeg = i + 1 := by omega
  rw [en]
  show x = if c = ([59, 58, 43, 45, 42, 40, 41, 91, 93, 61, 60, 62] : List Int32).getD i 0 then nI (30 + i) else sgA c i
  rw [if_pos (by rw [h, ec, e]; exact chS i (by omega)), ex]
  refine Int32.toInt_inj.mp ?_
  rw [nI_toInt (by omega), Int32.toInt_add, hi2, (by decide : (30 : Int32).toInt = 30), iv_bm (by omega) (by omega)]; omega
theorem sgA_0 {c ch k k' x : Int32} (hk : iv 0 11 k) (ec : ch = chF ([59, 58, 43, 45, 42, 40, 41, 91, 93, 61, 60, 62] : List Int32) k) (h : ¬ c = ch) (ex : x = sgA c k.toNatClampNeg) (ek : k' = k + 1) : x = sgA c k'.toNatClampNeg := by
  have k1 := hk.1
  have k2 := hk.2
  obtain ⟨i, hi, e⟩ := nI_of (iv_n0lt hk (by decide))
  have hi2 : k.toInt = i := by rw [e, nI_toInt hi]
  have e1 := inc_toInt ek hk (by decide)
  have cl := clampNat (x := k') (by omega)
  have cl2 := clampNat (x := k) (by omega)
  have en : k'.toNatClampNeg = i + 1 := by omega
  have en2 : k.toNatClampNeg = i := by omega
  rw [en]
  show x = if c = ([59, 58, 43, 45, 42, 40, 41, 91, 93, 61, 60, 62] : List Int32).getD i 0 then nI (30 + i) else sgA c i
  rw [if_neg (fun z => h (by rw [z, ec, e]; exact (chS i (by omega)).symm)), ex, en2]
theorem a255 {c : Int32} (h : iv 0 255 c) : c &&& 255 = c := by
  obtain ⟨i, hi, e⟩ := nI_of (iv_n0lt h (by decide))
  have h2 := h.2
  have hi2 : c.toInt = i := by rw [e, nI_toInt hi]
  have k : ∀ i : Nat, i < 256 → nI i &&& 255 = nI i := by decide +kernel
  rw [e]; exact k i (by omega)
theorem NZ_sign {T : Nat → Int32} {n be a b x k u : Int32} {nu' : Int32} (r : 0 ≤ be.toInt ∧ be.toInt ≤ n.toInt) (tf : ∀ j, iv 0 255 (T j)) (hp : tkP T n be = a) (h : a < n) (ex : x = seF T a n) (nl : ¬ (97 ≤ x ∧ x ≤ 122)) (nd : ¬ (48 ≤ x ∧ x ≤ 57)) (eb : b = a + 1) (hu : ¬ u < 12) (hu2 : iv 0 12 u) (ek : k = sgA x u.toNatClampNeg) : NZ T n be a b k nu' := by
  have ex' : x = T a.toNatClampNeg := by unfold seF at ex; rw [if_pos h] at ex; exact ex
  obtain ⟨eE, eK⟩ := sg_k hp h ex' nl nd
  have e12 : u.toNatClampNeg = 12 := by
    rw [Int32.lt_iff_toInt_lt, (by decide : (12 : Int32).toInt = 12)] at hu
    have h2 := hu2.2
    have cl := clampNat (x := u) (by omega)
    omega
  rw [e12, sgA_F] at ek
  have xr : iv 0 255 x := by rw [ex']; exact tf _
  rw [a255 xr] at eK
  refine NZ_of r hp.symm (eb.trans eE.symm) (ek.trans eK.symm) (fun z => ?_)
  rw [ek] at z; exact absurd z (sgF_nd _)
/-- where the words of KEYS begin -/
def sT (m : Nat) : Nat := ([1, 7, 15, 20, 26, 31, 35, 40, 48, 54, 59, 67, 73, 78, 81, 86, 91, 95, 100, 105, 109, 112, 116] : List Nat).getD m 116
def kl (m : Nat) : Nat := (KWS.getD m []).length
set_option maxRecDepth 100000 in
theorem kt_ok : ∀ m : Nat, m < 22 → (∀ i : Nat, i < kl m → chF ([32, 99, 111, 97, 115, 116, 32, 119, 101, 97, 116, 104, 101, 114, 32, 104, 105, 108, 108, 32, 115, 116, 97, 99, 107, 32, 102, 101, 97, 114, 32, 103, 97, 112, 32, 116, 111, 111, 107, 32, 118, 105, 108, 108, 97, 103, 101, 32, 110, 101, 101, 100, 115, 32, 114, 111, 97, 100, 32, 99, 97, 114, 114, 105, 101, 115, 32, 116, 97, 107, 101, 115, 32, 97, 100, 100, 115, 32, 105, 102, 32, 116, 104, 101, 110, 32, 101, 108, 115, 101, 32, 101, 110, 100, 32, 119, 101, 115, 116, 32, 115, 101, 101, 110, 32, 97, 110, 100, 32, 111, 114, 32, 110, 111, 116, 32] : List Int32) (nI (sT m + i)) = (KWS.getD m []).getD i 0 ∧ ¬ chF ([32, 99, 111, 97, 115, 116, 32, 119, 101, 97, 116, 104, 101, 114, 32, 104, 105, 108, 108, 32, 115, 116, 97, 99, 107, 32, 102, 101, 97, 114, 32, 103, 97, 112, 32, 116, 111, 111, 107, 32, 118, 105, 108, 108, 97, 103, 101, 32, 110, 101, 101, 100, 115, 32, 114, 111, 97, 100, 32, 99, 97, 114, 114, 105, 101, 115, 32, 116, 97, 107, 101, 115, 32, 97, 100, 100, 115, 32, 105, 102, 32, 116, 104, 101, 110, 32, 101, 108, 115, 101, 32, 101, 110, 100, 32, 119, 101, 115, 116, 32, 115, 101, 101, 110, 32, 97, 110, 100, 32, 111, 114, 32, 110, 111, 116, 32] : List Int32) (nI (sT m + i)) = 32) ∧ chF ([32, 99, 111, 97, 115, 116, 32, 119, 101, 97, 116, 104, 101, 114, 32, 104, 105, 108, 108, 32, 115, 116, 97, 99, 107, 32, 102, 101, 97, 114, 32, 103, 97, 112, 32, 116, 111, 111, 107, 32, 118, 105, 108, 108, 97, 103, 101, 32, 110, 101, 101, 100, 115, 32, 114, 111, 97, 100, 32, 99, 97, 114, 114, 105, 101, 115, 32, 116, 97, 107, 101, 115, 32, 97, 100, 100, 115, 32, 105, 102, 32, 116, 104, 101, 110, 32, 101, 108, 115, 101, 32, 101, 110, 100, 32, 119, 101, 115, 116, 32, 115, 101, 101, 110, 32, 97, 110, 100, 32, 111, 114, 32, 110, 111, 116, 32] : List Int32) (nI (sT m + kl m)) = 32 ∧ sT (m + 1) = sT m + kl m + 1 ∧ sT m + kl m ≤ 115 ∧ 1 ≤ sT m := by decide +kernel
def KA (T : Nat → Int32) (a b k n : Int32) : Prop := ∃ m : Nat, m ≤ 22 ∧ n = nI m ∧ k = nI (sT m) ∧ ∀ j : Nat, j < m → mtB T a b (KWS.getD j []) = false
def KJ (T : Nat → Int32) (a b k i : Int32) : Prop := ∀ j : Nat, (j : Int) < i.toInt → ¬ chF ([32, 99, 111, 97, 115, 116, 32, 119, 101, 97, 116, 104, 101, 114, 32, 104, 105, 108, 108, 32, 115, 116, 97, 99, 107, 32, 102, 101, 97, 114, 32, 103, 97, 112, 32, 116, 111, 111, 107, 32, 118, 105, 108, 108, 97, 103, 101, 32, 110, 101, 101, 100, 115, 32, 114, 111, 97, 100, 32, 99, 97, 114, 114, 105, 101, 115, 32, 116, 97, 107, 101, 115, 32, 97, 100, 100, 115, 32, 105, 102, 32, 116, 104, 101, 110, 32, 101, 108, 115, 101, 32, 101, 110, 100, 32, 119, 101, 115, 116, 32, 115, 101, 101, 110, 32, 97, 110, 100, 32, 111, 114, 32, 110, 111, 116, 32] : List Int32) (k + nI j) = 32 ∧ T (a + nI j).toNatClampNeg = chF ([32, 99, 111, 97, 115, 116, 32, 119, 101, 97, 116, 104, 101, 114, 32, 104, 105, 108, 108, 32, 115, 116, 97, 99, 107, 32, 102, 101, 97, 114, 32, 103, 97, 112, 32, 116, 111, 111, 107, 32, 118, 105, 108, 108, 97, 103, 101, 32, 110, 101, 101, 100, 115, 32, 114, 111, 97, 100, 32, 99, 97, 114, 114, 105, 101, 115, 32, 116, 97, 107, 101, 115, 32, 97, 100, 100, 115, 32, 105, 102, 32, 116, 104, 101, 110, 32, 101, 108, 115, 101, 32, 101, 110, 100, 32, 119, 101, 115, 116, 32, 115, 101, 101, 110, 32, 97, 110, 100, 32, 111, 114, 32, 110, 111, 116, 32] : List Int32) (k + nI j) ∧ a.toInt + j < b.toInt
theorem KA_0 {T : Nat → Int32} {a b : Int32} : KA T a b 1 0 := ⟨0, by decide, rfl, by decide, fun j hj => by omega⟩
theorem KJ_0 {T : Nat → Int32} {a b k : Int32} : KJ T a b k 0 := fun j hj => by rw [(by decide : (0 : Int32).toInt = 0)] at hj; omega
theorem KJ_s {T : Nat → Int32} {a b k i i' x c y z d : Int32} {lo up : Int} (h : KJ T a b k i) (hi : iv lo up i) (hb : 0 ≤ lo ∧ up ≤ 200) (ha : iv 0 900 a) (ex : x = k + i) (ec : c = chF ([32, 99, 111, 97, 115, 116, 32, 119, 101, 97, 116, 104, 101, 114, 32, 104, 105, 108, 108, 32, 115, 116, 97, 99, 107, 32, 102, 101, 97, 114, 32, 103, 97, 112, 32, 116, 111, 111, 107, 32, 118, 105, 108, 108, 97, 103, 101, 32, 110, 101, 101, 100, 115, 32, 114, 111, 97, 100, 32, 99, 97, 114, 114, 105, 101, 115, 32, 116, 97, 107, 101, 115, 32, 97, 100, 100, 115, 32, 105, 102, 32, 116, 104, 101, 110, 32, 101, 108, 115, 101, 32, 101, 110, 100, 32, 119, 101, 115, 116, 32, 115, 101, 101, 110, 32, 97, 110, 100, 32, 111, 114, 32, 110, 111, 116, 32] : List Int32) x) (hc : ¬ c = 32) (ey : y = a + i) (hy : y < b) (ez : z = T y.toNatClampNeg) (hz : z = c) (ei : i' = i + 1) : KJ T a b k i' := fun j hj => by
  have i1 := hi.1
  have i2 := hi.2
  have a1 := ha.1
  have a2 := ha.2
  have e1 := inc_toInt ei hi (by omega)
  by_cases q : (j : Int) < i.toInt
  · exact h j q
  · obtain ⟨m, hm, e⟩ := nI_of (iv_n0lt hi hb.1)
    have hm2 : i.toInt = m := by rw [e, nI_toInt hm]
    have jm : j = m := by omega
    subst jm
    have ey2 : y.toInt = a.toInt + i.toInt := by rw [ey, Int32.toInt_add, iv_bm (by omega) (by omega)]
    rw [Int32.lt_iff_toInt_lt] at hy
    rw [← e, ← ex, ← ec, ← ey, ← ez]
    exact ⟨hc, hz, by omega⟩
/-- what a stop within a word says -/
theorem KJ_m {T : Nat → Int32} {a b k i n : Int32} {m : Nat} {lo up : Int} (hm : m < 22) (ek : k = nI (sT m)) (h : KJ T a b k i) (hi : iv lo up i) (hb : 0 ≤ lo ∧ up ≤ 200) : i.toNatClampNeg ≤ kl m ∧ (i.toNatClampNeg : Int) = i.toInt ∧ (∀ j : Nat, k + nI j = nI (sT m + j)) := by
  have i1 := hi.1
  have cl := clampNat (x := i) (by omega)
  obtain ⟨t1, t2, t3, t4, t5⟩ := kt_ok m hm
  have ad : ∀ j : Nat, k + nI j = nI (sT m + j) := fun j => by rw [ek]; exact (nI_add _ _)
  refine ⟨?_, cl, ad⟩
  by_cases z : i.toNatClampNeg ≤ kl m
  · exact z
  · exfalso
    have y := (h (kl m) (by omega)).1
    rw [ad] at y
    exact y t2
theorem ka_hit {T : Nat → Int32} {a b k n i x c y : Int32} {lo up : Int} (g : KA T a b k n) (hk : k.toInt < 116) (h : KJ T a b k i) (hi : iv lo up i) (hb : 0 ≤ lo ∧ up ≤ 200) (ha : iv 0 900 a) (ex : x = k + i) (ec : c = chF ([32, 99, 111, 97, 115, 116, 32, 119, 101, 97, 116, 104, 101, 114, 32, 104, 105, 108, 108, 32, 115, 116, 97, 99, 107, 32, 102, 101, 97, 114, 32, 103, 97, 112, 32, 116, 111, 111, 107, 32, 118, 105, 108, 108, 97, 103, 101, 32, 110, 101, 101, 100, 115, 32, 114, 111, 97, 100, 32, 99, 97, 114, 114, 105, 101, 115, 32, 116, 97, 107, 101, 115, 32, 97, 100, 100, 115, 32, 105, 102, 32, 116, 104, 101, 110, 32, 101, 108, 115, 101, 32, 101, 110, 100, 32, 119, 101, 115, 116, 32, 115, 101, 101, 110, 32, 97, 110, 100, 32, 111, 114, 32, 110, 111, 116, 32] : List Int32) x) (hc : c = 32) (ey : y = a + i) (hy : y = b) : n = kyF T a b 0 KWS := by
  obtain ⟨m, hm, en, ek, hf⟩ := g
  have hm2 : m < 22 := by
    rcases Nat.lt_or_ge m 22 with z | z
    · exact z
    · exfalso
      have : m = 22 := by omega
      subst this
      rw [ek] at hk; exact absurd hk (by decide)
  obtain ⟨k1, k2, k3⟩ := KJ_m (n := n) hm2 ek h hi hb
  obtain ⟨t1, t2, t3, t4, t5⟩ := kt_ok m hm2
  have i1 := hi.1
  have i2 := hi.2
  have a1 := ha.1
  have a2 := ha.2
  have il : i.toNatClampNeg = kl m := by
    rcases Nat.lt_or_ge i.toNatClampNeg (kl m) with z | z
    · exfalso
      have w := (t1 _ z).2
      have e2 : nI i.toNatClampNeg = i := Int32.toInt_inj.mp (by rw [nI_toInt (by omega)]; exact k2)
      rw [← k3, e2, ← ex, ← ec] at w
      exact w hc
    · omega
  have mt : mtB T a b (KWS.getD m []) = true := by
    rw [mtB_iff]
    have e2 : nI (kl m) = i := Int32.toInt_inj.mp (by rw [nI_toInt (by omega)]; omega)
    refine ⟨?_, fun j hj => ?_⟩
    · show nI (kl m) = b - a
      rw [e2, ← hy, ey]
      refine Int32.toInt_inj.mp ?_
      rw [Int32.toInt_sub, Int32.toInt_add, iv_bm (z := a.toInt + i.toInt) (by omega) (by omega), iv_bm (by omega) (by omega)]; omega
    · have w := h j (by show (j : Int) < i.toInt; have : j < kl m := hj; omega)
      rw [k3] at w
      exact w.2.1.trans (t1 j hj).1
  rcases kyF_sp T a b KWS 0 with ⟨-, z⟩ | ⟨m', hm', z1, z2⟩
  · have me : KWS.getD m [] ∈ KWS := by rw [List.getD_eq_getElem?_getD, List.getElem?_eq_getElem hm2]; exact List.getElem_mem hm2
    exact absurd mt (ntB _ (z _ me))
  · have hm3 : m' < 22 := hm'
    have me : ∀ i : Nat, i < 22 → KWS.getD i [] ∈ KWS := fun i hi => by rw [List.getD_eq_getElem?_getD, List.getElem?_eq_getElem hi]; exact List.getElem_mem hi
    have ew := mt_inj (kws_ok _ (me m hm2)).1 (kws_ok _ (me m' hm3)).1 mt z2
    have kk := congrArg kL ew
    rw [(kws_k m hm2).1, (kws_k m' hm3).1] at kk
    rw [z1, Nat.zero_add, en]; exact kk
theorem ka_miss {T : Nat → Int32} {a b k n i x c y : Int32} {lo up : Int} (g : KA T a b k n) (hk : k.toInt < 116) (h : KJ T a b k i) (hi : iv lo up i) (hb : 0 ≤ lo ∧ up ≤ 200) (ha : iv 0 900 a) (hbb : iv 0 900 b) (hab : a.toInt ≤ b.toInt) (ex : x = k + i) (ec : c = chF ([32, 99, 111, 97, 115, 116, 32, 119, 101, 97, 116, 104, 101, 114, 32, 104, 105, 108, 108, 32, 115, 116, 97, 99, 107, 32, 102, 101, 97, 114, 32, 103, 97, 112, 32, 116, 111, 111, 107, 32, 118, 105, 108, 108, 97, 103, 101, 32, 110, 101, 101, 100, 115, 32, 114, 111, 97, 100, 32, 99, 97, 114, 114, 105, 101, 115, 32, 116, 97, 107, 101, 115, 32, 97, 100, 100, 115, 32, 105, 102, 32, 116, 104, 101, 110, 32, 101, 108, 115, 101, 32, 101, 110, 100, 32, 119, 101, 115, 116, 32, 115, 101, 101, 110, 32, 97, 110, 100, 32, 111, 114, 32, 110, 111, 116, 32] : List Int32) x) (ey : y = a + i) (st : (¬ c = 32 ∧ (¬ y < b ∨ ¬ T y.toNatClampNeg = c)) ∨ (c = 32 ∧ ¬ y = b)) : ∃ m : Nat, m < 22 ∧ n = nI m ∧ k = nI (sT m) ∧ ∀ j : Nat, j < m + 1 → mtB T a b (KWS.getD j []) = false := by
  obtain ⟨m, hm, en, ek, hf⟩ := g
  have hm2 : m < 22 := by
    rcases Nat.lt_or_ge m 22 with z | z
    · exact z
    · exfalso
      have : m = 22 := by omega
      subst this
      rw [ek] at hk; exact absurd hk (by decide)
  obtain ⟨k1, k2, k3⟩ := KJ_m (n := n) hm2 ek h hi hb
  obtain ⟨t1, t2, t3, t4, t5⟩ := kt_ok m hm2
  have i1 := hi.1
  have i2 := hi.2
  have a1 := ha.1
  have a2 := ha.2
  have b1 := hbb.1
  have b2 := hbb.2
  have e2 : nI i.toNatClampNeg = i := Int32.toInt_inj.mp (by rw [nI_toInt (by omega)]; exact k2)
  have cx : c = chF ([32, 99, 111, 97, 115, 116, 32, 119, 101, 97, 116, 104, 101, 114, 32, 104, 105, 108, 108, 32, 115, 116, 97, 99, 107, 32, 102, 101, 97, 114, 32, 103, 97, 112, 32, 116, 111, 111, 107, 32, 118, 105, 108, 108, 97, 103, 101, 32, 110, 101, 101, 100, 115, 32, 114, 111, 97, 100, 32, 99, 97, 114, 114, 105, 101, 115, 32, 116, 97, 107, 101, 115, 32, 97, 100, 100, 115, 32, 105, 102, 32, 116, 104, 101, 110, 32, 101, 108, 115, 101, 32, 101, 110, 100, 32, 119, 101, 115, 116, 32, 115, 101, 101, 110, 32, 97, 110, 100, 32, 111, 114, 32, 110, 111, 116, 32] : List Int32) (nI (sT m + i.toNatClampNeg)) := by rw [ec, ex, ← k3, e2]
  have ey2 : y.toInt = a.toInt + i.toInt := by rw [ey, Int32.toInt_add, iv_bm (by omega) (by omega)]
  refine ⟨m, hm2, en, ek, fun j hj => ?_⟩
  rcases Nat.lt_or_ge j m with z | z
  · exact hf j z
  · have jm : j = m := by omega
    subst jm
    refine Bool.eq_false_iff.mpr (fun mt => ?_)
    obtain ⟨m1, m2⟩ := mtB_iff.mp mt
    have m1 : nI (kl j) = b - a := m1
    have l1 : (kl j : Int) = b.toInt - a.toInt := by
      have w := congrArg Int32.toInt m1
      rw [nI_toInt (by omega), Int32.toInt_sub, iv_bm (by omega) (by omega)] at w; exact w
    rcases st with ⟨s1, s2⟩ | ⟨s1, s2⟩
    · have il : i.toNatClampNeg < kl j := by
        rcases Nat.lt_or_ge i.toNatClampNeg (kl j) with w | w
        · exact w
        · exfalso
          have : i.toNatClampNeg = kl j := by omega
          rw [this] at cx; exact s1 (cx.trans t2)
      rcases s2 with s2 | s2
      · rw [Int32.lt_iff_toInt_lt] at s2; omega
      · have w := m2 i.toNatClampNeg il
        rw [e2, ← ey] at w
        exact s2 (w.trans ((t1 _ il).1.symm.trans cx.symm))
    · have il : i.toNatClampNeg = kl j := by
        rcases Nat.lt_or_ge i.toNatClampNeg (kl j) with w | w
        · exact absurd (cx.symm.trans s1) (t1 _ w).2
        · omega
      exact s2 (Int32.toInt_inj.mp (by omega))
def KS (T : Nat → Int32) (a b k0 k n : Int32) : Prop := ∃ m i : Nat, m < 22 ∧ n = nI m ∧ k0 = nI (sT m) ∧ i ≤ kl m ∧ k = nI (sT m + i) ∧ ∀ j : Nat, j < m + 1 → mtB T a b (KWS.getD j []) = false
theorem KS_0 {T : Nat → Int32} {a b k n : Int32} (h : ∃ m : Nat, m < 22 ∧ n = nI m ∧ k = nI (sT m) ∧ ∀ j : Nat, j < m + 1 → mtB T a b (KWS.getD j []) = false) : KS T a b k k n := by
  obtain ⟨m, h1, h2, h3, h4⟩ := h
  exact ⟨m, 0, h1, h2, h3, by omega, h3, h4⟩
theorem nJ_1 (m : Nat) : nI m + 1 = nI (m + 1) := nI_add m 1
theorem KS_s {T : Nat → Int32} {a b k0 k k' n c : Int32} (h : KS T a b k0 k n) (ec : c = chF ([32, 99, 111, 97, 115, 116, 32, 119, 101, 97, 116, 104, 101, 114, 32, 104, 105, 108, 108, 32, 115, 116, 97, 99, 107, 32, 102, 101, 97, 114, 32, 103, 97, 112, 32, 116, 111, 111, 107, 32, 118, 105, 108, 108, 97, 103, 101, 32, 110, 101, 101, 100, 115, 32, 114, 111, 97, 100, 32, 99, 97, 114, 114, 105, 101, 115, 32, 116, 97, 107, 101, 115, 32, 97, 100, 100, 115, 32, 105, 102, 32, 116, 104, 101, 110, 32, 101, 108, 115, 101, 32, 101, 110, 100, 32, 119, 101, 115, 116, 32, 115, 101, 101, 110, 32, 97, 110, 100, 32, 111, 114, 32, 110, 111, 116, 32] : List Int32) k) (hc : ¬ c = 32) (ek : k' = k + 1) : KS T a b k0 k' n := by
  obtain ⟨m, i, h1, h2, h3, h4, h5, h6⟩ := h
  obtain ⟨t1, t2, t3, t4, t5⟩ := kt_ok m h1
  refine ⟨m, i + 1, h1, h2, h3, ?_, ?_, h6⟩
  · rcases Nat.lt_or_ge i (kl m) with z | z
    · omega
    · exfalso
      have : i = kl m := by omega
      rw [ec, h5, this] at hc; exact hc t2
  · rw [ek, h5, nJ_1, Nat.add_assoc]
theorem KS_e {T : Nat → Int32} {a b k0 k k' n n' c : Int32} (h : KS T a b k0 k n) (ec : c = chF ([32, 99, 111, 97, 115, 116, 32, 119, 101, 97, 116, 104, 101, 114, 32, 104, 105, 108, 108, 32, 115, 116, 97, 99, 107, 32, 102, 101, 97, 114, 32, 103, 97, 112, 32, 116, 111, 111, 107, 32, 118, 105, 108, 108, 97, 103, 101, 32, 110, 101, 101, 100, 115, 32, 114, 111, 97, 100, 32, 99, 97, 114, 114, 105, 101, 115, 32, 116, 97, 107, 101, 115, 32, 97, 100, 100, 115, 32, 105, 102, 32, 116, 104, 101, 110, 32, 101, 108, 115, 101, 32, 101, 110, 100, 32, 119, 101, 115, 116, 32, 115, 101, 101, 110, 32, 97, 110, 100, 32, 111, 114, 32, 110, 111, 116, 32] : List Int32) k) (hc : c = 32) (ek : k' = k + 1) (en : n' = n + 1) : KA T a b k' n' := by
  obtain ⟨m, i, h1, h2, h3, h4, h5, h6⟩ := h
  obtain ⟨t1, t2, t3, t4, t5⟩ := kt_ok m h1
  have il : i = kl m := by
    rcases Nat.lt_or_ge i (kl m) with z | z
    · exfalso
      rw [ec, h5] at hc; exact (t1 i z).2 hc
    · omega
  exact ⟨m + 1, by omega, by rw [en, h2, nJ_1], by rw [ek, h5, il, t3, nJ_1], h6⟩
theorem KA_e {T : Nat → Int32} {a b k n : Int32} (g : KA T a b k n) (hk : ¬ k < 116) : (22 : Int32) = kyF T a b 0 KWS := by
  obtain ⟨m, hm, en, ek, hf⟩ := g
  have hm2 : m = 22 := by
    rcases Nat.lt_or_ge m 22 with z | z
    · exfalso
      have t := kt_ok m z
      rw [Int32.lt_iff_toInt_lt, ek, nI_toInt (by omega), (by decide : (116 : Int32).toInt = 116)] at hk; omega
    · omega
  rcases kyF_sp T a b KWS 0 with ⟨z, -⟩ | ⟨m', hm', z1, z2⟩
  · exact z.symm
  · have hm3 : m' < 22 := hm'
    exact absurd z2 (ntB _ (hf m' (by omega)))

theorem na_2 {X : TX} {q : Sg} (h : isQ X q 2 = true) : naP X q = nxP X (puP 1000 q) := by unfold naP; rw [if_pos h]
theorem na_3 {X : TX} {q : Sg} (h : isQ X q 3 = true) : naP X q = nxP X (puP 1001 q) := by unfold naP; rw [if_neg (ntB _ (isQ_o h (by decide))), if_pos h]
theorem na_17 {X : TX} {q : Sg} (h : isQ X q 17 = true) : naP X q = nxP X (puP 1002 q) := by unfold naP; rw [if_neg (ntB _ (isQ_o h (by decide))), if_neg (ntB _ (isQ_o h (by decide))), if_pos h]
theorem na_18 {X : TX} {q : Sg} (h : isQ X q 18 = true) : naP X q = nxP X (puP 1003 q) := by unfold naP; rw [if_neg (ntB _ (isQ_o h (by decide))), if_neg (ntB _ (isQ_o h (by decide))), if_neg (ntB _ (isQ_o h (by decide))), if_pos h]
theorem na_4 {X : TX} {q : Sg} (h : isQ X q 4 = true) : naP X q = nxP X (puP 1004 q) := by unfold naP; rw [if_neg (ntB _ (isQ_o h (by decide))), if_neg (ntB _ (isQ_o h (by decide))), if_neg (ntB _ (isQ_o h (by decide))), if_neg (ntB _ (isQ_o h (by decide))), if_pos h]
theorem na_1 {X : TX} {q : Sg} (h : isQ X q 1 = true) : naP X q = nxP X (puP 1005 q) := by unfold naP; rw [if_neg (ntB _ (isQ_o h (by decide))), if_neg (ntB _ (isQ_o h (by decide))), if_neg (ntB _ (isQ_o h (by decide))), if_neg (ntB _ (isQ_o h (by decide))), if_neg (ntB _ (isQ_o h (by decide))), if_pos h]
theorem woF_k {k : Int32} (h : ¬ woF k = -1) : k = 2 ∨ k = 3 ∨ k = 17 ∨ k = 18 ∨ k = 4 ∨ k = 1 := by
  unfold woF at h
  by_cases a : k = 2
  · exact Or.inl a
  · rw [if_neg a] at h
    by_cases b : k = 3
    · exact Or.inr (Or.inl b)
    · rw [if_neg b] at h
      by_cases c : k = 17
      · exact Or.inr (Or.inr (Or.inl c))
      · rw [if_neg c] at h
        by_cases d : k = 18
        · exact Or.inr (Or.inr (Or.inr (Or.inl d)))
        · rw [if_neg d] at h
          by_cases e : k = 4
          · exact Or.inr (Or.inr (Or.inr (Or.inr (Or.inl e))))
          · rw [if_neg e] at h
            by_cases f : k = 1
            · exact Or.inr (Or.inr (Or.inr (Or.inr (Or.inr f))))
            · rw [if_neg f] at h; exact absurd rfl h
theorem aoP_wo {T : Nat → Int32} {n : Int32} {q : Sg} {wr wa ki a be nu wo ad : Int32} {tr sm : Sg → Sg} {full : Bool} (h : RZ T n q wr wa ki a be nu) (w : q.1 = 0) (c : ¬ wo = -1) (ewo : wo = woF ki) (ea : ad = 1000 + wo) : aoP (tkX T n) tr sm full q = nxP (tkX T n) (puP ad q) := by
  have k := (RZ_q h w).2.1
  rw [ewo] at c
  have is : isQ (tkX T n) q ki = true := isQ_iff.mpr ⟨w, k.symm⟩
  have c' := woF_k c
  rw [ea, ewo]
  rcases c' with z | z | z | z | z | z <;> subst z
  · exact (aoP_na (isQ_o is (by decide)) (isQ_o is (by decide)) (isQ_o is (by decide))).trans (na_2 is)
  · exact (aoP_na (isQ_o is (by decide)) (isQ_o is (by decide)) (isQ_o is (by decide))).trans (na_3 is)
  · exact (aoP_na (isQ_o is (by decide)) (isQ_o is (by decide)) (isQ_o is (by decide))).trans (na_17 is)
  · exact (aoP_na (isQ_o is (by decide)) (isQ_o is (by decide)) (isQ_o is (by decide))).trans (na_18 is)
  · exact (aoP_na (isQ_o is (by decide)) (isQ_o is (by decide)) (isQ_o is (by decide))).trans (na_4 is)
  · exact (aoP_na (isQ_o is (by decide)) (isQ_o is (by decide)) (isQ_o is (by decide))).trans (na_1 is)
theorem nw_0 {T : Nat → Int32} {n : Int32} {q : Sg} {wr wa ki a be nu : Int32} (h : RZ T n q wr wa ki a be nu) (c : ¬ wr = 0 ∨ woF ki = -1) : naP (tkX T n) q = flP (tkX T n) 2 q := by
  have f : ∀ k : Int32, ¬ k = 25 → ¬ woF k = -1 → isQ (tkX T n) q k = false := fun k h5 hw => by
    refine Bool.eq_false_iff.mpr (fun z => ?_)
    obtain ⟨z1, z2⟩ := (RZ_is h h5).mpr z
    rcases c with c | c
    · exact c z1
    · rw [z2] at c; exact hw c
  unfold naP
  rw [if_neg (ntB _ (f 2 (by decide) (by decide))), if_neg (ntB _ (f 3 (by decide) (by decide))), if_neg (ntB _ (f 17 (by decide) (by decide))), if_neg (ntB _ (f 18 (by decide) (by decide))), if_neg (ntB _ (f 4 (by decide) (by decide))), if_neg (ntB _ (f 1 (by decide) (by decide)))]
theorem tz_v {T : Nat → Int32} {n : Int32} {q : Sg} {wr wa ki a be nu : Int32} (h : RZ T n q wr wa ki a be nu) (b : isQ (tkX T n) q 23 = true) : nu = (tkX T n q.2.2.1).2.2.2 := by
  obtain ⟨b1, b2⟩ := isQ_iff.mp b
  obtain ⟨z1, z2, z3⟩ := RZ_q h b1
  exact z3 (z2.trans b2)
theorem tz_1 {T : Nat → Int32} {n m : Int32} {q : Sg} {wr wa ki a be nu : Int32} {j k : Int64} (h : RZ T n q wr wa ki a be nu) (b : isQ (tkX T n) q 23 = true) (ej : j = nu.toInt64) (ek : k = m.toInt64) (le : j ≤ k) : (tkX T n q.2.2.1).2.2.2 ≤ m := by
  rw [← tz_v h b]
  rw [Int64.le_iff_toInt_le, ej, ek, toI64, toI64] at le
  exact Int32.le_iff_toInt_le.mpr le
theorem tz_3 {T : Nat → Int32} {n l m : Int32} {q : Sg} {wr wa ki a be nu : Int32} {j jl k : Int64} (h : RZ T n q wr wa ki a be nu) (b : isQ (tkX T n) q 23 = true) (z : l = 0) (hu : iv 0 999 nu) (ej : j = nu.toInt64) (el : jl = l.toInt64) (ek : k = m.toInt64) (g : ¬ (jl ≤ j ∧ j ≤ k)) : ¬ (tkX T n q.2.2.1).2.2.2 ≤ m := fun y => by
  rw [← tz_v h b] at y
  have u := hu.1
  have y' := Int32.le_iff_toInt_le.mp y
  rw [Int64.le_iff_toInt_le, Int64.le_iff_toInt_le, ej, el, ek, toI64, toI64, toI64, z, (by decide : (0 : Int32).toInt = 0)] at g
  exact g ⟨u, y'⟩
theorem RD_z {T : Nat → Int32} {n : Int32} {q : Sg} {wr wa ki a be nu : Int32} {d : Nat → Int32} {ln h v r : Int32} (g : RZ T n q wr wa ki a be nu) (w : ¬ wr = 0) : RD q.1 d ln h v r := fun z => by
  exact absurd ((RZ_w g w).1.trans z) w
theorem gh_w {X : TX} {q : Sg} (h : ¬ q.1 = 0) (m : Nat) : ghP X m q = q := ghP_0 (isQ_w h) (isQ_w h) m
/-- the reference, at the end -/
theorem RE_z {T : Nat → Int32} {n : Int32} {q : Sg} {d : Nat → Int32} {wr wa ki a be nu l h v r fp ln : Int32} (g : RZ T n q wr wa ki a be nu) (b : RD q.1 d l h v r) (e : (q, d) = txP (tkX T n)) (hk : wr = 0 → q.1 = 0) (hp : wr = 0 → fp = -1) (hq : ¬ wr = 0 → fp = wa) (hl : wr = 0 → ln = l) : RE T n wr fp ln := by
  unfold RE
  rw [← e]
  by_cases w : wr = 0
  · have q0 := hk w
    refine ⟨w.trans q0.symm, ?_, fun _ => (hl w).trans (b q0).1⟩
    show fp = if q.1 = 0 then -1 else q.2.1
    rw [if_pos q0]; exact hp w
  · obtain ⟨z1, z2⟩ := RZ_w g w
    refine ⟨z1, ?_, fun z => absurd z w⟩
    show fp = if q.1 = 0 then -1 else q.2.1
    rw [if_neg (fun z => w (z1.trans z))]; exact (hq w).trans z2
theorem lp_k {T : Nat → Int32} {n : Int32} {q : Sg} {wr wa ki a be nu : Int32} (h : RZ T n q wr wa ki a be nu) (k : ki = 24) : ¬ (q.1 = 0 ∧ ¬ (tkX T n q.2.2.1).2.2.1 = 24) := fun ⟨w, z⟩ => z ((RZ_q h w).2.1.symm.trans k)
theorem lp_w {T : Nat → Int32} {n : Int32} {q : Sg} {wr wa ki a be nu : Int32} (h : RZ T n q wr wa ki a be nu) (w : ¬ wr = 0) : ¬ (q.1 = 0 ∧ ¬ (tkX T n q.2.2.1).2.2.1 = 24) := fun ⟨y, _⟩ => w ((RZ_w h w).1.trans y)

theorem CPL {k : Int32} {f g : Nat → Int32} (h : CPY k f g) (hk : ¬ k < 1025) : f (0 : Int32).toNatClampNeg = g (0 : Int32).toNatClampNeg := by
  rw [Int32.lt_iff_toInt_lt, (by decide : (1025 : Int32).toInt = 1025)] at hk
  exact h.1 0 (by omega)
theorem CDz_pu {T : Nat → Int32} {n : Int32} {q : Sg} {wr wa ki a be nu c c' : Int32} {f f' : Nat → Int32} (h : RZ T n q wr wa ki a be nu) (hc : CDz q f) (e : wr = 0 → f' = cdF f c') (ec : c' = c) (t : wr = 0 → (f 124).toInt ≤ 899) : CDz (puP c q) f' := fun w => by
  have w0 : q.1 = 0 := (SK9_p (n := 0) c q).1 w
  obtain ⟨c1, c0, c2⟩ := hc w0
  have z := (RZ_q h w0).1
  have t2 := t z
  have pe : (puP c q).2.2.2 = q.2.2.2 ++ [c] := by unfold puP; rw [if_pos w0]
  rw [c1, nI_toInt (by omega)] at t2
  have ix : ((125 : Int32) + f (124 : Int32).toNatClampNeg).toNatClampNeg = 125 + q.2.2.2.length := by
    have y : ((125 : Int32) + f 124).toInt = 125 + (q.2.2.2.length : Int) := by rw [c1, Int32.toInt_add, nI_toInt (by omega), (by decide : (125 : Int32).toInt = 125), iv_bm (by omega) (by omega)]
    have k : ((125 : Int32) + f (124 : Int32).toNatClampNeg).toInt = 125 + (q.2.2.2.length : Int) := y
    have := clampNat (x := (125 : Int32) + f (124 : Int32).toNatClampNeg) (by omega)
    omega
  have v : ∀ j : Nat, f' j = if j = 124 then f 124 + 1 else if j = 125 + q.2.2.2.length then c' else f j := fun j => by
    rw [e z]; unfold cdF; rw [ix]; rfl
  rw [pe, List.length_append, List.length_singleton]
  refine ⟨by rw [v, if_pos rfl, c1]; exact nI_add _ 1, by omega, fun j hj => ?_⟩
  rw [getD_a, v, if_neg (by omega)]
  by_cases y : j < q.2.2.2.length
  · rw [if_pos y, if_neg (by omega)]; exact c2 j y
  · have y2 : j = q.2.2.2.length := by omega
    rw [if_neg y, if_pos y2, if_pos (by omega)]; exact ec

theorem CPA {k : Int32} {f g : Nat → Int32} (h : CPY k f g) (hk : ¬ k < 1025) : ∀ j : Nat, j < 1025 → f j = g j := fun j hj => by
  rw [Int32.lt_iff_toInt_lt, (by decide : (1025 : Int32).toInt = 1025)] at hk
  exact h.1 j (by omega)
theorem CDz_c {q : Sg} {f g : Nat → Int32} (h : ∀ j : Nat, j < 1025 → f j = g j) (c : CDz q g) : CDz q f := fun w => by
  obtain ⟨c1, c2, c3⟩ := c w
  exact ⟨(h 124 (by omega)).trans c1, c2, fun j hj => (h (125 + j) (by omega)).trans (c3 j hj)⟩
theorem fk_i {f f0 : Nat → Int32} {x v : Int32} {a b : Int} (e : f = upd f0 x.toNatClampNeg v) (i : iv a b x) (g : 0 ≤ a ∧ b < 1025) : ∀ j : Nat, 1025 ≤ j → f j = f0 j := fun j hj => by
  have k := clampNat (x := x) (by have := i.1; omega)
  have := i.2
  rw [e]; exact upd_ne (by omega)

