
theorem tI_lt {a b : Int32} : (a < b) = (a.toInt < b.toInt) := propext Int32.lt_iff_toInt_lt
theorem tI_le {a b : Int32} : (a ≤ b) = (a.toInt ≤ b.toInt) := propext Int32.le_iff_toInt_le
theorem tI_eq {a b : Int32} : (a = b) = (a.toInt = b.toInt) := propext Int32.toInt_inj.symm
theorem tL_lt {a b : Int64} : (a < b) = (a.toInt < b.toInt) := propext Int64.lt_iff_toInt_lt
theorem tL_le {a b : Int64} : (a ≤ b) = (a.toInt ≤ b.toInt) := propext Int64.le_iff_toInt_le
theorem tL_eq {a b : Int64} : (a = b) = (a.toInt = b.toInt) := propext Int64.toInt_inj.symm
theorem tWx (x : Int32) : x.toInt64.toInt = x.toInt := Int32.toInt_toInt64 x
theorem vp_mono {i : Int32} {n N : Nat} (h : n ≤ N) (hi : vp_in i n) : vp_in i N := fun q => hi (q.elim Or.inl (fun z => Or.inr (Nat.le_trans h z)))
theorem cpy0 (a b n : Nat) : va_cpy (fun _ => (0 : Int32)) (fun _ => 0) a b n = fun _ => 0 := by
  funext k; unfold va_cpy; split <;> rfl
theorem upd0 (k : Nat) : upd (fun _ => (0 : Int32)) k 0 = fun _ => 0 := by
  funext j; unfold upd; split <;> rfl
theorem updL0 (k : Nat) : vp_updL (fun _ => (0 : Int64)) k 0 = fun _ => 0 := by
  funext j; unfold vp_updL; split <;> rfl
theorem updup (f : Nat → Int32) (k : Nat) (a b : Int32) : upd (upd f k a) k b = upd f k b := by
  funext j; unfold upd; split <;> rfl
theorem updLup (f : Nat → Int64) (k : Nat) (a b : Int64) : vp_updL (vp_updL f k a) k b = vp_updL f k b := by
  funext j; unfold vp_updL; split <;> rfl
theorem updid {f : Nat → Int32} {k : Nat} {v : Int32} (h : f k = v) : upd f k v = f := by
  funext j; unfold upd; split
  · next e => rw [e, h]
  · rfl
theorem updLid {f : Nat → Int64} {k : Nat} {v : Int64} (h : f k = v) : vp_updL f k v = f := by
  funext j; unfold vp_updL; split
  · next e => rw [e, h]
  · rfl
theorem fill_s {f : Nat → Int32} {i : Nat} {c : Int32} (h : ∀ j : Nat, j < i → f j = c) (hi : i < 2 ^ 31) : ∀ j : Nat, j < i + 1 → upd f (nI i).toNatClampNeg c j = c := fun j hj => by
  rw [nI_clamp hi]
  unfold upd
  split
  · rfl
  · exact h j (by omega)
theorem loopW {p : Program} {l : Launch} {e : Env} {R : Room} {s : State} {m : MethodId} {args : Array Value} {below : List Frame} {meth : Method} {c : Code} {cells slots : Nat} {Q : State → Prop} (N : Nat) (X : Nat → Heap → List Loc → Array Slot → Prop) (g : Array Slot → JFrame)
    (step : ∀ (i : Nat) (H : Heap) (locs : List Loc) (ls : Array Slot), i ≤ N → X i H locs ls → (i < N → ∀ (H' : Heap) (locs' : List Loc) (ls' : Array Slot), X (i + 1) H' locs' ls' → W p l e R s m args below meth c H' locs' cells slots Q (g ls')) → W p l e R s m args below meth c H locs cells slots Q (g ls))
    (i0 : Nat) (h0 : i0 ≤ N) {H : Heap} {locs : List Loc} {ls : Array Slot} (hX : X i0 H locs ls) : W p l e R s m args below meth c H locs cells slots Q (g ls) := by
  have key : ∀ n i : Nat, N - i = n → i ≤ N → ∀ (H : Heap) (locs : List Loc) (ls : Array Slot), X i H locs ls → W p l e R s m args below meth c H locs cells slots Q (g ls) := by
    intro n
    induction n with
    | zero => intro i hn hi H locs ls hX; exact step i H locs ls hi hX (fun h => absurd h (by omega))
    | succ n ih => intro i hn hi H locs ls hX; exact step i H locs ls hi hX (fun h H' l' ls' hX' => ih (i + 1) (by omega) (by omega) H' l' ls' hX')
  exact key _ i0 rfl h0 H locs ls hX
theorem natOf {x M c : Int32} {n m : Nat} (hM : M.toInt = n) (hc : c.toInt = m) (h : c ≤ x) (h5 : x ≤ M) : ∃ j : Nat, m ≤ j ∧ j ≤ n ∧ x = nI j := by
  rw [Int32.le_iff_toInt_le] at h h5
  obtain ⟨j, hj, e⟩ := nI_of2 hM (show ¬ x < 0 by rw [Int32.lt_iff_toInt_lt, (by decide : (0 : Int32).toInt = 0)]; omega) (Int32.le_iff_toInt_le.mpr h5)
  refine ⟨j, ?_, hj, e⟩
  rw [e, nI_toInt (by have := Int32.toInt_lt M; omega)] at h
  omega

theorem updsw {f : Nat → Int32} {j k : Nat} {a b c : Int32} (h : j ≠ k) : upd (upd (upd f j a) k b) j c = upd (upd f j c) k b := by
  funext q; unfold upd
  by_cases h1 : q = j
  · rw [if_pos h1, if_neg (fun e => h (h1.symm.trans e)), if_pos h1]
  · by_cases h2 : q = k
    · rw [if_neg h1, if_pos h2, if_pos h2]
    · rw [if_neg h1, if_neg h2, if_neg h1, if_neg h2, if_neg h1]
theorem gw_ws {ws : List Cond} (ps : List Nat) (hp : ws = ps.filterMap (fun i => tables_1[i]?)) (h : ws.all goodWord = true) : ∀ w ∈ ws, w ∈ gw := fun w hw => by
  have h1 := List.all_eq_true.mp h w hw
  rw [hp] at hw
  obtain ⟨i, -, hi⟩ := List.mem_filterMap.mp hw
  exact gw_m (List.mem_append_right _ (List.mem_of_getElem? hi)) h1

def mo (z : Nat → Nat) (i0 i5 i6 i7 i8 i9 i10 i11 i12 i13 i14 i18 i19 i22 i23 i29 : Int32) : List Value := [.int i0, .ref (z 1), .ref (z 2), .ref (z 3), .ref (z 4), .int i5, .int i6, .int i7, .int i8, .int i9, .int i10, .int i11, .int i12, .int i13, .int i14, .ref (z 15), .ref (z 16), .ref (z 17), .int i18, .int i19, .ref (z 20), .ref (z 21), .int i22, .int i23, .ref (z 24), .ref (z 25), .ref (z 26), .ref (z 27), .ref (z 28), .int i29, .ref (z 30), .ref (z 31), .ref (z 32), .ref (z 33), .ref (z 34), .ref (z 35), .ref (z 36), .ref (z 37), .ref (z 38), .ref (z 39)]
theorem cpD {D : va_G} {cl : List vw_C} {A : Nat → Prop} {ws : va_W} {H : Heap} (_ : va_P D cl ws H) (h : va_D A ws) : va_D A ws := h
theorem subD {D : va_G} {cl : List vw_C} {A : Nat → Prop} {ws ws' : va_W} {H : Heap} (_ : va_P D cl ws' H) (hD : va_D A ws) (is : List Nat) (hn : va_nd is = true) (hs : is.map (fun i => ws[i]?) = ws'.map some) : va_D A ws' := hD.sub is hn hs
theorem inX0 : ∀ w ∈ wsX00, w ∈ gw := gw_ws [200, 202] (by decide +kernel) (by decide +kernel)
theorem dfX0 : ∀ j, j < 2 → defaultValue (tyX0 j) = vp_V [.int 0, .int 0] j := fun j hj => match j, hj with
  | 0, _ => rfl
  | 1, _ => rfl
  | n + 2, h => absurd h (by omega)
theorem inX1 : ∀ w ∈ wsX10, w ∈ gw := gw_ws [87, 89, 91, 93, 95, 97, 99, 101, 103, 105, 107, 109, 111, 113, 115, 117, 119, 121] (by decide +kernel) (by decide +kernel)
theorem dfX1 : ∀ j, j < 18 → defaultValue (tyX1 j) = vp_V [.int 0, .int 0, .int 0, .int 0, .int 0, .int 0, .null, .null, .null, .null, .null, .null, .null, .int 0, .int 0, .int 0, .int 0, .int 0] j := fun j hj => match j, hj with
  | 0, _ => rfl
  | 1, _ => rfl
  | 2, _ => rfl
  | 3, _ => rfl
  | 4, _ => rfl
  | 5, _ => rfl
  | 6, _ => rfl
  | 7, _ => rfl
  | 8, _ => rfl
  | 9, _ => rfl
  | 10, _ => rfl
  | 11, _ => rfl
  | 12, _ => rfl
  | 13, _ => rfl
  | 14, _ => rfl
  | 15, _ => rfl
  | 16, _ => rfl
  | 17, _ => rfl
  | n + 18, h => absurd h (by omega)
theorem inX2 : ∀ w ∈ wsX20, w ∈ gw := gw_ws [1068, 1070, 1072, 1074, 1076, 1078, 1080] (by decide +kernel) (by decide +kernel)
theorem dfX2 : ∀ j, j < 7 → defaultValue (tyX2 j) = vp_V [.int 0, .null, .null, .null, .null, .null, .int 0] j := fun j hj => match j, hj with
  | 0, _ => rfl
  | 1, _ => rfl
  | 2, _ => rfl
  | 3, _ => rfl
  | 4, _ => rfl
  | 5, _ => rfl
  | 6, _ => rfl
  | n + 7, h => absurd h (by omega)
theorem inX3 : ∀ w ∈ wsX30, w ∈ gw := gw_ws [265, 267, 269, 271, 273] (by decide +kernel) (by decide +kernel)
theorem dfX3 : ∀ j, j < 5 → defaultValue (tyX3 j) = vp_V [.null, .int 0, .int 0, .int 0, .int 0] j := fun j hj => match j, hj with
  | 0, _ => rfl
  | 1, _ => rfl
  | 2, _ => rfl
  | 3, _ => rfl
  | 4, _ => rfl
  | n + 5, h => absurd h (by omega)
theorem inX4 : ∀ w ∈ wsX40, w ∈ gw := gw_ws [177, 179, 181, 183, 185, 187] (by decide +kernel) (by decide +kernel)
theorem dfX4 : ∀ j, j < 6 → defaultValue (tyX4 j) = vp_V [.null, .null, .null, .null, .null, .null] j := fun j hj => match j, hj with
  | 0, _ => rfl
  | 1, _ => rfl
  | 2, _ => rfl
  | 3, _ => rfl
  | 4, _ => rfl
  | 5, _ => rfl
  | n + 6, h => absurd h (by omega)
theorem inX5 : ∀ w ∈ wsX50, w ∈ gw := gw_ws [219, 221, 223, 225] (by decide +kernel) (by decide +kernel)
theorem dfX5 : ∀ j, j < 4 → defaultValue (tyX5 j) = vp_V [.null, .null, .null, .int 0] j := fun j hj => match j, hj with
  | 0, _ => rfl
  | 1, _ => rfl
  | 2, _ => rfl
  | 3, _ => rfl
  | n + 4, h => absurd h (by omega)
theorem inX6 : ∀ w ∈ wsX60, w ∈ gw := gw_ws [146, 148, 150, 152, 154, 156, 158, 160, 162] (by decide +kernel) (by decide +kernel)
theorem dfX6 : ∀ j, j < 9 → defaultValue (tyX6 j) = vp_V [.null, .int 0, .int 0, .null, .int 0, .int 0, .int 0, .int 0, .int 0] j := fun j hj => match j, hj with
  | 0, _ => rfl
  | 1, _ => rfl
  | 2, _ => rfl
  | 3, _ => rfl
  | 4, _ => rfl
  | 5, _ => rfl
  | 6, _ => rfl
  | 7, _ => rfl
  | 8, _ => rfl
  | n + 9, h => absurd h (by omega)
theorem inX7 : ∀ w ∈ wsX70, w ∈ gw := gw_ws [244, 246, 248] (by decide +kernel) (by decide +kernel)
theorem dfX7 : ∀ j, j < 3 → defaultValue (tyX7 j) = vp_V [.null, .int 0, .int 0] j := fun j hj => match j, hj with
  | 0, _ => rfl
  | 1, _ => rfl
  | 2, _ => rfl
  | n + 3, h => absurd h (by omega)
theorem inX8 : ∀ w ∈ wsX80, w ∈ gw := gw_ws [811, 813, 815, 817, 819, 821, 823, 825, 827, 829, 831, 833, 835, 837, 839, 841, 843] (by decide +kernel) (by decide +kernel)
theorem dfX8 : ∀ j, j < 17 → defaultValue (tyX8 j) = vp_V [.int 0, .int 0, .null, .null, .null, .int 0, .int 0, .null, .null, .null, .null, .null, .null, .null, .int 0, .int 0, .int 0] j := fun j hj => match j, hj with
  | 0, _ => rfl
  | 1, _ => rfl
  | 2, _ => rfl
  | 3, _ => rfl
  | 4, _ => rfl
  | 5, _ => rfl
  | 6, _ => rfl
  | 7, _ => rfl
  | 8, _ => rfl
  | 9, _ => rfl
  | 10, _ => rfl
  | 11, _ => rfl
  | 12, _ => rfl
  | 13, _ => rfl
  | 14, _ => rfl
  | 15, _ => rfl
  | 16, _ => rfl
  | n + 17, h => absurd h (by omega)
theorem inX9 : ∀ w ∈ wsX90, w ∈ gw := gw_ws [291, 293, 295, 297, 299, 301, 303, 305, 307, 309, 311, 313, 315, 317, 319] (by decide +kernel) (by decide +kernel)
theorem dfX9 : ∀ j, j < 15 → defaultValue (tyX9 j) = vp_V [.null, .int 0, .null, .null, .null, .null, .null, .null, .null, .null, .null, .null, .int 0, .int 0, .int 0] j := fun j hj => match j, hj with
  | 0, _ => rfl
  | 1, _ => rfl
  | 2, _ => rfl
  | 3, _ => rfl
  | 4, _ => rfl
  | 5, _ => rfl
  | 6, _ => rfl
  | 7, _ => rfl
  | 8, _ => rfl
  | 9, _ => rfl
  | 10, _ => rfl
  | 11, _ => rfl
  | 12, _ => rfl
  | 13, _ => rfl
  | 14, _ => rfl
  | n + 15, h => absurd h (by omega)
theorem inX10 : ∀ w ∈ wsX100, w ∈ gw := gw_ws [1224, 1226, 1228, 1230, 1232, 1234, 1236, 1238, 1240, 1242, 1244, 1246, 1248, 1250, 1252, 1254, 1256, 1258, 1260, 1262, 1264, 1266, 1268, 1270, 1272, 1274, 1276, 1278, 1280, 1282, 1284, 1286, 1288, 1290, 1292, 1294, 1296, 1298, 1300, 1302] (by decide +kernel) (by decide +kernel)
theorem dfX10 : ∀ j, j < 40 → defaultValue (tyX10 j) = vp_V [.int 0, .null, .null, .null, .null, .int 0, .int 0, .int 0, .int 0, .int 0, .int 0, .int 0, .int 0, .int 0, .int 0, .null, .null, .null, .int 0, .int 0, .null, .null, .int 0, .int 0, .null, .null, .null, .null, .null, .int 0, .null, .null, .null, .null, .null, .null, .null, .null, .null, .null] j := fun j hj => match j, hj with
  | 0, _ => rfl
  | 1, _ => rfl
  | 2, _ => rfl
  | 3, _ => rfl
  | 4, _ => rfl
  | 5, _ => rfl
  | 6, _ => rfl
  | 7, _ => rfl
  | 8, _ => rfl
  | 9, _ => rfl
  | 10, _ => rfl
  | 11, _ => rfl
  | 12, _ => rfl
  | 13, _ => rfl
  | 14, _ => rfl
  | 15, _ => rfl
  | 16, _ => rfl
  | 17, _ => rfl
  | 18, _ => rfl
  | 19, _ => rfl
  | 20, _ => rfl
  | 21, _ => rfl
  | 22, _ => rfl
  | 23, _ => rfl
  | 24, _ => rfl
  | 25, _ => rfl
  | 26, _ => rfl
  | 27, _ => rfl
  | 28, _ => rfl
  | 29, _ => rfl
  | 30, _ => rfl
  | 31, _ => rfl
  | 32, _ => rfl
  | 33, _ => rfl
  | 34, _ => rfl
  | 35, _ => rfl
  | 36, _ => rfl
  | 37, _ => rfl
  | 38, _ => rfl
  | 39, _ => rfl
  | n + 40, h => absurd h (by omega)

def iv (a b : Int) (x : Int32) : Prop := a ≤ x.toInt ∧ x.toInt ≤ b
theorem iv_c (x : Int32) {a b : Int} (h : a ≤ x.toInt ∧ x.toInt ≤ b) : iv a b x := h
theorem iv_w {a b a' b' : Int} {x : Int32} (h : iv a b x) (h1 : a' ≤ a ∧ b ≤ b') : iv a' b' x := ⟨Int.le_trans h1.1 h.1, Int.le_trans h.2 h1.2⟩
theorem iv_top (x : Int32) : iv (-2147483648) 2147483647 x := ⟨Int32.le_toInt x, by have := Int32.toInt_lt x; omega⟩
theorem iv_bm {z : Int} (h1 : -2147483648 ≤ z) (h2 : z ≤ 2147483647) : z.bmod (2 ^ 32) = z := by
  apply Int.bmod_eq_of_le <;> omega
theorem iv_add {x y : Int32} {a b c d A B : Int} (hx : iv a b x) (hy : iv c d y) (h : A ≤ a + c ∧ b + d ≤ B ∧ -2147483648 ≤ A ∧ B ≤ 2147483647) : iv A B (x + y) := by
  unfold iv at *
  rw [Int32.toInt_add, iv_bm (by omega) (by omega)]; omega
theorem iv_sub {x y : Int32} {a b c d A B : Int} (hx : iv a b x) (hy : iv c d y) (h : A ≤ a - d ∧ b - c ≤ B ∧ -2147483648 ≤ A ∧ B ≤ 2147483647) : iv A B (x - y) := by
  unfold iv at *
  rw [Int32.toInt_sub, iv_bm (by omega) (by omega)]; omega
theorem iv_mulc {x y : Int32} {a b k A B : Int} (hx : iv a b x) (hy : iv k k y) (h : 0 ≤ k ∧ A ≤ a * k ∧ b * k ≤ B ∧ -2147483648 ≤ A ∧ B ≤ 2147483647) : iv A B (x * y) := by
  unfold iv at *
  have e : y.toInt = k := by omega
  have h1 : a * k ≤ x.toInt * k := Int.mul_le_mul_of_nonneg_right hx.1 h.1
  have h2 : x.toInt * k ≤ b * k := Int.mul_le_mul_of_nonneg_right hx.2 h.1
  rw [Int32.toInt_mul, e, iv_bm (by omega) (by omega)]; omega
theorem iv_cmul {x y : Int32} {a b k A B : Int} (hx : iv k k x) (hy : iv a b y) (h : 0 ≤ k ∧ A ≤ a * k ∧ b * k ≤ B ∧ -2147483648 ≤ A ∧ B ≤ 2147483647) : iv A B (x * y) := by
  rw [Int32.mul_comm]; exact iv_mulc hy hx h
theorem iv_nz {x : Int32} {a b : Int} (hx : iv a b x) (h : 0 < a ∨ b < 0) : ¬ x = 0 := by
  intro e
  rw [e] at hx
  unfold iv at hx
  rw [(by decide : (0 : Int32).toInt = 0)] at hx
  omega
theorem iv_in {i : Int32} {a b : Int} {n : Nat} (h : iv a b i) (h0 : 0 ≤ a ∧ b < n) : vp_in i n := by
  unfold iv at h
  rw [vp_in_iff]; omega
theorem iv_lt {x y : Int32} {a b c d : Int} (hx : iv a b x) (hy : iv c d y) (h : b < c) : x < y := by
  unfold iv at *; rw [Int32.lt_iff_toInt_lt]; omega
theorem iv_le {x y : Int32} {a b c d : Int} (hx : iv a b x) (hy : iv c d y) (h : b ≤ c) : x ≤ y := by
  unfold iv at *; rw [Int32.le_iff_toInt_le]; omega
theorem iv_nlt {x y : Int32} {a b c d : Int} (hx : iv a b x) (hy : iv c d y) (h : d ≤ a) : ¬ x < y := by
  unfold iv at *; rw [Int32.lt_iff_toInt_lt]; omega
theorem iv_nle {x y : Int32} {a b c d : Int} (hx : iv a b x) (hy : iv c d y) (h : d < a) : ¬ x ≤ y := by
  unfold iv at *; rw [Int32.le_iff_toInt_le]; omega
theorem iv_ne {x y : Int32} {a b c d : Int} (hx : iv a b x) (hy : iv c d y) (h : b < c ∨ d < a) : ¬ x = y := by
  unfold iv at *; intro e; rw [e] at hx; omega
theorem iv_l1 {x y : Int32} {a b c d B : Int} (q : x < y) (hx : iv a b x) (hy : iv c d y) (h : d - 1 ≤ B) : iv a B x := by
  unfold iv at *; rw [Int32.lt_iff_toInt_lt] at q; omega
theorem iv_l2 {x y : Int32} {a b c d A : Int} (q : x < y) (hx : iv a b x) (hy : iv c d y) (h : A ≤ a + 1) : iv A d y := by
  unfold iv at *; rw [Int32.lt_iff_toInt_lt] at q; omega
theorem iv_e1 {x y : Int32} {a b c d B : Int} (q : x ≤ y) (hx : iv a b x) (hy : iv c d y) (h : d ≤ B) : iv a B x := by
  unfold iv at *; rw [Int32.le_iff_toInt_le] at q; omega
theorem iv_e2 {x y : Int32} {a b c d A : Int} (q : x ≤ y) (hx : iv a b x) (hy : iv c d y) (h : A ≤ a) : iv A d y := by
  unfold iv at *; rw [Int32.le_iff_toInt_le] at q; omega
theorem iv_q {x y : Int32} {c d : Int} (q : x = y) (hy : iv c d y) : iv c d x := q ▸ hy
theorem iv_n0 {x y : Int32} {a b k : Int} (q : ¬ x = y) (hx : iv a b x) (hy : iv k k y) (h : a = k) : iv (k + 1) b x := by
  unfold iv at *
  have : x.toInt ≠ y.toInt := fun e => q (Int32.toInt_inj.mp e)
  omega
theorem iv_n1 {x y : Int32} {a b k : Int} (q : ¬ x = y) (hx : iv a b x) (hy : iv k k y) (h : b = k) : iv a (k - 1) x := by
  unfold iv at *
  have : x.toInt ≠ y.toInt := fun e => q (Int32.toInt_inj.mp e)
  omega
theorem ivU {f : Nat → Int32} {a b : Int} (h : ∀ j, iv a b (f j)) (k : Nat) {x : Int32} (hx : iv a b x) : ∀ j, iv a b (upd f k x j) := fun j => by
  unfold upd; split
  · exact hx
  · exact h j
theorem mu_up {i : Int32} {a b B : Int} (h : iv a b i) (hb : b < B ∧ b < 2147483647) : (B - (i + 1).toInt).toNat < (B - i.toInt).toNat := by
  unfold iv at *
  rw [Int32.toInt_add, (by decide : (1 : Int32).toInt = 1), iv_bm (by have := Int32.le_toInt i; omega) (by omega)]
  omega
theorem mu_dn {i : Int32} {a b : Int} (h : iv a b i) (hb : -2147483648 < a) : ((i + (-1)).toInt + 2147483648).toNat < (i.toInt + 2147483648).toNat := by
  unfold iv at *
  rw [Int32.toInt_add, (by decide : (-1 : Int32).toInt = -1), iv_bm (by omega) (by have := Int32.toInt_lt i; omega)]
  omega
theorem pw_iv {i : Int32} {a b : Int} (h : iv a b i) (hb : 0 ≤ a ∧ b < 5) : iv 1 10000 (pw i.toNatClampNeg) := by
  have h2 : vp_in i 5 := iv_in h hb
  obtain ⟨j, hj, e⟩ := vp_in_of h2 (by decide)
  rw [e, nI_clamp (by omega)]
  match j, hj with
  | 0, _ => exact iv_c _ (by decide)
  | 1, _ => exact iv_c _ (by decide)
  | 2, _ => exact iv_c _ (by decide)
  | 3, _ => exact iv_c _ (by decide)
  | 4, _ => exact iv_c _ (by decide)
  | n + 5, h => exact absurd h (by omega)
theorem loopF {p : Program} {l : Launch} {e : Env} {R : Room} {s : State} {m : MethodId} {args : Array Value} {below : List Frame} {meth : Method} {c : Code} {cells slots : Nat} {Q : State → Prop} (X : Nat → Heap → List Loc → Array Slot → Prop) (g : Array Slot → JFrame)
    (step : ∀ (n : Nat) (H : Heap) (locs : List Loc) (ls : Array Slot), X n H locs ls → (∀ (n' : Nat) (H' : Heap) (locs' : List Loc) (ls' : Array Slot), n' < n → X n' H' locs' ls' → W p l e R s m args below meth c H' locs' cells slots Q (g ls')) → W p l e R s m args below meth c H locs cells slots Q (g ls))
    (n : Nat) {H : Heap} {locs : List Loc} {ls : Array Slot} (hX : X n H locs ls) : W p l e R s m args below meth c H locs cells slots Q (g ls) := by
  induction n using Nat.strongRecOn generalizing H locs ls with
  | ind n ih => exact step n H locs ls hX (fun n' H' l' ls' hn hX' => ih n' hn hX')
theorem iv_max {x y : Int32} {a b c d A B : Int} (hx : iv a b x) (hy : iv c d y) (h : (A ≤ a ∨ A ≤ c) ∧ b ≤ B ∧ d ≤ B) : iv A B (if x < y then y else x) := by
  unfold iv at *
  split
  · next q => rw [Int32.lt_iff_toInt_lt] at q; omega
  · next q => rw [Int32.lt_iff_toInt_lt] at q; omega
theorem iv_min {x y : Int32} {a b c d A B : Int} (hx : iv a b x) (hy : iv c d y) (h : A ≤ a ∧ A ≤ c ∧ (b ≤ B ∨ d ≤ B)) : iv A B (if y < x then y else x) := by
  unfold iv at *
  split
  · next q => rw [Int32.lt_iff_toInt_lt] at q; omega
  · next q => rw [Int32.lt_iff_toInt_lt] at q; omega
theorem iv_n0lt {x : Int32} {a b : Int} (hx : iv a b x) (h : 0 ≤ a) : ¬ x < 0 := by
  unfold iv at *; rw [Int32.lt_iff_toInt_lt, (by decide : (0 : Int32).toInt = 0)]; omega
theorem iv_nat {x : Int32} {a b : Int} (hx : iv a b x) (h : 0 ≤ a) : (x.toNatClampNeg : Int) = x.toInt := by
  obtain ⟨j, hj, e⟩ := nI_of (iv_n0lt hx h)
  rw [e, nI_clamp hj, nI_toInt hj]
theorem iv_cl {x : Int32} {a b : Int} {n : Nat} (hx : iv a b x) (h : 0 ≤ a ∧ b ≤ n) : Int32.toNatClampNeg 0 + x.toNatClampNeg ≤ n := by
  have e := iv_nat hx h.1
  unfold iv at hx
  rw [(by decide : Int32.toNatClampNeg 0 = 0)]
  omega
theorem iv_and1 (x : Int32) : iv 0 1 (x &&& 1) := by
  obtain ⟨j, hj, e⟩ := pk_andE x (m := 1) 1 (by decide)
  rw [e]; unfold iv; rw [nI_toInt (by omega)]; omega
theorem iv_divp {x : Int32} {a b k B : Int} {y : Int32} (hx : iv a b x) (hk : 0 ≤ a ∧ 0 < k ∧ b / k ≤ B) (hy : y.toInt = k) : iv 0 B (x / y) := by
  obtain ⟨j, hj, e⟩ := nI_of (iv_n0lt hx hk.1)
  have hy2 : ¬ y < 0 := by rw [Int32.lt_iff_toInt_lt, (by decide : (0 : Int32).toInt = 0)]; omega
  obtain ⟨d, hd, e2⟩ := nI_of hy2
  have hdk : (d : Int) = k := by rw [← hy, e2, nI_toInt hd]
  have hj2 : (j : Int) ≤ b := by have := hx.2; rw [e, nI_toInt hj] at this; exact this
  rw [e, e2, pk_div hj (by omega) hd]
  unfold iv
  rw [nI_toInt (Nat.lt_of_le_of_lt (Nat.div_le_self _ _) hj)]
  have h3 : ((j / d : Nat) : Int) = (j : Int) / (d : Int) := Int.natCast_ediv j d
  have h4 : (j : Int) / (d : Int) ≤ b / (d : Int) := Int.ediv_le_ediv (by omega) hj2
  rw [hdk] at h3 h4
  have h5 : 0 ≤ (j : Int) / k := Int.ediv_nonneg (by omega) (by omega)
  omega
theorem iv_remp {x : Int32} {a b k B : Int} {y : Int32} (hx : iv a b x) (hk : 0 ≤ a ∧ 0 < k ∧ k - 1 ≤ B) (hy : y.toInt = k) : iv 0 B (x - x / y * y) := by
  obtain ⟨j, hj, e⟩ := nI_of (iv_n0lt hx hk.1)
  have hy2 : ¬ y < 0 := by rw [Int32.lt_iff_toInt_lt, (by decide : (0 : Int32).toInt = 0)]; omega
  obtain ⟨d, hd, e2⟩ := nI_of hy2
  have hdk : (d : Int) = k := by rw [← hy, e2, nI_toInt hd]
  rw [e, e2, pk_rem hj (by omega) hd]
  unfold iv
  have h1 : j % d < d := Nat.mod_lt _ (by omega)
  rw [nI_toInt (by omega)]
  omega
theorem iv_subl {x y : Int32} {a b c d B : Int} (q : y ≤ x) (hx : iv a b x) (hy : iv c d y) (h : b - c ≤ B ∧ 0 ≤ c ∧ B ≤ 2147483647) : iv 0 B (x - y) := by
  unfold iv at *
  rw [Int32.le_iff_toInt_le] at q
  rw [Int32.toInt_sub, iv_bm (by omega) (by omega)]; omega
theorem iv_addb {x i k : Int32} {a b c d n A B : Int} (e : x = i + k) (hx : iv a b x) (hi : iv c d i) (hk : iv n n k) (h : -2147483648 ≤ c + n ∧ d + n ≤ 2147483647 ∧ (A ≤ a - n ∨ A ≤ c) ∧ (b - n ≤ B ∨ d ≤ B)) : iv A B i := by
  unfold iv at *
  have hkn : k.toInt = n := by omega
  rw [e, Int32.toInt_add, hkn, iv_bm (by omega) (by omega)] at hx
  omega
theorem iv_s1 {x u t : Int32} {a b c d : Int} (e : x = u + 1) (q : u < t) (hu : iv a b u) (ht : iv c d t) : x ≤ t := by
  unfold iv at *
  rw [Int32.lt_iff_toInt_lt] at q
  rw [Int32.le_iff_toInt_le, e, Int32.toInt_add, (by decide : (1 : Int32).toInt = 1), iv_bm (by have := Int32.le_toInt u; omega) (by have := Int32.toInt_lt t; omega)]
  omega
theorem iv_nel {x t : Int32} (h : x ≤ t) (q : ¬ x = t) : x < t := by
  rw [Int32.le_iff_toInt_le] at h
  rw [Int32.lt_iff_toInt_lt]
  have : x.toInt ≠ t.toInt := fun e => q (Int32.toInt_inj.mp e)
  omega
theorem iv_nI {n : Nat} (h : n < 2 ^ 31) : iv (n : Int) (n : Int) (nI n) := by
  unfold iv; rw [nI_toInt h]; exact ⟨Int.le_refl _, Int.le_refl _⟩
theorem iv_clx {x : Int32} {n : Nat} {a b : Int} (hx : iv a b x) (h : 0 ≤ a ∧ a = (n : Int) ∧ b = (n : Int)) : x.toNatClampNeg = n := by
  have e := iv_nat hx h.1
  unfold iv at hx
  omega
theorem mmt_nat {i : Int32} {a b : Int} (h : iv a b i) (hb : 0 ≤ a ∧ b < 5) : ∃ n : Nat, (1 ≤ n ∧ n ≤ 3646) ∧ mmt i.toNatClampNeg = nI n := by
  obtain ⟨j, hj, e⟩ := vp_in_of (iv_in (n := 5) h hb) (by decide)
  rw [e, nI_clamp (by omega)]
  match j, hj with
  | 0, _ => exact ⟨1, by decide, by decide⟩
  | 1, _ => exact ⟨6, by decide, by decide⟩
  | 2, _ => exact ⟨46, by decide, by decide⟩
  | 3, _ => exact ⟨406, by decide, by decide⟩
  | 4, _ => exact ⟨3646, by decide, by decide⟩
  | n + 5, h => exact absurd h (by omega)
theorem pw_nat {i : Int32} {a b : Int} (h : iv a b i) (hb : 0 ≤ a ∧ b < 5) : ∃ n : Nat, (1 ≤ n ∧ n ≤ 10000) ∧ pw i.toNatClampNeg = nI n := by
  obtain ⟨j, hj, e⟩ := vp_in_of (iv_in (n := 5) h hb) (by decide)
  rw [e, nI_clamp (by omega)]
  match j, hj with
  | 0, _ => exact ⟨1, by decide, by decide⟩
  | 1, _ => exact ⟨10, by decide, by decide⟩
  | 2, _ => exact ⟨100, by decide, by decide⟩
  | 3, _ => exact ⟨1000, by decide, by decide⟩
  | 4, _ => exact ⟨10000, by decide, by decide⟩
  | n + 5, h => exact absurd h (by omega)

theorem fiT {v : Int32} {post : Int32 → va_W → Prop} {p : Program} {l : Launch} {e : Env} {R : Room} {s : State} {m : MethodId} {args : Array Value} {below : List Frame} {meth : Method} {c : Code} {H : Heap} {locs : List Loc} {cells slots mc ms : Nat} {V : GV} {A : Nat → Prop} {w : va_W} {cc : ByteArray} {pc : Nat} {ls : Array Slot} {ty : FieldType} (hn : narrow ty (.int v) = .int v) (hx : p.tables.exec = Jvm.exec) (hb : c.code = cc) (hr : meth.sig.returnType = some ty) (hlk : meth.locks = false) (hK : va_K V.1 vwCl (tyV V) s) (hP : va_P V.1 vwCl w H) (hD : va_D A w) (hS : va_S A s.heap H locs) (hdg : decode cc pc = .ok (.ireturn, 1)) (hc : cells ≤ mc) (hs : slots ≤ ms) (hp : post v w) :
    W p l e R s m args below meth c H locs cells slots (MQ below (QI V post A) args s mc ms A) (F0 m pc ls [.int v]) :=
  W.widen hc hs (W.zret hx hb hr hn (fun t ht hW => ⟨⟨v, w, rfl, hp, by rw [ht]; exact hP, va_K.moved hW.alike hK, hD⟩, hS.F ht⟩) hS.2.2 hdg hlk)
theorem o_recv {s : State} {A : Nat → Prop} {H : Heap} {locs : List Loc} {E : String} {t : Nat} (h : va_O E t A s s.heap) (hS : va_S A s.heap H locs) : ∃ cell : Cell, H[t]? = some cell ∧ cell.vm.isStatics = false ∧ s.vm.findClass E = some cell.cls := by
  obtain ⟨cell, h1, h2, h3, -⟩ := h.kept hS.2.1
  exact ⟨cell, h1, h2, h3⟩
theorem rnVx {p : Program} {l : Launch} {e : Env} {R : Room} {s : State} {m : MethodId} {args : Array Value} {below : List Frame} {meth : Method} {c : Code} {H : Heap} {locs : List Loc} {cells slots mc ms : Nat} {V : GV} {A : Nat → Prop} {ws wc : va_W} {cc bytes : ByteArray} {pc nL mL n k index : Nat} {ls : Array Slot} {st rest As : List Value} {own : String} {y : MethodName} {b : Nat} {ret : Option FieldType} {Qc : (Nat → Prop) → Array Value → State → Outcome → State → Prop}
    (hF : CallFix p m c cc nL s args gw own) (hM : Ct l V y (.code y bytes mL ret) k (.ref b :: As) wc mc ms Qc) (hm : MtV y bytes mL ret n) (hl : Cond.methodLink own index y ∈ gw) (hk : k + 1 ≤ R.frames ∧ 8 + (mL + 11) + 40 * k ≤ R.locals) (hK : va_K V.1 vwCl (tyV V) s) (hP : va_P V.1 vwCl ws H) (hD : va_D A ws) (hS : va_S A s.heap H locs) (hA : ∀ q : Nat, s.heap.size ≤ q → A q) (hE : En V A s s.heap) (isC : List Nat) (hn : va_nd isC = true) (hC : isC.map (fun i => ws[i]?) = wc.map some)
    (hr : ∃ cell : Cell, H[b]? = some cell ∧ cell.vm.isStatics = false ∧ s.vm.findClass y.cls = some cell.cls) (hal : As.length = n) (hlz : ls.size = nL) (hst : st = As.reverse ++ .ref b :: rest) (hro : (rest.map fun v => v.category).sum ≤ 8) (hdg : decode cc pc = .ok (.invokevirtual index, 3)) (hf : cells + mc ≤ R.cells ∧ slots + ms ≤ R.slots) :
    va_Run p l e R s m args below meth c H locs cells slots mc ms (F0 m pc ls st) rest (Qc (va_A wc H.size) (Value.ref b :: As).toArray) (va_A wc H.size) := by
  have hg := hF.2.2.2.2
  exact va_runV hF (hM H.size) ⟨callB_of n hg (gw_good hm.1.1) rfl rfl rfl (hg _ hm.1.2.1) (hg _ hl) hm.1.2.2 hk, hg _ hm.2.1, hg _ hm.2.2⟩ ⟨PcV.blind, hr, preV hK hP hD hS hA hE isC hn hC⟩ rfl hal hlz hst (lv_room hro) hdg hf
theorem at_ix {x d pl en j ln : Int32} {a b : Int} (ex : x = pl + j) (ey : d = en - pl) (q : ln = d) (c : j < ln) (hpl : iv 0 900 pl) (hen : iv 0 900 en) (hj : iv a b j) (h0 : 0 ≤ a) : iv 0 899 x := by
  unfold iv at *
  rw [Int32.lt_iff_toInt_lt, q, ey, Int32.toInt_sub, iv_bm (by omega) (by omega)] at c
  rw [ex, Int32.toInt_add, iv_bm (by omega) (by omega)]
  omega
set_option maxRecDepth 100000 in
theorem sL_all : ∀ q ∈ sL, 1 ≤ q.2.2.2.length ∧ q.2.2.2.length ≤ 116 := by decide
theorem sL_len {i : Nat} {q : String × Nat × String × List Int32} (h : sL[i]? = some q) : 1 ≤ q.2.2.2.length ∧ q.2.2.2.length ≤ 116 := sL_all q (List.mem_of_getElem? h)
theorem iv_eqp {x y : Int32} {a : Int} (hx : iv a a x) (hy : iv a a y) : x = y := by
  unfold iv at *; exact Int32.toInt_inj.mp (by omega)
/-- a constant's character -/
def chF (s : List Int32) (i : Int32) : Int32 := ((s.getD i.toNatClampNeg 0 &&& 255).toUInt32 % 65536).toInt32
/-- whether the token there is this constant -/
def atF (s : List Int32) (k p e : Int32) (f : Nat → Int32) : Int32 := if (k = 1 ∨ k = 3) ∧ nI s.length = e - p ∧ (∀ j : Nat, j < s.length → f (p + nI j).toNatClampNeg = chF s (nI j)) then 1 else 0
theorem atF_k {s : List Int32} {k p e : Int32} {f : Nat → Int32} (h1 : ¬ k = 1) (h3 : ¬ k = 3) : 0 = atF s k p e f := by
  unfold atF; rw [if_neg]; rintro ⟨h | h, -⟩
  · exact h1 h
  · exact h3 h
theorem atF_l {s : List Int32} {k p e d : Int32} {f : Nat → Int32} (ed : d = e - p) (h : ¬ nI s.length = d) : 0 = atF s k p e f := by
  unfold atF; rw [if_neg]; rintro ⟨-, h2, -⟩; rw [ed] at h; exact h h2
theorem atF_n {s : List Int32} {k p e u x y z : Int32} {f : Nat → Int32} {a b : Int} (hs : s.length ≤ 116) (hu : iv a b u) (h0 : 0 ≤ a) (hl : u < nI s.length) (ex : x = p + u) (ey : y = f x.toNatClampNeg) (ez : z = chF s u) (h : ¬ y = z) : 0 = atF s k p e f := by
  unfold atF; rw [if_neg]; rintro ⟨-, -, h2⟩
  obtain ⟨j, hj, e1⟩ := nI_of (iv_n0lt hu h0)
  have hj2 : j < s.length := by
    rw [e1, Int32.lt_iff_toInt_lt, nI_toInt hj, nI_toInt (by omega)] at hl; omega
  have := h2 j hj2
  rw [← e1] at this
  exact h (by rw [ey, ez, ex]; exact this)
theorem atF_1 {s : List Int32} {k p e u d : Int32} {f : Nat → Int32} {a b : Int} (hs : s.length ≤ 116) (hk : k = 1 ∨ k = 3) (ed : d = e - p) (hd : nI s.length = d) (hu : iv a b u) (h0 : 0 ≤ a) (hl : ¬ u < nI s.length) (hi : ∀ j : Nat, (j : Int) < u.toInt → f (p + nI j).toNatClampNeg = chF s (nI j)) : 1 = atF s k p e f := by
  unfold atF; rw [if_pos]
  refine ⟨hk, ed ▸ hd, fun j hj => hi j ?_⟩
  rw [Int32.lt_iff_toInt_lt, nI_toInt (by omega)] at hl; omega
theorem atF_s {s : List Int32} {p u u' x y z : Int32} {f : Nat → Int32} {a b : Int} (hu : iv a b u) (h0 : 0 ≤ a ∧ b < 2147483647) (ex : x = p + u) (ey : y = f x.toNatClampNeg) (ez : z = chF s u) (h : y = z) (hi : ∀ j : Nat, (j : Int) < u.toInt → f (p + nI j).toNatClampNeg = chF s (nI j)) (e' : u' = u + 1) : ∀ j : Nat, (j : Int) < u'.toInt → f (p + nI j).toNatClampNeg = chF s (nI j) := fun j hj => by
  obtain ⟨i, hi2, e1⟩ := nI_of (iv_n0lt hu h0.1)
  have hu2 : u.toInt = i := by rw [e1, nI_toInt hi2]
  rw [e', Int32.toInt_add, (by decide : (1 : Int32).toInt = 1), iv_bm (by unfold iv at hu; omega) (by unfold iv at hu; omega)] at hj
  rcases Nat.lt_or_ge j i with q | q
  · exact hi j (by omega)
  · have : j = i := by omega
    subst this
    rw [← e1, ← ez, ← h, ey, ex]
theorem atF_01 (s : List Int32) (k p e : Int32) (f : Nat → Int32) : iv 0 1 (atF s k p e f) := by
  unfold atF; split
  · exact iv_c _ (by decide)
  · exact iv_c _ (by decide)

def WA (c : Int32) (f4 f1 : Nat → Int32) : Prop := ∀ j : Nat, (f4 j).toInt ≤ c.toInt ∧ (0 < (f4 j).toInt → (f1 ((f4 j).toNatClampNeg - 1)).toNatClampNeg = j)
def WB (o d c : Int32) (f6 : Nat → Int32) : Prop := ∀ i k : Nat, (i : Int) < o.toInt → (k : Int) < d.toInt → (f6 (i * 4 + k)).toInt < c.toInt
def WC (c : Int32) (f2 : Nat → Int32) : Prop := ∀ i : Nat, (i : Int) < c.toInt → (f2 i).toInt ≤ i
def WAf (i c : Int32) (f4 f1 : Nat → Int32) : Prop := WA c f4 f1 ∧ ∀ j : Nat, (f4 j).toInt = 0 ∨ i.toInt < (f4 j).toInt
theorem clampNat {x : Int32} (h : 0 ≤ x.toInt) : (x.toNatClampNeg : Int) = x.toInt := by
  show ((x.toInt.toNat : Nat) : Int) = x.toInt
  omega
theorem inc_toInt {c c' : Int32} {a b : Int} (ec : c' = c + 1) (hc : iv a b c) (hb : -2147483648 ≤ a ∧ b < 2147483647) : c'.toInt = c.toInt + 1 := by
  unfold iv at hc
  rw [ec, Int32.toInt_add, (by decide : (1 : Int32).toInt = 1), iv_bm (by omega) (by omega)]
theorem upd_at {f : Nat → Int32} {i : Nat} {v : Int32} : upd f i v i = v := by simp [upd]
theorem upd_ne {f : Nat → Int32} {i j : Nat} {v : Int32} (h : j ≠ i) : upd f i v j = f j := by simp [upd, h]
theorem WA_meet {c c' s : Int32} {f4 f1 f4' f1' : Nat → Int32} {b N M : Int} (h : WA c f4 f1) (t4 : ∀ j, iv 0 M (f4 j)) (ec : c' = c + 1) (hc : iv 0 N c) (hN : N < 2147483647) (hs : iv 0 b s) (e4 : f4' = upd f4 s.toNatClampNeg c') (e1 : f1' = upd f1 c.toNatClampNeg s) : WA c' f4' f1' := by
  have ec' := inc_toInt ec hc ⟨by decide, hN⟩
  have hc0 : 0 ≤ c.toInt := hc.1
  have kc := clampNat hc0
  intro j
  by_cases hj : j = s.toNatClampNeg
  · subst hj
    have e : f4' s.toNatClampNeg = c' := by rw [e4, upd_at]
    rw [e]
    refine ⟨Int.le_refl _, fun _ => ?_⟩
    have kc' := clampNat (x := c') (by omega)
    have : c'.toNatClampNeg - 1 = c.toNatClampNeg := by omega
    rw [this, e1, upd_at]
  · have e : f4' j = f4 j := by rw [e4, upd_ne hj]
    rw [e]
    refine ⟨by have := (h j).1; omega, fun h0 => ?_⟩
    have h1 := (h j).1
    have kf := clampNat (x := f4 j) (by omega)
    have : (f4 j).toNatClampNeg - 1 ≠ c.toNatClampNeg := by omega
    rw [e1, upd_ne this]
    exact (h j).2 h0
theorem WB_meet {o d c c' : Int32} {f6 : Nat → Int32} {N : Int} (h : WB o d c f6) (ec : c' = c + 1) (hc : iv 0 N c) (hN : N < 2147483647) : WB o d c' f6 := fun i k h1 h2 => by
  have := inc_toInt ec hc ⟨by decide, hN⟩
  have := h i k h1 h2
  omega
theorem WC_meet {c c' v : Int32} {f2 f2' : Nat → Int32} {N : Int} (h : WC c f2) (ec : c' = c + 1) (hc : iv 0 N c) (hN : N < 2147483647) (e2 : f2' = upd f2 c.toNatClampNeg v) (hv : v.toInt ≤ c.toInt) : WC c' f2' := fun i h1 => by
  have e := inc_toInt ec hc ⟨by decide, hN⟩
  have kc := clampNat hc.1
  by_cases hi : i = c.toNatClampNeg
  · subst hi; rw [e2, upd_at]; omega
  · rw [e2, upd_ne hi]; exact h i (by omega)
theorem meet_r {c x y r : Int32} {f4 f1 : Nat → Int32} {i : Nat} {M : Int} (h : WA c f4 f1) (t4 : ∀ j, iv 0 M (f4 j)) (ex : x = f4 i) (ey : y = x - 1) (er : r = if (0 : Int32) < y then y else 0) : 0 < c.toInt → r.toInt < c.toInt := fun h0 => by
  have h1 := (h i).1
  have h2 := t4 i
  rw [← ex] at h1 h2
  have hy : iv (-1) (c.toInt - 1) y := by
    rw [ey]
    have h3 := Int32.toInt_lt c
    exact iv_sub (a := 0) (b := c.toInt) (c := 1) (d := 1) ⟨h2.1, h1⟩ (iv_c _ (by decide)) (by omega)
  have hr := iv_max (A := 0) (B := c.toInt - 1) (iv_c (0 : Int32) (a := 0) (b := 0) (by decide)) hy (by omega)
  rw [← er] at hr
  have := hr.2
  omega

theorem WAf_0 {c i : Int32} {f4 f1 : Nat → Int32} {M : Int} (h : WA c f4 f1) (t4 : ∀ j, iv 0 M (f4 j)) (ei : i.toInt = 0) : WAf i c f4 f1 := ⟨h, fun j => by have := (t4 j).1; omega⟩
theorem WAf_s {i i' c x : Int32} {f4 f1 f4' : Nat → Int32} {N : Int} (h : WAf i c f4 f1) (ei : i' = i + 1) (hi : iv 0 N i) (hN : N < 2147483647) (ex : x = f1 i.toNatClampNeg) (e4 : f4' = upd f4 x.toNatClampNeg 0) (hc : 0 ≤ c.toInt) : WAf i' c f4' f1 := by
  have e' := inc_toInt ei hi ⟨by decide, hN⟩
  have ki := clampNat hi.1
  refine ⟨fun j => ?_, fun j => ?_⟩
  · by_cases hj : j = x.toNatClampNeg
    · subst hj
      rw [e4, upd_at, (by decide : (0 : Int32).toInt = 0)]
      exact ⟨hc, fun q => absurd q (by omega)⟩
    · rw [e4, upd_ne hj]; exact h.1 j
  · by_cases hj : j = x.toNatClampNeg
    · subst hj
      rw [e4, upd_at]; exact Or.inl (by decide)
    · rw [e4, upd_ne hj]
      rcases h.2 j with q | q
      · exact Or.inl q
      · right
        rcases (by omega : i.toInt + 1 < (f4 j).toInt ∨ (f4 j).toInt ≤ i.toInt + 1) with q2 | q2
        · omega
        · exfalso
          have q3 : (f4 j).toInt = i.toInt + 1 := by omega
          have h0 := hi.1
          have kf := clampNat (x := f4 j) (by omega)
          have h1 := (h.1 j).2 (by omega)
          have : (f4 j).toNatClampNeg - 1 = i.toNatClampNeg := by omega
          rw [this, ← ex] at h1
          exact hj h1.symm
theorem WAf_e {i c c' : Int32} {f4 f1 : Nat → Int32} (h : WAf i c f4 f1) (hi : ¬ i < c) (ec : c'.toInt = 0) : WA c' f4 f1 := fun j => by
  rw [Int32.lt_iff_toInt_lt] at hi
  have := (h.1 j).1
  have : (f4 j).toInt = 0 ∨ (f4 j).toInt < 0 ∨ 0 < (f4 j).toInt := by omega
  rcases h.2 j with q | q
  · exact ⟨by omega, fun q2 => by omega⟩
  · omega
theorem WB_0 {o d c : Int32} {f6 : Nat → Int32} (h : o.toInt = 0) : WB o d c f6 := fun i k h1 _ => by omega
theorem WC_0 {c : Int32} {f2 : Nat → Int32} (h : c.toInt = 0) : WC c f2 := fun i h1 => by omega
theorem WA_0 {c : Int32} {f1 : Nat → Int32} (h : c.toInt = 0) : WA c (fun _ => 0) f1 := fun j => by
  rw [(by decide : (0 : Int32).toInt = 0)]; exact ⟨by omega, fun q => absurd q (by omega)⟩
/-- the row that is being opened -/
def WR (u a c : Int32) (f6 : Nat → Int32) : Prop := ∀ k : Nat, (k : Int) < u.toInt → (f6 (a.toNatClampNeg * 4 + k)).toInt < c.toInt
theorem WR_0 {u a c : Int32} {f6 : Nat → Int32} (h : u.toInt = 0) : WR u a c f6 := fun k q => by omega
theorem WR_m {u a c c' : Int32} {f6 : Nat → Int32} (h : WR u a c f6) (hc : c.toInt ≤ c'.toInt) : WR u a c' f6 := fun k q => by have := h k q; omega
theorem ix4 {a u x y : Int32} {N M : Int} (ha : iv 0 N a) (hu : iv 0 M u) (hN : N ≤ 100000 ∧ M ≤ 100000) (ex : x = a * 4) (ey : y = x + u) : y.toNatClampNeg = a.toNatClampNeg * 4 + u.toNatClampNeg := by
  have h1 : iv 0 (4 * N) x := by rw [ex]; exact iv_mulc ha (iv_c (4 : Int32) (a := 4) (b := 4) (by decide)) (by omega)
  have ka := clampNat ha.1
  have ku := clampNat hu.1
  have e1 : x.toInt = a.toInt * 4 := by
    unfold iv at ha
    rw [ex, Int32.toInt_mul, (by decide : (4 : Int32).toInt = 4), iv_bm (by omega) (by omega)]
  have e2 : y.toInt = x.toInt + u.toInt := by
    unfold iv at ha hu h1
    rw [ey, Int32.toInt_add, iv_bm (by omega) (by omega)]
  have := ha.1
  have := hu.1
  have ky := clampNat (x := y) (by omega)
  omega
theorem WR_s {u u' a c x y r : Int32} {f6 f6' : Nat → Int32} {N M : Int} (h : WR u a c f6) (ha : iv 0 N a) (hu : iv 0 M u) (hN : N ≤ 100000 ∧ M ≤ 100000) (ex : x = a * 4) (ey : y = x + u) (e6 : f6' = upd f6 y.toNatClampNeg r) (hr : r.toInt < c.toInt) (eu : u' = u + 1) : WR u' a c f6' := fun k q => by
  have e' := inc_toInt eu hu ⟨by decide, by omega⟩
  have ku := clampNat hu.1
  have ei := ix4 ha hu hN ex ey
  rw [e6, ei]
  by_cases hk : k = u.toNatClampNeg
  · subst hk; rw [upd_at]; exact hr
  · rw [upd_ne (by omega)]; exact h k (by omega)
theorem WB_s {o d c r : Int32} {i : Nat} {f6 f6' : Nat → Int32} (h : WB o d c f6) (e6 : f6' = upd f6 i r) (hr : r.toInt < c.toInt) : WB o d c f6' := fun a k h1 h2 => by
  rw [e6]
  by_cases hk : a * 4 + k = i
  · subst hk; rw [upd_at]; exact hr
  · rw [upd_ne hk]; exact h a k h1 h2
theorem WB_open {o o' d u a c : Int32} {f6 : Nat → Int32} {N : Int} (h : WB o d c f6) (hr : WR u a c f6) (hu : ¬ u < d) (ha : iv 0 N a) (hN : N < 2147483647) (hn : a.toInt ≤ o.toInt) (eo : o' = a + 1) : WB o' d c f6 := fun i k h1 h2 => by
  have e' := inc_toInt eo ha ⟨by decide, hN⟩
  have ka := clampNat ha.1
  rw [Int32.lt_iff_toInt_lt] at hu
  by_cases hi : i = a.toNatClampNeg
  · subst hi; exact hr k (by omega)
  · exact h i k (by omega) h2
theorem lvl {a c x : Int32} {f2 : Nat → Int32} {N : Int} (h : WC c f2) (ha : iv 0 N a) (hac : a.toInt < c.toInt) (ex : x = f2 a.toNatClampNeg) : x.toInt ≤ a.toInt := by
  have ka := clampNat ha.1
  have := h a.toNatClampNeg (by omega)
  rw [ex]; omega
theorem lvl1 {a c x z : Int32} {f2 : Nat → Int32} {N : Int} (h : WC c f2) (ha : iv 0 N a) (hN : N < 2147483646) (hac : a.toInt < c.toInt) (ex : x = f2 a.toNatClampNeg) (ez : z = x + 1) : z.toInt ≤ c.toInt := by
  have h1 := lvl h ha hac ex
  have h2 := Int32.le_toInt x
  have h3 := ha.2
  rw [ez, Int32.toInt_add, (by decide : (1 : Int32).toInt = 1), iv_bm (by omega) (by omega)]
  omega

theorem iv_nIw {n : Nat} {a b : Int} (h : n < 2147483648 ∧ a ≤ n ∧ n ≤ b) : iv a b (nI n) := by
  unfold iv; rw [nI_toInt h.1]; exact h.2
/-- of a row, how many of the first d deeds lead to t; of the first i rows -/
def cr (f : Nat → Int32) (i t : Nat) : Nat → Nat
  | 0 => 0
  | d + 1 => cr f i t d + if (f (i * 4 + d)).toNatClampNeg = t then 1 else 0
def cq (f : Nat → Int32) (D t : Nat) : Nat → Nat
  | 0 => 0
  | i + 1 => cq f D t i + cr f i t D
def ss (f : Nat → Int32) (D C : Nat) : Nat → Nat
  | 0 => 0
  | t + 1 => ss f D C t + cq f D t C
def s1 (f : Nat → Int32) (i d : Nat) : Nat → Nat
  | 0 => 0
  | t + 1 => s1 f i d t + cr f i t d
theorem cr_le (f : Nat → Int32) (i t d : Nat) : cr f i t d ≤ d := by
  induction d with
  | zero => exact Nat.le_refl _
  | succ d ih => simp only [cr]; split <;> omega
theorem cr_mono (f : Nat → Int32) (i t : Nat) {d e : Nat} (h : d ≤ e) : cr f i t d ≤ cr f i t e := by
  induction e with
  | zero => have : d = 0 := by omega
            subst this; exact Nat.le_refl _
  | succ e ih =>
    rcases Nat.lt_or_ge d (e + 1) with q | q
    · have := ih (by omega); simp only [cr]; omega
    · have : d = e + 1 := by omega
      subst this; exact Nat.le_refl _
theorem cq_le (f : Nat → Int32) (D t i : Nat) (hD : D ≤ 4) : cq f D t i ≤ 4 * i := by
  induction i with
  | zero => exact Nat.le_refl _
  | succ i ih => have := cr_le f i t D; simp only [cq]; omega
theorem cq_mono (f : Nat → Int32) (D t : Nat) {i j : Nat} (h : i ≤ j) : cq f D t i ≤ cq f D t j := by
  induction j with
  | zero => have : i = 0 := by omega
            subst this; exact Nat.le_refl _
  | succ j ih =>
    rcases Nat.lt_or_ge i (j + 1) with q | q
    · have := ih (by omega); simp only [cq]; omega
    · have : i = j + 1 := by omega
      subst this; exact Nat.le_refl _
theorem s1_le (f : Nat → Int32) (i d T : Nat) : s1 f i d T ≤ d := by
  induction d with
  | zero =>
    have : s1 f i 0 T = 0 := by
      induction T with
      | zero => rfl
      | succ T ih => simp only [s1, cr, ih]
    omega
  | succ d ih =>
    have : ∀ T, s1 f i (d + 1) T = s1 f i d T + if (f (i * 4 + d)).toNatClampNeg < T then 1 else 0 := by
      intro T
      induction T with
      | zero => simp [s1]
      | succ T ih2 =>
        simp only [s1, cr, ih2]
        by_cases q : (f (i * 4 + d)).toNatClampNeg = T
        · rw [if_pos q, if_neg (by omega), if_pos (by omega)]; omega
        · rw [if_neg q]
          by_cases q2 : (f (i * 4 + d)).toNatClampNeg < T
          · rw [if_pos q2, if_pos (by omega)]; omega
          · rw [if_neg q2, if_neg (by omega)]; omega
    have := this T
    split at this <;> omega
theorem ss_le (f : Nat → Int32) (D C T : Nat) (hD : D ≤ 4) : ss f D C T ≤ 4 * C := by
  induction C with
  | zero =>
    have : ss f D 0 T = 0 := by
      induction T with
      | zero => rfl
      | succ T ih => simp only [ss, cq, ih]
    omega
  | succ C ih =>
    have : ∀ T, ss f D (C + 1) T = ss f D C T + s1 f C D T := by
      intro T
      induction T with
      | zero => rfl
      | succ T ih2 => simp only [ss, s1, cq, ih2]; omega
    have h1 := this T
    have h2 := s1_le f C D T
    omega
/-- the first pass, at a row and a deed of it -/
def P1 (b f : Nat → Int32) (c D i d : Int32) : Prop := ∀ t : Nat, (t : Int) ≤ c.toInt → (b t).toInt = (cq f D.toNatClampNeg t i.toNatClampNeg + cr f i.toNatClampNeg t d.toNatClampNeg : Nat)
theorem P1_0 {b f : Nat → Int32} {c D i d e : Int32} (h : ∀ j : Nat, (j : Int) < e.toInt → b j = 0) (ee : e = c + 1) {N : Int} (hc : iv 0 N c) (hN : N < 2147483647) (hi : i.toNatClampNeg = 0) (hd : d.toNatClampNeg = 0) : P1 b f c D i d := fun t ht => by
  have := inc_toInt ee hc ⟨by decide, hN⟩
  rw [h t (by omega), hi, hd]; rfl
theorem P1_n {b f : Nat → Int32} {c D i d d' : Int32} {i' : Int32} {N : Int} (h : P1 b f c D i d) (hd : ¬ d < D) (hD : iv 0 4 D) (hdD : d.toInt ≤ D.toInt) (hi : iv 0 N i) (hN : N < 2147483647) (ei : i' = i + 1) (hd' : d'.toNatClampNeg = 0) (hd0 : 0 ≤ d.toInt) : P1 b f c D i' d' := fun t ht => by
  have e := inc_toInt ei hi ⟨by decide, hN⟩
  have k1 := clampNat hi.1
  have k2 := clampNat (x := i') (by have := hi.1; omega)
  have k3 := clampNat hd0
  have k4 := clampNat hD.1
  rw [Int32.lt_iff_toInt_lt] at hd
  have e1 : i'.toNatClampNeg = i.toNatClampNeg + 1 := by omega
  have e2 : d.toNatClampNeg = D.toNatClampNeg := by omega
  rw [h t ht, e1, hd', e2]; rfl
theorem bto {r i d c o D : Int32} {f : Nat → Int32} {N M : Int} (er : r = f (i * 4 + d).toNatClampNeg) (hi : iv 0 N i) (hd : iv 0 M d) (hN : N ≤ 100000 ∧ M ≤ 100000) : r = f (i.toNatClampNeg * 4 + d.toNatClampNeg) := by
  rw [er, ix4 (x := i * 4) (y := i * 4 + d) hi hd hN rfl rfl]
theorem bto_lt {r i d c o D : Int32} {f : Nat → Int32} {N M : Int} (h : WB o D c f) (ho : c.toInt ≤ o.toInt) (hic : i < c) (hdD : d < D) (er : r = f (i * 4 + d).toNatClampNeg) (hi : iv 0 N i) (hd : iv 0 M d) (hN : N ≤ 100000 ∧ M ≤ 100000) : r.toInt < c.toInt := by
  rw [Int32.lt_iff_toInt_lt] at hic hdD
  have k1 := clampNat hi.1
  have k2 := clampNat hd.1
  rw [bto er hi hd hN (c := c) (o := o) (D := D)]
  exact h _ _ (by omega) (by omega)
theorem P1_b {b f : Nat → Int32} {c D i d r x : Int32} {N M : Int} (h : P1 b f c D i d) (hr : r.toInt < c.toInt) (hr0 : 0 ≤ r.toInt) (ex : x = b r.toNatClampNeg) (hi : iv 0 N i) (hd : iv 0 M d) (hD : iv 0 4 D) (hdD : d < D) : iv 0 (4 * i.toInt + 3) x := by
  rw [Int32.lt_iff_toInt_lt] at hdD
  have k0 := clampNat hr0
  have k1 := clampNat hi.1
  have k2 := clampNat hd.1
  have k3 := clampNat hD.1
  have hD4 := hD.2
  have e := h r.toNatClampNeg (by omega)
  have := cq_le f D.toNatClampNeg r.toNatClampNeg i.toNatClampNeg (by omega)
  have := cr_le f i.toNatClampNeg r.toNatClampNeg d.toNatClampNeg
  rw [← ex] at e
  unfold iv
  omega
theorem P1_s {b b' f : Nat → Int32} {c D i d d' r x y : Int32} {M K : Int} (h : P1 b f c D i d) (hr0 : 0 ≤ r.toInt) (er : r = f (i.toNatClampNeg * 4 + d.toNatClampNeg)) (ex : x = b r.toNatClampNeg) (ey : y = x + 1) (hx : iv 0 K x) (hK : K < 2147483647) (eb : b' = upd b r.toNatClampNeg y) (ed : d' = d + 1) (hd : iv 0 M d) (hM : M < 2147483647) : P1 b' f c D i d' := fun t ht => by
  have e1 := inc_toInt ey hx ⟨by decide, hK⟩
  have e2 := inc_toInt ed hd ⟨by decide, hM⟩
  have k1 := clampNat hd.1
  have k2 := clampNat (x := d') (by have := hd.1; omega)
  have e3 : d'.toNatClampNeg = d.toNatClampNeg + 1 := by omega
  rw [e3]
  simp only [cr]
  rw [← er]
  have ht' := h t ht
  by_cases q : t = r.toNatClampNeg
  · subst q
    rw [eb, upd_at, if_pos rfl, e1]
    rw [← ex] at ht'
    omega
  · rw [eb, upd_ne q, if_neg (fun q2 => q q2.symm)]; omega
/-- the second pass -/
def P2 (b f : Nat → Int32) (c D i : Int32) : Prop := (∀ t : Nat, (t : Int) < i.toInt → (cq f D.toNatClampNeg t c.toNatClampNeg : Int) ≤ (b t).toInt ∧ (b t).toInt ≤ (ss f D.toNatClampNeg c.toNatClampNeg (t + 1) : Nat)) ∧ ∀ t : Nat, i.toInt ≤ t → (t : Int) ≤ c.toInt → (b t).toInt = (cq f D.toNatClampNeg t c.toNatClampNeg : Nat)
theorem P2_0 {b f : Nat → Int32} {c D i d : Int32} {i2 : Int32} (h : P1 b f c D i d) (hi : ¬ i < c) (hic : i.toInt ≤ c.toInt) (hd : d.toNatClampNeg = 0) (h2 : i2.toInt = 1) (hi0 : 0 ≤ i.toInt) : P2 b f c D i2 := by
  rw [Int32.lt_iff_toInt_lt] at hi
  have k1 := clampNat hi0
  have k2 := clampNat (x := c) (by omega)
  have e1 : i.toNatClampNeg = c.toNatClampNeg := by omega
  have hb : ∀ t : Nat, (t : Int) ≤ c.toInt → (b t).toInt = (cq f D.toNatClampNeg t c.toNatClampNeg : Nat) := fun t ht => by
    have := h t ht
    rw [hd, e1] at this
    simp only [cr] at this
    omega
  refine ⟨fun t ht => ?_, fun t _ ht => hb t ht⟩
  have t0 : t = 0 := by omega
  subst t0
  rw [hb 0 (by omega)]
  simp only [ss]
  omega
theorem P2_b {b f : Nat → Int32} {c D i x : Int32} {N : Int} (h : P2 b f c D i) (hi : iv 1 N i) (hic : i.toInt ≤ c.toInt) (ex : x = b i.toNatClampNeg) (hD : iv 0 4 D) : iv 0 (4 * c.toInt) x := by
  have k1 := clampNat (x := i) (by have := hi.1; omega)
  have k2 := clampNat (x := c) (by have := hi.1; omega)
  have k3 := clampNat hD.1
  have hD4 := hD.2
  have e := h.2 i.toNatClampNeg (by omega) (by omega)
  have := cq_le f D.toNatClampNeg i.toNatClampNeg c.toNatClampNeg (by omega)
  rw [← ex] at e
  unfold iv; omega
theorem P2_sum {b f : Nat → Int32} {c D i x y z w : Int32} {N K : Int} (h : P2 b f c D i) (hi : iv 1 N i) (hN : N < 2147483647) (hic : i.toInt ≤ c.toInt) (hc : c.toInt ≤ K) (hK : 4 * K < 1073741824) (ex : x = b i.toNatClampNeg) (ez : z = i - 1) (ey : y = b z.toNatClampNeg) (ew : w = x + y) (hD : iv 0 4 D) : (cq f D.toNatClampNeg i.toNatClampNeg c.toNatClampNeg : Int) ≤ w.toInt ∧ w.toInt ≤ (ss f D.toNatClampNeg c.toNatClampNeg (i.toNatClampNeg + 1) : Nat) := by
  have hi1 := hi.1
  have k1 := clampNat (x := i) (by omega)
  have k2 := clampNat (x := c) (by omega)
  have k3 := clampNat hD.1
  have hD4 := hD.2
  have ez' : z.toInt = i.toInt - 1 := by
    have := hi.2
    rw [ez, Int32.toInt_sub, (by decide : (1 : Int32).toInt = 1), iv_bm (by omega) (by omega)]
  have k4 := clampNat (x := z) (by omega)
  have e := h.2 i.toNatClampNeg (by omega) (by omega)
  have e2 := h.1 z.toNatClampNeg (by omega)
  have := cq_le f D.toNatClampNeg i.toNatClampNeg c.toNatClampNeg (by omega)
  have := ss_le f D.toNatClampNeg c.toNatClampNeg (z.toNatClampNeg + 1) (by omega)
  rw [← ex] at e
  rw [← ey] at e2
  have e3 : w.toInt = x.toInt + y.toInt := by
    rw [ew, Int32.toInt_add, iv_bm (by omega) (by omega)]
  have e4 : i.toNatClampNeg = z.toNatClampNeg + 1 := by omega
  have e5 : ss f D.toNatClampNeg c.toNatClampNeg (i.toNatClampNeg + 1) = ss f D.toNatClampNeg c.toNatClampNeg (z.toNatClampNeg + 1) + cq f D.toNatClampNeg i.toNatClampNeg c.toNatClampNeg := by
    rw [e4]; rfl
  omega
theorem P2_w {f : Nat → Int32} {c D w : Int32} {t : Nat} {K : Int} (h : (cq f D.toNatClampNeg t c.toNatClampNeg : Int) ≤ w.toInt ∧ w.toInt ≤ (ss f D.toNatClampNeg c.toNatClampNeg (t + 1) : Nat)) (hD : iv 0 4 D) (hc0 : 0 ≤ c.toInt) (hc : c.toInt ≤ K) : iv 0 (4 * K) w := by
  have k2 := clampNat hc0
  have k3 := clampNat hD.1
  have hD4 := hD.2
  have := ss_le f D.toNatClampNeg c.toNatClampNeg (t + 1) (by omega)
  unfold iv; omega
theorem P2_s {b b' f : Nat → Int32} {c D i i' w : Int32} {N : Int} (h : P2 b f c D i) (hi : iv 1 N i) (hN : N < 2147483647) (hw : (cq f D.toNatClampNeg i.toNatClampNeg c.toNatClampNeg : Int) ≤ w.toInt ∧ w.toInt ≤ (ss f D.toNatClampNeg c.toNatClampNeg (i.toNatClampNeg + 1) : Nat)) (eb : b' = upd b i.toNatClampNeg w) (ei : i' = i + 1) : P2 b' f c D i' := by
  have hi1 := hi.1
  have e := inc_toInt ei hi ⟨by decide, hN⟩
  have k1 := clampNat (x := i) (by omega)
  refine ⟨fun t ht => ?_, fun t h1 h2 => ?_⟩
  · by_cases q : t = i.toNatClampNeg
    · subst q; rw [eb, upd_at]; exact hw
    · rw [eb, upd_ne q]; exact h.1 t (by omega)
  · rw [eb, upd_ne (by omega)]; exact h.2 t (by omega) h2
/-- the third pass: what is left of each -/
def P3 (b f : Nat → Int32) (c D i d : Int32) : Prop := ∀ t : Nat, (t : Int) < c.toInt → (cq f D.toNatClampNeg t c.toNatClampNeg : Int) ≤ (b t).toInt + (cq f D.toNatClampNeg t i.toNatClampNeg + cr f i.toNatClampNeg t d.toNatClampNeg : Nat)
theorem P3_0 {b f : Nat → Int32} {c D i i' d : Int32} (h : P2 b f c D i) (hi : c < i) (hi' : i'.toNatClampNeg = 0) (hd : d.toNatClampNeg = 0) : P3 b f c D i' d := fun t ht => by
  rw [Int32.lt_iff_toInt_lt] at hi
  have := (h.1 t (by omega)).1
  omega
theorem P3_n {b f : Nat → Int32} {c D i d d' : Int32} {i' : Int32} {N : Int} (h : P3 b f c D i d) (hd : ¬ d < D) (hD : iv 0 4 D) (hdD : d.toInt ≤ D.toInt) (hi : iv 0 N i) (hN : N < 2147483647) (ei : i' = i + 1) (hd' : d'.toNatClampNeg = 0) (hd0 : 0 ≤ d.toInt) : P3 b f c D i' d' := fun t ht => by
  have e := inc_toInt ei hi ⟨by decide, hN⟩
  have k1 := clampNat hi.1
  have k2 := clampNat (x := i') (by have := hi.1; omega)
  have k3 := clampNat hd0
  have k4 := clampNat hD.1
  rw [Int32.lt_iff_toInt_lt] at hd
  have e1 : i'.toNatClampNeg = i.toNatClampNeg + 1 := by omega
  have e2 : d.toNatClampNeg = D.toNatClampNeg := by omega
  have := h t ht
  rw [e1, hd']
  rw [e2] at this
  exact this
theorem P3_b {b f : Nat → Int32} {c D i d r x : Int32} {N M K : Int} (h : P3 b f c D i d) (hr : r.toInt < c.toInt) (hr0 : 0 ≤ r.toInt) (er : r = f (i.toNatClampNeg * 4 + d.toNatClampNeg)) (ex : x = b r.toNatClampNeg) (hx : iv 0 K x) (hi : iv 0 N i) (hd : iv 0 M d) (hic : i < c) (hdD : d < D) : iv 1 K x := by
  rw [Int32.lt_iff_toInt_lt] at hdD hic
  have k0 := clampNat hr0
  have k1 := clampNat hi.1
  have k2 := clampNat hd.1
  have k3 := clampNat (x := D) (by have := hd.1; omega)
  have k4 := clampNat (x := c) (by have := hi.1; omega)
  have e := h r.toNatClampNeg (by omega)
  rw [← ex] at e
  have h1 := cq_mono f D.toNatClampNeg r.toNatClampNeg (i := i.toNatClampNeg + 1) (j := c.toNatClampNeg) (by omega)
  have h2 := cr_mono f i.toNatClampNeg r.toNatClampNeg (d := d.toNatClampNeg + 1) (e := D.toNatClampNeg) (by omega)
  simp only [cq] at h1
  have h3 : cr f i.toNatClampNeg r.toNatClampNeg (d.toNatClampNeg + 1) = cr f i.toNatClampNeg r.toNatClampNeg d.toNatClampNeg + 1 := by
    simp only [cr]; rw [← er, if_pos rfl]
  unfold iv at *
  omega
theorem P3_s {b b' f : Nat → Int32} {c D i d d' r x y : Int32} {M K : Int} (h : P3 b f c D i d) (er : r = f (i.toNatClampNeg * 4 + d.toNatClampNeg)) (ex : x = b r.toNatClampNeg) (ey : y = x - 1) (hx : iv 0 K x) (eb : b' = upd b r.toNatClampNeg y) (ed : d' = d + 1) (hd : iv 0 M d) (hM : M < 2147483647) : P3 b' f c D i d' := fun t ht => by
  have e1 : y.toInt = x.toInt - 1 := by
    have h1 := hx.1
    have h2 := Int32.toInt_lt x
    rw [ey, Int32.toInt_sub, (by decide : (1 : Int32).toInt = 1), iv_bm (by omega) (by omega)]
  have e2 := inc_toInt ed hd ⟨by decide, hM⟩
  have k1 := clampNat hd.1
  have k2 := clampNat (x := d') (by have := hd.1; omega)
  have e3 : d'.toNatClampNeg = d.toNatClampNeg + 1 := by omega
  rw [e3]
  simp only [cr]
  rw [← er]
  have ht' := h t ht
  by_cases q : t = r.toNatClampNeg
  · subst q
    rw [eb, upd_at, if_pos rfl, e1]
    rw [← ex] at ht'
    omega
  · rw [eb, upd_ne q, if_neg (fun q2 => q q2.symm)]; omega
/-- how many of the first k are not known -/
def nn (f : Nat → Int32) : Nat → Nat
  | 0 => 0
  | k + 1 => nn f k + if f k = -1 then 1 else 0
theorem nn_le (f : Nat → Int32) (k : Nat) : nn f k ≤ k := by
  induction k with
  | zero => exact Nat.le_refl _
  | succ k ih => simp only [nn]; split <;> omega
theorem nn_out {f : Nat → Int32} {p : Nat} {v : Int32} {k : Nat} (h : k ≤ p) : nn (upd f p v) k = nn f k := by
  induction k with
  | zero => rfl
  | succ k ih => simp only [nn]; rw [ih (by omega), upd_ne (by omega)]
theorem nn_in {f : Nat → Int32} {p : Nat} {v : Int32} {k : Nat} (h : p < k) (hv : v ≠ -1) (hp : f p = -1) : nn (upd f p v) k + 1 = nn f k := by
  induction k with
  | zero => omega
  | succ k ih =>
    simp only [nn]
    rcases Nat.lt_or_ge p k with q | q
    · have := ih q; rw [upd_ne (by omega)]; omega
    · have : p = k := by omega
      subst this
      rw [nn_out (Nat.le_refl _), upd_at, if_neg hv, if_pos hp]
theorem nn_add (f : Nat → Int32) (a k : Nat) : nn f (a + k) ≤ nn f a + k := by
  induction k with
  | zero => exact Nat.le_refl _
  | succ k ih =>
    have : nn f (a + (k + 1)) = nn f (a + k) + if f (a + k) = -1 then 1 else 0 := rfl
    rw [this]; split <;> omega
/-- the queue of the settled -/
def FQ (w : Int32) (f q : Nat → Int32) (B : Int) : Prop := ∀ j : Nat, (j : Int) < w.toInt → 0 ≤ (f (q j).toNatClampNeg).toInt ∧ (f (q j).toNatClampNeg).toInt ≤ j ∧ 0 ≤ (q j).toInt ∧ (q j).toInt < B
def FN (w : Int32) (f : Nat → Int32) (k B : Nat) : Prop := w.toInt + (nn f k : Int) ≤ (B : Int)
theorem FQ_0 {w : Int32} {f q : Nat → Int32} {B : Int} (h : w.toInt = 0) : FQ w f q B := fun j hj => by omega
theorem FN_0 {w : Int32} {f : Nat → Int32} {B : Nat} (h : w.toInt = 0) : FN w f 0 B := by unfold FN; simp only [nn]; omega
/-- a place behind all of the queue's is set -/
theorem FQ_out {w v : Int32} {f q : Nat → Int32} {p : Nat} {B : Int} (h : FQ w f q B) (hp : B ≤ p) : FQ w (upd f p v) q B := fun j hj => by
  have h1 := h j hj
  have := clampNat h1.2.2.1
  rw [upd_ne (by omega)]; exact h1
theorem FQ_w {w : Int32} {f q : Nat → Int32} {B B' : Int} (h : FQ w f q B) (hB : B ≤ B') : FQ w f q B' := fun j hj => by have := h j hj; omega
/-- settled: it was not known -/
theorem FQ_s {w w' p v : Int32} {f q : Nat → Int32} {B : Int} (h : FQ w f q B) (hw : 0 ≤ w.toInt) (ew : w'.toInt = w.toInt + 1) (hp : f p.toNatClampNeg = -1) (hp0 : 0 ≤ p.toInt) (hpB : p.toInt < B) (hv0 : 0 ≤ v.toInt) (hv : v.toInt ≤ w.toInt) : FQ w' (upd f p.toNatClampNeg v) (upd q w.toNatClampNeg p) B := fun j hj => by
  have kw := clampNat hw
  by_cases e : j = w.toNatClampNeg
  · subst e
    rw [upd_at (f := q), upd_at]
    omega
  · rw [upd_ne (f := q) e]
    have h1 := h j (by omega)
    by_cases e2 : (q j).toNatClampNeg = p.toNatClampNeg
    · rw [e2, hp] at h1
      have : (-1 : Int32).toInt = -1 := by decide
      omega
    · rw [upd_ne e2]; exact h1
theorem FN_s {w w' v : Int32} {p : Nat} {f : Nat → Int32} {k B : Nat} (h : FN w f k B) (ew : w'.toInt = w.toInt + 1) (hp : f p = -1) (hk : p < k) (hv : v ≠ -1) : FN w' (upd f p v) k B := by
  unfold FN at *
  have := nn_in (v := v) hk hv hp
  omega
theorem FN_lt {w : Int32} {p : Nat} {f : Nat → Int32} {k B : Nat} (h : FN w f k B) (hp : f p = -1) (hk : p < k) : w.toInt < (B : Int) := by
  unfold FN at h
  have := nn_in (v := 0) hk (by decide) hp
  omega
theorem FN_up {w : Int32} {f : Nat → Int32} {k B m : Nat} (h : FN w f k B) (hm : k ≤ m) : FN w f m (B + (m - k)) := by
  unfold FN at *
  have := nn_add f k (m - k)
  rw [show k + (m - k) = m by omega] at this
  omega
theorem FN_1 {w : Int32} {f : Nat → Int32} {k B : Nat} (h : FN w f k B) : FN w f (k + 1) (B + 1) := by
  have := FN_up (m := k + 1) h (by omega)
  rw [show B + (k + 1 - k) = B + 1 by omega] at this
  exact this
theorem FN_out {w v : Int32} {p : Nat} {f : Nat → Int32} {k B : Nat} (h : FN w f k B) (hp : k ≤ p) : FN w (upd f p v) k B := by
  unfold FN at *; rw [nn_out hp]; exact h
theorem ne_m1 {v : Int32} (h : 0 ≤ v.toInt) : v ≠ -1 := fun e => by
  rw [e, (by decide : (-1 : Int32).toInt = -1)] at h; omega
theorem ix2 {a x : Int32} {N : Int} (ha : iv 0 N a) (hN : N ≤ 100000) (ex : x = a * 2) : x.toInt = a.toInt * 2 ∧ x.toNatClampNeg = a.toNatClampNeg * 2 := by
  have ka := clampNat ha.1
  have e1 : x.toInt = a.toInt * 2 := by
    unfold iv at ha
    rw [ex, Int32.toInt_mul, (by decide : (2 : Int32).toInt = 2), iv_bm (by omega) (by omega)]
  have := ha.1
  have ky := clampNat (x := x) (by omega)
  exact ⟨e1, by omega⟩

theorem FN_00 {w : Int32} {f : Nat → Int32} (h : w.toInt = 0) : FN w f ((0 : Int32).toNatClampNeg * 2) ((0 : Int32).toNatClampNeg * 2) := by
  have e : (0 : Int32).toNatClampNeg * 2 = 0 := by decide
  rw [e]; exact FN_0 h
theorem FQ_00 {w : Int32} {f q : Nat → Int32} (h : w.toInt = 0) (B : Int) : FQ w f q B := FQ_0 h
theorem BA_no {w i i' x x2 : Int32} {f q f1 f2 : Nat → Int32} {N : Int} (hq : FQ w f q (2 * i.toInt)) (hn : FN w f (i.toNatClampNeg * 2) (i.toNatClampNeg * 2)) (hi : iv 0 N i) (hN : N ≤ 100000) (ex : x = i * 2) (ex2 : x2 = x + 1) (e1 : f1 = upd f x.toNatClampNeg (-1)) (e2 : f2 = upd f1 x2.toNatClampNeg (-1)) (ei : i' = i + 1) : FQ w f2 q (2 * i'.toInt) ∧ FN w f2 (i'.toNatClampNeg * 2) (i'.toNatClampNeg * 2) := by
  have h0 := hi.1
  have hx := ix2 hi hN ex
  have e' := inc_toInt ei hi ⟨by decide, by omega⟩
  have ex' := inc_toInt ex2 (a := 0) (b := 200000) ⟨by omega, by have := hi.2; omega⟩ (by decide)
  have k1 := clampNat h0
  have k2 := clampNat (x := i') (by omega)
  have k3 := clampNat (x := x2) (by omega)
  have k4 := clampNat (x := x) (by omega)
  subst e1 e2
  refine ⟨FQ_w (FQ_out (FQ_out hq (by omega)) (by omega)) (by omega), ?_⟩
  have := FN_1 (FN_1 (FN_out (v := -1) (p := x2.toNatClampNeg) (FN_out (v := -1) (p := x.toNatClampNeg) hn (by omega)) (by omega)))
  rw [show i'.toNatClampNeg * 2 = i.toNatClampNeg * 2 + 1 + 1 by omega]
  exact this
theorem BA_w {w i : Int32} {f : Nat → Int32} {N : Int} (hn : FN w f (i.toNatClampNeg * 2) (i.toNatClampNeg * 2)) (hi : iv 0 N i) : w.toInt ≤ 2 * i.toInt := by
  have k1 := clampNat hi.1
  unfold FN at hn
  omega
theorem BA_so {w w3 w4 i i' x x2 : Int32} {f q f1 f2 f3 f4 q3 q4 : Nat → Int32} {N K : Int} (hq : FQ w f q (2 * i.toInt)) (hn : FN w f (i.toNatClampNeg * 2) (i.toNatClampNeg * 2)) (hi : iv 0 N i) (hN : N ≤ 100000) (ex : x = i * 2) (ex2 : x2 = x + 1) (e1 : f1 = upd f x.toNatClampNeg (-1)) (e2 : f2 = upd f1 x2.toNatClampNeg (-1)) (ei : i' = i + 1) (hw : iv 0 K w) (hK : K ≤ 1000000) (e3 : f3 = upd f2 x.toNatClampNeg 0) (g3 : q3 = upd q w.toNatClampNeg x) (u3 : w3 = w + 1) (e4 : f4 = upd f3 x2.toNatClampNeg 0) (g4 : q4 = upd q3 w3.toNatClampNeg x2) (u4 : w4 = w3 + 1) : FQ w4 f4 q4 (2 * i'.toInt) ∧ FN w4 f4 (i'.toNatClampNeg * 2) (i'.toNatClampNeg * 2) := by
  have h := BA_no hq hn hi hN ex ex2 e1 e2 ei
  have h0 := hi.1
  have hx := ix2 hi hN ex
  have e' := inc_toInt ei hi ⟨by decide, by omega⟩
  have ex' := inc_toInt ex2 (a := 0) (b := 200000) ⟨by omega, by have := hi.2; omega⟩ (by decide)
  have w3' := inc_toInt u3 hw ⟨by decide, by omega⟩
  have w4' := inc_toInt u4 (a := 0) (b := K + 1) ⟨by have := hw.1; omega, by have := hw.2; omega⟩ ⟨by decide, by omega⟩
  have hw0 := hw.1
  have k1 := clampNat h0
  have k2 := clampNat (x := i') (by omega)
  have k3 := clampNat (x := x2) (by omega)
  have k4 := clampNat (x := x) (by omega)
  have z : (0 : Int32).toInt = 0 := by decide
  have a1 : f2 x.toNatClampNeg = -1 := by rw [e2, upd_ne (by omega), e1, upd_at]
  have a2 : f3 x2.toNatClampNeg = -1 := by rw [e3, upd_ne (by omega), e2, upd_at]
  have b1 := FQ_s (v := 0) (p := x) (w' := w3) h.1 hw0 w3' a1 (by omega) (by omega) (by omega) (by omega)
  have c1 := FN_s (v := 0) (p := x.toNatClampNeg) (w' := w3) h.2 w3' a1 (by omega) (by decide)
  rw [← e3] at b1 c1
  rw [← g3] at b1
  have b2 := FQ_s (v := 0) (p := x2) (w' := w4) b1 (by omega) w4' a2 (by omega) (by omega) (by omega) (by omega)
  have c2 := FN_s (v := 0) (p := x2.toNatClampNeg) (w' := w4) c1 w4' a2 (by omega) (by decide)
  rw [← e4] at b2 c2
  rw [← g4] at b2
  exact ⟨b2, c2⟩
theorem BA_e {w i c : Int32} {f : Nat → Int32} {N : Int} {m : Nat} (hn : FN w f (i.toNatClampNeg * 2) (i.toNatClampNeg * 2)) (hi : iv 0 N i) (hm : N ≤ (m : Int)) : FN w f (m * 2) (m * 2) := by
  have k1 := clampNat hi.1
  have := hi.2
  have := FN_up (m := m * 2) hn (by omega)
  rw [show i.toNatClampNeg * 2 + (m * 2 - i.toNatClampNeg * 2) = m * 2 by omega] at this
  exact this
theorem LB_s {w w' a v : Int32} {p : Nat} {f f' : Nat → Int32} (h : (f a.toNatClampNeg).toInt < w.toInt) (ew : w'.toInt = w.toInt + 1) (ef : f' = upd f p v) (hv : v.toInt ≤ w.toInt) : (f' a.toNatClampNeg).toInt < w'.toInt := by
  rw [ef]
  by_cases e : a.toNatClampNeg = p
  · rw [e, upd_at]; omega
  · rw [upd_ne e]; omega
theorem FQ_lt {w i p : Int32} {f q : Nat → Int32} {B N : Int} (h : FQ w f q B) (hi : iv 0 N i) (hlt : i < w) (ep : p = q i.toNatClampNeg) : (f p.toNatClampNeg).toInt < w.toInt := by
  rw [Int32.lt_iff_toInt_lt] at hlt
  have k1 := clampNat hi.1
  have := (h i.toNatClampNeg (by omega)).2.1
  rw [← ep] at this
  omega
theorem FL_s {f f' : Nat → Int32} {i i' v : Int32} {N : Int} (h : ∀ j : Nat, (j : Int) < i.toInt → f j = v) (hi : iv 0 N i) (hN : N < 2147483647) (ef : f' = upd f i.toNatClampNeg v) (ei : i' = i + 1) : ∀ j : Nat, (j : Int) < i'.toInt → f' j = v := fun j hj => by
  have e' := inc_toInt ei hi ⟨by decide, hN⟩
  have k1 := clampNat hi.1
  rw [ef]
  by_cases e : j = i.toNatClampNeg
  · subst e; rw [upd_at]
  · rw [upd_ne e]; exact h j (by omega)

def ivL (a b : Int) (x : Int64) : Prop := a ≤ x.toInt ∧ x.toInt ≤ b
theorem ivL_c (x : Int64) {a b : Int} (h : a ≤ x.toInt ∧ x.toInt ≤ b) : ivL a b x := h
theorem ivL_w {a b a' b' : Int} {x : Int64} (h : ivL a b x) (h1 : a' ≤ a ∧ b ≤ b') : ivL a' b' x := ⟨Int.le_trans h1.1 h.1, Int.le_trans h.2 h1.2⟩
theorem ivL_top (x : Int64) : ivL (-9223372036854775808) 9223372036854775807 x := ⟨Int64.le_toInt x, by have := Int64.toInt_lt x; omega⟩
theorem ivL_bm {z : Int} (h1 : -9223372036854775808 ≤ z) (h2 : z ≤ 9223372036854775807) : z.bmod (2 ^ 64) = z := by
  apply Int.bmod_eq_of_le <;> omega
theorem ivL_l1 {x y : Int64} {a b c d B : Int} (q : x < y) (hx : ivL a b x) (hy : ivL c d y) (h : d - 1 ≤ B) : ivL a B x := by
  unfold ivL at *; rw [Int64.lt_iff_toInt_lt] at q; omega
theorem ivL_l2 {x y : Int64} {a b c d A : Int} (q : x < y) (hx : ivL a b x) (hy : ivL c d y) (h : A ≤ a + 1) : ivL A d y := by
  unfold ivL at *; rw [Int64.lt_iff_toInt_lt] at q; omega
theorem ivL_e1 {x y : Int64} {a b c d B : Int} (q : x ≤ y) (hx : ivL a b x) (hy : ivL c d y) (h : d - 0 ≤ B) : ivL a B x := by
  unfold ivL at *; rw [Int64.le_iff_toInt_le] at q; omega
theorem ivL_e2 {x y : Int64} {a b c d A : Int} (q : x ≤ y) (hx : ivL a b x) (hy : ivL c d y) (h : A ≤ a + 0) : ivL A d y := by
  unfold ivL at *; rw [Int64.le_iff_toInt_le] at q; omega
theorem ivL_q {x y : Int64} {a b : Int} (q : x = y) (hy : ivL a b y) : ivL a b x := by rw [q]; exact hy
theorem ivL_n0 {x y : Int64} {a b c A : Int} (q : ¬ x = y) (hx : ivL a b x) (hy : ivL c c y) (h : c = a ∧ A ≤ a + 1) : ivL A b x := by
  have : x.toInt ≠ y.toInt := fun e => q (Int64.toInt_inj.mp e)
  unfold ivL at *; omega
theorem ivL_n1 {x y : Int64} {a b c B : Int} (q : ¬ x = y) (hx : ivL a b x) (hy : ivL c c y) (h : c = b ∧ b - 1 ≤ B) : ivL a B x := by
  have : x.toInt ≠ y.toInt := fun e => q (Int64.toInt_inj.mp e)
  unfold ivL at *; omega
theorem ivL_eqp {x y : Int64} {a : Int} (hx : ivL a a x) (hy : ivL a a y) : x = y := by
  unfold ivL at *; exact Int64.toInt_inj.mp (by omega)
theorem ivL_nz {x : Int64} {a b : Int} (hx : ivL a b x) (h : 0 < a) : ¬ x = 0 := fun q => by
  subst q; unfold ivL at hx; rw [(by decide : (0 : Int64).toInt = 0)] at hx; omega
theorem toI64 (x : Int32) : x.toInt64.toInt = x.toInt := by simp
theorem ivL_of {x : Int32} {a b : Int} (h : iv a b x) : ivL a b x.toInt64 := by
  unfold ivL; rw [toI64]; exact h
theorem ivL_i {j : Int64} {x : Int32} {a b : Int} (e : j = x.toInt64) (h : ivL a b j) : iv a b x := by
  unfold ivL at h; rw [e, toI64] at h; exact h
theorem iv_cap {x : Int32} {a b c d A B : Int} (h : iv a b x) (g : iv c d x) (q : (A ≤ a ∨ A ≤ c) ∧ (b ≤ B ∨ d ≤ B)) : iv A B x := by
  unfold iv at *; omega
theorem ivL_cap {x : Int64} {a b c d A B : Int} (h : ivL a b x) (g : ivL c d x) (q : (A ≤ a ∨ A ≤ c) ∧ (b ≤ B ∨ d ≤ B)) : ivL A B x := by
  unfold ivL at *; omega
theorem iv_ofL {j : Int64} {a b : Int} (h : ivL a b j) (q : -2147483648 ≤ a ∧ b ≤ 2147483647) : iv a b j.toInt32 := by
  unfold ivL at h; unfold iv
  rw [Int64.toInt_toInt32]
  rw [Int.bmod_eq_of_le (by omega) (by omega)]; exact h
theorem ivL_sub {x y : Int64} {a b c d A B : Int} (hx : ivL a b x) (hy : ivL c d y) (h : A ≤ a - d ∧ b - c ≤ B ∧ -9223372036854775808 ≤ A ∧ B ≤ 9223372036854775807) : ivL A B (x - y) := by
  unfold ivL at *
  rw [Int64.toInt_sub, ivL_bm (by omega) (by omega)]; omega
theorem ivL_subb {x y z : Int64} {a b c d A B : Int} (e : x = y - z) (hx : ivL a b x) (hy : ivL c d y) (h : A - z.toInt ≤ a ∧ b ≤ B - z.toInt ∧ -9223372036854775808 ≤ c - z.toInt ∧ d - z.toInt ≤ 9223372036854775807 ∧ (A ≤ c ∨ True) ∧ True) : ivL A B y := by
  unfold ivL at *
  rw [e, Int64.toInt_sub, ivL_bm (by omega) (by omega)] at hx; omega
theorem cl_ne {x y : Int32} {a b c d : Int} (hx : iv a b x) (hy : iv c d y) (h : 0 ≤ a ∧ 0 ≤ c ∧ (b < c ∨ d < a)) : x.toNatClampNeg ≠ y.toNatClampNeg := by
  unfold iv at *
  have k1 := clampNat (x := x) (by omega)
  have k2 := clampNat (x := y) (by omega)
  omega
theorem updL_at {f : Nat → Int64} {i : Nat} {v : Int64} : vp_updL f i v i = v := by simp [vp_updL]
theorem updL_ne {f : Nat → Int64} {i j : Nat} {v : Int64} (h : j ≠ i) : vp_updL f i v j = f j := by simp [vp_updL, h]
theorem iv_ushr16 (x : Int32) : iv 0 65535 ((x.toUInt32 >>> ((16 : Int32).toUInt32 &&& Int32.toUInt32 31)).toInt32) := by
  unfold iv
  have e : ((16 : Int32).toUInt32 &&& Int32.toUInt32 31) = 16 := by decide
  rw [e]
  have h1 : (x.toUInt32 >>> 16).toNat < 65536 := by
    rw [UInt32.toNat_shiftRight]
    have := x.toUInt32.toNat_lt
    simp only [UInt32.reduceToNat]
    rw [Nat.shiftRight_eq_div_pow, (by decide : (2 : Nat) ^ (16 % 32) = 65536)]
    omega
  have h2 : (x.toUInt32 >>> 16).toInt32.toInt = ((x.toUInt32 >>> 16).toNat : Int) := by
    show (x.toUInt32 >>> 16).toBitVec.toInt = _
    exact BitVec.toInt_eq_toNat_of_lt (by show 2 * (x.toUInt32 >>> 16).toNat < 4294967296; omega)
  omega
def ivT (T : Nat → Int × Int) (f : Nat → Int32) : Prop := ∀ j, iv (T j).1 (T j).2 (f j)
def ckT (T : Nat → Int × Int) (c k a n : Nat) (lo hi : Int) : Bool := (List.range n).all fun q => decide (lo ≤ (T (c + k * (a + q))).1) && decide ((T (c + k * (a + q))).2 ≤ hi)
def ckW (T : Nat → Int × Int) (c k a n : Nat) (lo hi : Int) : Bool := (List.range n).all fun q => decide ((T (c + k * (a + q))).1 ≤ lo) && decide (hi ≤ (T (c + k * (a + q))).2)
theorem ckT_at {T : Nat → Int × Int} {c k a n : Nat} {lo hi : Int} (h : ckT T c k a n lo hi = true) {j : Nat} (h1 : a ≤ j) (h2 : j < a + n) : lo ≤ (T (c + k * j)).1 ∧ (T (c + k * j)).2 ≤ hi := by
  have := List.all_eq_true.mp h (j - a) (List.mem_range.mpr (by omega))
  rw [show a + (j - a) = j by omega] at this
  simpa using this
theorem ckW_at {T : Nat → Int × Int} {c k a n : Nat} {lo hi : Int} (h : ckW T c k a n lo hi = true) {j : Nat} (h1 : a ≤ j) (h2 : j < a + n) : (T (c + k * j)).1 ≤ lo ∧ hi ≤ (T (c + k * j)).2 := by
  have := List.all_eq_true.mp h (j - a) (List.mem_range.mpr (by omega))
  rw [show a + (j - a) = j by omega] at this
  simpa using this
theorem rdS {T : Nat → Int × Int} {f : Nat → Int32} {x d : Int32} {c k a n : Nat} {A B lo hi : Int} (h : ivT T f) (hx : x.toInt = (c : Int) + (k : Int) * d.toInt) (hd : iv A B d) (hab : (a : Int) ≤ A ∧ B < (a : Int) + n) (ck : ckT T c k a n lo hi = true) : iv lo hi (f x.toNatClampNeg) := by
  have h0 : 0 ≤ d.toInt := by have := hd.1; omega
  have kd := clampNat h0
  have e : x.toNatClampNeg = c + k * d.toNatClampNeg := by
    have : x.toInt = ((c + k * d.toNatClampNeg : Nat) : Int) := by rw [hx, ← kd]; push_cast; rfl
    have kx := clampNat (x := x) (by omega)
    omega
  rw [e]
  have q := ckT_at ck (j := d.toNatClampNeg) (by have := hd.1; omega) (by have := hd.2; omega)
  exact iv_w (h _) q
theorem rdT {T : Nat → Int × Int} {f : Nat → Int32} {x : Int32} {a n : Nat} {A B lo hi : Int} (h : ivT T f) (hx : iv A B x) (hab : (a : Int) ≤ A ∧ B < (a : Int) + n) (ck : ckT T 0 1 a n lo hi = true) : iv lo hi (f x.toNatClampNeg) :=
  rdS (c := 0) (k := 1) h (by push_cast; omega) hx hab ck
theorem upS {T : Nat → Int × Int} {f : Nat → Int32} {x d v : Int32} {c k a n : Nat} {A B lo hi : Int} (h : ivT T f) (hx : x.toInt = (c : Int) + (k : Int) * d.toInt) (hd : iv A B d) (hab : (a : Int) ≤ A ∧ B < (a : Int) + n) (hv : iv lo hi v) (ck : ckW T c k a n lo hi = true) : ivT T (upd f x.toNatClampNeg v) := by
  have h0 : 0 ≤ d.toInt := by have := hd.1; omega
  have kd := clampNat h0
  have e : x.toNatClampNeg = c + k * d.toNatClampNeg := by
    have : x.toInt = ((c + k * d.toNatClampNeg : Nat) : Int) := by rw [hx, ← kd]; push_cast; rfl
    have kx := clampNat (x := x) (by omega)
    omega
  have q := ckW_at ck (j := d.toNatClampNeg) (by have := hd.1; omega) (by have := hd.2; omega)
  intro j
  by_cases hj : j = x.toNatClampNeg
  · subst hj; rw [upd_at, e]; exact iv_w hv q
  · rw [upd_ne hj]; exact h j
theorem upT {T : Nat → Int × Int} {f : Nat → Int32} {x v : Int32} {a n : Nat} {A B lo hi : Int} (h : ivT T f) (hx : iv A B x) (hab : (a : Int) ≤ A ∧ B < (a : Int) + n) (hv : iv lo hi v) (ck : ckW T 0 1 a n lo hi = true) : ivT T (upd f x.toNatClampNeg v) :=
  upS (c := 0) (k := 1) h (by push_cast; omega) hx hab hv ck
theorem toInt_add {x y z : Int32} {a b c d : Int} (e : x = y + z) (hy : iv a b y) (hz : iv c d z) (h : -2147483648 ≤ a + c ∧ b + d ≤ 2147483647) : x.toInt = y.toInt + z.toInt := by
  unfold iv at *
  rw [e, Int32.toInt_add, iv_bm (by omega) (by omega)]
theorem toInt_sub {x y z : Int32} {a b c d : Int} (e : x = y - z) (hy : iv a b y) (hz : iv c d z) (h : -2147483648 ≤ a - d ∧ b - c ≤ 2147483647) : x.toInt = y.toInt - z.toInt := by
  unfold iv at *
  rw [e, Int32.toInt_sub, iv_bm (by omega) (by omega)]
theorem toInt_mulc {x y z : Int32} {a b k : Int} (e : x = y * z) (hy : iv a b y) (hz : z.toInt = k) (h : 0 ≤ k ∧ -2147483648 ≤ a * k ∧ b * k ≤ 2147483647) : x.toInt = k * y.toInt := by
  unfold iv at *
  have h1 : a * k ≤ y.toInt * k := Int.mul_le_mul_of_nonneg_right hy.1 h.1
  have h2 : y.toInt * k ≤ b * k := Int.mul_le_mul_of_nonneg_right hy.2 h.1
  rw [e, Int32.toInt_mul, hz, iv_bm (by omega) (by omega), Int.mul_comm]
theorem toInt_mulC {x y z : Int32} {a b k : Int} (e : x = z * y) (hy : iv a b y) (hz : z.toInt = k) (h : 0 ≤ k ∧ -2147483648 ≤ a * k ∧ b * k ≤ 2147483647) : x.toInt = k * y.toInt :=
  toInt_mulc (e.trans (Int32.mul_comm _ _)) hy hz h

noncomputable def rf2 (least c : Int32) (n : Nat → Int64) : Int32 := if c.toInt < 0 then -6 else if c.toInt < 1 ∨ 8 < c.toInt then -4 else @ite _ (∃ j : Nat, (j : Int) < c.toInt ∧ (n j < least.toInt64 ∨ 4 < n j)) (Classical.propDecidable _) (-3) 0
theorem rf2_6 {least c : Int32} {n : Nat → Int64} (h : c.toInt < 0) : -6 = rf2 least c n := by unfold rf2; rw [if_pos h]
theorem rf2_4 {least c : Int32} {n : Nat → Int64} (h0 : ¬ c.toInt < 0) (h : c.toInt < 1 ∨ 8 < c.toInt) : -4 = rf2 least c n := by unfold rf2; rw [if_neg h0, if_pos h]
theorem rf2_3 {least c u : Int32} {n : Nat → Int64} {a b : Int} (h0 : ¬ c.toInt < 0) (h : ¬ (c.toInt < 1 ∨ 8 < c.toInt)) (hu : iv a b u) (ha : 0 ≤ a) (hc : u.toInt < c.toInt) (g : n u.toNatClampNeg < least.toInt64 ∨ 4 < n u.toNatClampNeg) : -3 = rf2 least c n := by
  have := hu.1
  have k := clampNat (x := u) (by omega)
  unfold rf2; rw [if_neg h0, if_neg h, if_pos ⟨u.toNatClampNeg, by omega, g⟩]
theorem rf2_0 {least c u : Int32} {n : Nat → Int64} (h0 : ¬ c.toInt < 0) (h : ¬ (c.toInt < 1 ∨ 8 < c.toInt)) (g : ∀ j : Nat, (j : Int) < u.toInt → ¬ (n j < least.toInt64 ∨ 4 < n j)) (hu : c.toInt ≤ u.toInt) : 0 = rf2 least c n := by
  unfold rf2; rw [if_neg h0, if_neg h, if_neg (by rintro ⟨j, h1, h2⟩; exact g j (by omega) h2)]
theorem rf_s {least u u' : Int32} {n : Nat → Int64} {x y : Int64} {a b : Int} (g : ∀ j : Nat, (j : Int) < u.toInt → ¬ (n j < least.toInt64 ∨ 4 < n j)) (hu : iv a b u) (hab : 0 ≤ a ∧ b < 2147483647) (ex : x = n u.toNatClampNeg) (ey : y = least.toInt64) (h1 : ¬ x < y) (h2 : x ≤ 4) (eu : u' = u + 1) : ∀ j : Nat, (j : Int) < u'.toInt → ¬ (n j < least.toInt64 ∨ 4 < n j) := fun j hj => by
  have e := inc_toInt eu hu ⟨by omega, hab.2⟩
  have := hu.1
  have k := clampNat (x := u) (by omega)
  by_cases q : j = u.toNatClampNeg
  · subst q; rw [← ex, ← ey]; rintro (z | z)
    · exact h1 z
    · exact absurd h2 (Int64.not_le.mpr z)
  · exact g j (by omega)
noncomputable def rfF (t h least hl c0 c1 c2 c3 : Int32) (n0 n1 n2 n3 : Nat → Int64) : Int32 := if t.toInt < 0 ∨ 3 < t.toInt ∨ h.toInt < 0 ∨ hl.toInt ≤ h.toInt then -2 else if t = 0 then rf2 least c0 n0 else if t = 1 then rf2 least c1 n1 else if t = 2 then rf2 least c2 n2 else rf2 least c3 n3
theorem rfF_2 {t h least hl c0 c1 c2 c3 : Int32} {n0 n1 n2 n3 : Nat → Int64} (q : t.toInt < 0 ∨ 3 < t.toInt ∨ h.toInt < 0 ∨ hl.toInt ≤ h.toInt) : -2 = rfF t h least hl c0 c1 c2 c3 n0 n1 n2 n3 := by unfold rfF; rw [if_pos q]
theorem rfF_t0 {r h least hl c0 c1 c2 c3 : Int32} {n0 n1 n2 n3 : Nat → Int64} (q : ¬ (h.toInt < 0 ∨ hl.toInt ≤ h.toInt)) (e : r = rf2 least c0 n0) : r = rfF 0 h least hl c0 c1 c2 c3 n0 n1 n2 n3 := by
  have z : (0 : Int32).toInt = 0 := by decide
  unfold rfF; rw [if_neg (by omega), if_pos rfl]; exact e
theorem rfF_t1 {r h least hl c0 c1 c2 c3 : Int32} {n0 n1 n2 n3 : Nat → Int64} (q : ¬ (h.toInt < 0 ∨ hl.toInt ≤ h.toInt)) (e : r = rf2 least c1 n1) : r = rfF 1 h least hl c0 c1 c2 c3 n0 n1 n2 n3 := by
  have z : (1 : Int32).toInt = 1 := by decide
  unfold rfF; rw [if_neg (by omega), if_neg (by decide), if_pos rfl]; exact e
theorem rfF_t2 {r h least hl c0 c1 c2 c3 : Int32} {n0 n1 n2 n3 : Nat → Int64} (q : ¬ (h.toInt < 0 ∨ hl.toInt ≤ h.toInt)) (e : r = rf2 least c2 n2) : r = rfF 2 h least hl c0 c1 c2 c3 n0 n1 n2 n3 := by
  have z : (2 : Int32).toInt = 2 := by decide
  unfold rfF; rw [if_neg (by omega), if_neg (by decide), if_neg (by decide), if_pos rfl]; exact e
theorem rfF_t3 {r h least hl c0 c1 c2 c3 : Int32} {n0 n1 n2 n3 : Nat → Int64} (q : ¬ (h.toInt < 0 ∨ hl.toInt ≤ h.toInt)) (e : r = rf2 least c3 n3) : r = rfF 3 h least hl c0 c1 c2 c3 n0 n1 n2 n3 := by
  have z : (3 : Int32).toInt = 3 := by decide
  unfold rfF; rw [if_neg (by omega), if_neg (by decide), if_neg (by decide), if_neg (by decide)]; exact e
def cntF (t c0 c1 c2 c3 : Int32) : Int32 := if t = 0 then c0 else if t = 1 then c1 else if t = 2 then c2 else c3
theorem cntF_0 {c0 c1 c2 c3 : Int32} : cntF 0 c0 c1 c2 c3 = c0 := by unfold cntF; rw [if_pos rfl]
theorem cntF_1 {c0 c1 c2 c3 : Int32} : cntF 1 c0 c1 c2 c3 = c1 := by unfold cntF; rw [if_neg (by decide), if_pos rfl]
theorem cntF_2 {c0 c1 c2 c3 : Int32} : cntF 2 c0 c1 c2 c3 = c2 := by unfold cntF; rw [if_neg (by decide), if_neg (by decide), if_pos rfl]
theorem cntF_3 {c0 c1 c2 c3 : Int32} : cntF 3 c0 c1 c2 c3 = c3 := by unfold cntF; rw [if_neg (by decide), if_neg (by decide), if_neg (by decide)]

def nuF (t s n : Int32) : Int32 := if t.toInt < 0 ∨ 3 < t.toInt ∨ s.toInt < 0 ∨ 3 < s.toInt then -2 else if n.toInt < 0 ∨ 40 < n.toInt then -3 else 0
theorem nu_2 {t s n : Int32} (h : t.toInt < 0 ∨ 3 < t.toInt ∨ s.toInt < 0 ∨ 3 < s.toInt) : -2 = nuF t s n := by unfold nuF; rw [if_pos h]
theorem nu_3 {t s n : Int32} (h : ¬ (t.toInt < 0 ∨ 3 < t.toInt ∨ s.toInt < 0 ∨ 3 < s.toInt)) (g : n.toInt < 0 ∨ 40 < n.toInt) : -3 = nuF t s n := by unfold nuF; rw [if_neg h, if_pos g]
theorem nu_0 {t s n : Int32} (h : ¬ (t.toInt < 0 ∨ 3 < t.toInt ∨ s.toInt < 0 ∨ 3 < s.toInt)) (g : ¬ (n.toInt < 0 ∨ 40 < n.toInt)) : 0 = nuF t s n := by unfold nuF; rw [if_neg h, if_neg g]
theorem wi_0 {x : Int32} {j lo hi : Int64} {a b : Int} (ej : j = x.toInt64) (h : ¬ (lo ≤ j ∧ j ≤ hi)) (ha : lo.toInt = a) (hb : hi.toInt = b) : x.toInt < a ∨ b < x.toInt := by
  rw [Int64.le_iff_toInt_le, Int64.le_iff_toInt_le, ej, toI64] at h
  omega

def feF (t : Int32) : Int32 := if 880 < t.toInt then -5 else t + 20
def feS (t : Int32) : Int32 := if 880 < t.toInt then t else t + 20
def feT (t : Nat → Int32) : Nat → Int32 := fun i => feS (t i)
def coS (a t : Int32) : Int32 := if 0 ≤ a.toInt ∧ a.toInt ≤ t.toInt then 0 else t
def coT (a : Int32) (t : Nat → Int32) : Nat → Int32 := fun i => coS a (t i)
theorem add4 {a b c d e : Int32} (h1 : b = a + 1) (h2 : c = b + 1) (h3 : d = c + 1) (h4 : e = d + 1) : e = a + 4 := by
  rw [h4, h3, h2, h1, Int32.add_assoc, Int32.add_assoc, Int32.add_assoc]; rfl
theorem fe_t {t r : Int32} (h : r.toInt = t.toInt + 20) (h0 : ¬ 880 < t.toInt) : r = t + 20 := by
  have h1 := Int32.le_toInt t
  apply Int32.toInt_inj.mp
  rw [Int32.toInt_add, (by decide : (20 : Int32).toInt = 20), iv_bm (by omega) (by omega)]; exact h
theorem fe_5 {t : Int32} (h : 880 < t.toInt) : -5 = feF t := by unfold feF; rw [if_pos h]
theorem fe_1 {t r : Int32} (h : r.toInt = t.toInt + 20) (h0 : ¬ 880 < t.toInt) : r = feF t := by unfold feF; rw [if_neg h0]; exact fe_t h h0
theorem fs_5 {t : Int32} (h : 880 < t.toInt) : t = feS t := by unfold feS; rw [if_pos h]
theorem fs_1 {t r : Int32} (h : r.toInt = t.toInt + 20) (h0 : ¬ 880 < t.toInt) : r = feS t := by unfold feS; rw [if_neg h0]; exact fe_t h h0
theorem co_0 {a t : Int32} (h : 0 ≤ a.toInt ∧ a.toInt ≤ t.toInt) : 0 = coS a t := by unfold coS; rw [if_pos h]
theorem co_n {a t : Int32} (h : ¬ (0 ≤ a.toInt ∧ a.toInt ≤ t.toInt)) : t = coS a t := by unfold coS; rw [if_neg h]
theorem wt_0 {x t : Int32} {j k lo : Int64} (ej : j = x.toInt64) (ek : k = t.toInt64) (h : ¬ (lo ≤ j ∧ j ≤ k)) (hlo : lo.toInt = 0) : ¬ (0 ≤ x.toInt ∧ x.toInt ≤ t.toInt) := by
  rw [Int64.le_iff_toInt_le, Int64.le_iff_toInt_le, ej, ek, toI64, toI64] at h
  omega
theorem wt_1 {x t : Int32} {j k lo : Int64} (ej : j = x.toInt64) (ek : k = t.toInt64) (h1 : lo ≤ j) (h2 : j ≤ k) (hlo : lo.toInt = 0) : 0 ≤ x.toInt ∧ x.toInt ≤ t.toInt := by
  rw [Int64.le_iff_toInt_le, ej, toI64] at h1
  rw [Int64.le_iff_toInt_le, ej, ek, toI64, toI64] at h2
  omega

theorem iv_and255 (x : Int32) : iv 0 255 (x &&& 255) := by
  obtain ⟨j, hj, e⟩ := pk_andE x (m := 255) 8 (by decide)
  have hj : j < 256 := hj
  rw [e]; unfold iv; rw [nI_toInt (by omega)]; omega
def scF (P : Int32 → Bool) : Nat → Int32 → Int32
  | 0, e => e
  | k + 1, e => if P e = true then scF P k (e + 1) else e
theorem scF_of {P : Int32 → Bool} : ∀ (k : Nat) (e p : Int32), 0 ≤ e.toInt → e.toInt ≤ p.toInt → p.toInt ≤ 900 → p.toInt - e.toInt < (k : Int) → (∀ j : Int32, e.toInt ≤ j.toInt → j.toInt < p.toInt → P j = true) → P p = false → scF P k e = p := by
  intro k
  induction k with
  | zero => intro e p h0 h1 h2 h3; omega
  | succ k ih =>
    intro e p h0 h1 h2 h3 h4 h5
    show (if P e = true then scF P k (e + 1) else e) = p
    by_cases q : e.toInt = p.toInt
    · have q2 : e = p := Int32.toInt_inj.mp q
      subst q2
      rw [if_neg (by rw [h5]; decide)]
    · have e1 := inc_toInt (c := e) (c' := e + 1) (a := 0) (b := 900) rfl ⟨h0, by omega⟩ (by decide)
      rw [if_pos (h4 e (by omega) (by omega))]
      exact ih (e + 1) p (by omega) (by omega) h2 (by omega) (fun j a b => h4 j (by omega) b) h5
theorem scF_bd {P : Int32 → Bool} {n : Int} (hP : ∀ j, P j = true → j.toInt < n) (hn : n ≤ 900) : ∀ (k : Nat) (e : Int32), 0 ≤ e.toInt → e.toInt ≤ n → e.toInt ≤ (scF P k e).toInt ∧ (scF P k e).toInt ≤ n := by
  intro k
  induction k with
  | zero => intro e h0 h1; exact ⟨Int.le_refl _, h1⟩
  | succ k ih =>
    intro e h0 h1
    show e.toInt ≤ (if P e = true then scF P k (e + 1) else e).toInt ∧ (if P e = true then scF P k (e + 1) else e).toInt ≤ n
    by_cases q : P e = true
    · have e0 := hP e q
      have e1 := inc_toInt (c := e) (c' := e + 1) (a := 0) (b := 900) rfl ⟨h0, by omega⟩ (by decide)
      rw [if_pos q]
      have := ih (e + 1) (by omega) (by omega)
      omega
    · rw [if_neg q]; exact ⟨Int.le_refl _, h1⟩
theorem scF_all {P : Int32 → Bool} {n : Int} (hP : ∀ j, P j = true → j.toInt < n) (hn : n ≤ 900) : ∀ (k : Nat) (e j : Int32), 0 ≤ e.toInt → e.toInt ≤ n → e.toInt ≤ j.toInt → j.toInt < (scF P k e).toInt → P j = true := by
  intro k
  induction k with
  | zero => intro e j h0 h1 h2 h3; have h4 : j.toInt < e.toInt := h3; omega
  | succ k ih =>
    intro e j h0 h1 h2 h3
    by_cases q : P e = true
    · have e0 := hP e q
      have e1 := inc_toInt (c := e) (c' := e + 1) (a := 0) (b := 900) rfl ⟨h0, by omega⟩ (by decide)
      have h4 : j.toInt < (scF P k (e + 1)).toInt := by
        have h5 : (scF P (k + 1) e) = scF P k (e + 1) := by show (if P e = true then scF P k (e + 1) else e) = _; rw [if_pos q]
        rw [h5] at h3; exact h3
      by_cases z : e.toInt = j.toInt
      · rw [← Int32.toInt_inj.mp z]; exact q
      · exact ih (e + 1) j (by omega) (by omega) (by omega) h4
    · have h5 : (scF P (k + 1) e) = e := by show (if P e = true then scF P k (e + 1) else e) = _; rw [if_neg q]
      rw [h5] at h3; omega
/-- one more of the run -/
theorem sc_s {P : Int32 → Bool} {e c c' : Int32} {a b : Int} (h : ∀ j : Int32, e.toInt ≤ j.toInt → j.toInt < c.toInt → P j = true) (hc : P c = true) (ec : c' = c + 1) (hi : iv a b c) (hb : -2147483648 ≤ a ∧ b < 2147483647) : ∀ j : Int32, e.toInt ≤ j.toInt → j.toInt < c'.toInt → P j = true := fun j h1 h2 => by
  have e1 := inc_toInt ec hi hb
  by_cases z : j.toInt = c.toInt
  · rw [Int32.toInt_inj.mp z]; exact hc
  · exact h j h1 (by omega)
def blB (T : Nat → Int32) (n j : Int32) : Bool := decide (j < n) && (decide (T j.toNatClampNeg = 10) || decide (T j.toNatClampNeg = 32))
def ltB (T : Nat → Int32) (n lo hi j : Int32) : Bool := decide (j < n) && (decide (lo ≤ T j.toNatClampNeg) && decide (T j.toNatClampNeg ≤ hi))
theorem blB_lt {T : Nat → Int32} {n j : Int32} (h : blB T n j = true) : j.toInt < n.toInt := by
  unfold blB at h
  rw [Bool.and_eq_true, decide_eq_true_eq] at h
  exact Int32.lt_iff_toInt_lt.mp h.1
theorem ltB_lt {T : Nat → Int32} {n lo hi j : Int32} (h : ltB T n lo hi j = true) : j.toInt < n.toInt := by
  unfold ltB at h
  rw [Bool.and_eq_true, decide_eq_true_eq] at h
  exact Int32.lt_iff_toInt_lt.mp h.1
theorem blB_1 {T : Nat → Int32} {n j x : Int32} (h : j < n) (ex : x = T j.toNatClampNeg) (hx : x = 10 ∨ x = 32) : blB T n j = true := by
  unfold blB; rw [ex] at hx
  rw [Bool.and_eq_true, decide_eq_true_eq, Bool.or_eq_true, decide_eq_true_eq, decide_eq_true_eq]; exact ⟨h, hx⟩
theorem blB_0 {T : Nat → Int32} {n j : Int32} (h : ¬ j < n) : blB T n j = false := by
  unfold blB; rw [decide_eq_false h]; rfl
theorem blB_n {T : Nat → Int32} {n j x : Int32} (ex : x = T j.toNatClampNeg) (h1 : ¬ x = 10) (h2 : ¬ x = 32) : blB T n j = false := by
  unfold blB; rw [ex] at h1 h2
  rw [decide_eq_false h1, decide_eq_false h2]; exact Bool.and_false _
theorem ltB_1 {T : Nat → Int32} {n lo hi j x : Int32} (h : j < n) (ex : x = T j.toNatClampNeg) (h1 : lo ≤ x) (h2 : x ≤ hi) : ltB T n lo hi j = true := by
  unfold ltB; rw [ex] at h1 h2
  rw [decide_eq_true h, decide_eq_true h1, decide_eq_true h2]; rfl
theorem ltB_0 {T : Nat → Int32} {n lo hi j : Int32} (h : ¬ j < n) : ltB T n lo hi j = false := by
  unfold ltB; rw [decide_eq_false h]; rfl
theorem ltB_n {T : Nat → Int32} {n lo hi j x : Int32} (ex : x = T j.toNatClampNeg) (h : ¬ lo ≤ x ∨ ¬ x ≤ hi) : ltB T n lo hi j = false := by
  unfold ltB; rw [ex] at h
  rcases h with h | h
  · rw [decide_eq_false h]; exact Bool.and_false _
  · rw [decide_eq_false h, Bool.and_false]; exact Bool.and_false _
theorem ltB_ch {T : Nat → Int32} {n lo hi j : Int32} (h : ltB T n lo hi j = true) : lo ≤ T j.toNatClampNeg ∧ T j.toNatClampNeg ≤ hi := by
  unfold ltB at h
  rw [Bool.and_eq_true, Bool.and_eq_true, decide_eq_true_eq, decide_eq_true_eq, decide_eq_true_eq] at h
  exact h.2
def mtB (T : Nat → Int32) (p q : Int32) (w : List Int32) : Bool := decide (nI w.length = q - p) && decide (∀ j : Nat, j < w.length → T (p + nI j).toNatClampNeg = w.getD j 0)
theorem mtB_iff {T : Nat → Int32} {p q : Int32} {w : List Int32} : mtB T p q w = true ↔ (nI w.length = q - p ∧ ∀ j : Nat, j < w.length → T (p + nI j).toNatClampNeg = w.getD j 0) := by
  unfold mtB; rw [Bool.and_eq_true, decide_eq_true_eq, decide_eq_true_eq]
def kyF (T : Nat → Int32) (p q : Int32) : Nat → List (List Int32) → Int32
  | _, [] => 22
  | i, w :: ws => if mtB T p q w = true then nI i else kyF T p q (i + 1) ws
def KWS : List (List Int32) := [[99, 111, 97, 115, 116], [119, 101, 97, 116, 104, 101, 114], [104, 105, 108, 108], [115, 116, 97, 99, 107], [102, 101, 97, 114], [103, 97, 112], [116, 111, 111, 107], [118, 105, 108, 108, 97, 103, 101], [110, 101, 101, 100, 115], [114, 111, 97, 100], [99, 97, 114, 114, 105, 101, 115], [116, 97, 107, 101, 115], [97, 100, 100, 115], [105, 102], [116, 104, 101, 110], [101, 108, 115, 101], [101, 110, 100], [119, 101, 115, 116], [115, 101, 101, 110], [97, 110, 100], [111, 114], [110, 111, 116]]
def sgF (c : Int32) : Int32 := if c = 59 then 30 else if c = 58 then 31 else if c = 43 then 32 else if c = 45 then 33 else if c = 42 then 34 else if c = 40 then 35 else if c = 41 then 36 else if c = 91 then 37 else if c = 93 then 38 else if c = 61 then 39 else if c = 60 then 40 else if c = 62 then 41 else 25
/-- the number of the first k digits -/
def dv (T : Nat → Int32) (p : Int32) : Nat → Int32
  | 0 => 0
  | k + 1 => dv T p k * 10 + T (p + nI k).toNatClampNeg - 48
def tkP (T : Nat → Int32) (n e : Int32) : Int32 := scF (blB T n) 901 e
def tkC (T : Nat → Int32) (n e : Int32) : Int32 := T (tkP T n e).toNatClampNeg
def tkE (T : Nat → Int32) (n e : Int32) : Int32 := if tkP T n e < n then (if 97 ≤ tkC T n e ∧ tkC T n e ≤ 122 then scF (ltB T n 97 122) 901 (tkP T n e) else if 48 ≤ tkC T n e ∧ tkC T n e ≤ 57 then scF (ltB T n 48 57) 901 (tkP T n e) else tkP T n e + 1) else tkP T n e
def tkK (T : Nat → Int32) (n e : Int32) : Int32 := if tkP T n e < n then (if 97 ≤ tkC T n e ∧ tkC T n e ≤ 122 then kyF T (tkP T n e) (tkE T n e) 0 KWS else if 48 ≤ tkC T n e ∧ tkC T n e ≤ 57 then (if 3 < tkE T n e - tkP T n e then 25 else 23) else sgF (tkC T n e &&& 255)) else 24
def tkV (T : Nat → Int32) (n e : Int32) : Int32 := if tkK T n e = 23 then dv T (tkP T n e) (tkE T n e - tkP T n e).toNatClampNeg else 0
/-- the token from a place on: where it begins, where it ends, its kind, its number -/
def tkX (T : Nat → Int32) (n e : Int32) : Int32 × Int32 × Int32 × Int32 := if 0 ≤ e.toInt ∧ e.toInt ≤ n.toInt then (tkP T n e, tkE T n e, tkK T n e, tkV T n e) else (0, 0, 24, 0)
theorem tkX_in {T : Nat → Int32} {n e : Int32} (h : 0 ≤ e.toInt ∧ e.toInt ≤ n.toInt) : tkX T n e = (tkP T n e, tkE T n e, tkK T n e, tkV T n e) := by unfold tkX; rw [if_pos h]
theorem tkP_bd {T : Nat → Int32} {n e : Int32} (hn : n.toInt ≤ 900) (h : 0 ≤ e.toInt ∧ e.toInt ≤ n.toInt) : e.toInt ≤ (tkP T n e).toInt ∧ (tkP T n e).toInt ≤ n.toInt := scF_bd (fun _ q => blB_lt q) hn 901 e h.1 h.2
theorem tkE_bd {T : Nat → Int32} {n e : Int32} (hn : n.toInt ≤ 900) (h : 0 ≤ e.toInt ∧ e.toInt ≤ n.toInt) : (tkP T n e).toInt ≤ (tkE T n e).toInt ∧ (tkE T n e).toInt ≤ n.toInt := by
  have p := tkP_bd (T := T) hn h
  unfold tkE
  split
  · next q =>
    have q' := Int32.lt_iff_toInt_lt.mp q
    split
    · exact scF_bd (fun _ q => ltB_lt q) hn 901 _ (by omega) p.2
    · split
      · exact scF_bd (fun _ q => ltB_lt q) hn 901 _ (by omega) p.2
      · have e1 := inc_toInt (c := tkP T n e) (c' := tkP T n e + 1) (a := 0) (b := 900) rfl ⟨by omega, by omega⟩ (by decide)
        omega
  · omega
/-- bytes with a sign, and without -/
def BT (a b : Int32) : Prop := (a = b ∧ 0 ≤ a.toInt ∧ a.toInt ≤ 127) ∨ (a.toInt < 0 ∧ 128 ≤ b.toInt ∧ b.toInt ≤ 255 ∧ a &&& 255 = b &&& 255)
def BTs (f T : Nat → Int32) : Prop := ∀ j : Nat, j < 900 → BT (f j) (T j)
theorem BT_eq {a b c : Int32} (h : BT a b) (hc : 0 ≤ c.toInt ∧ c.toInt ≤ 127) : a = c ↔ b = c := by
  rcases h with ⟨h1, h2, h3⟩ | ⟨h1, h2, h3, -⟩
  · rw [h1]
  · constructor
    · intro q; rw [q] at h1; omega
    · intro q; rw [q] at h2; omega
theorem BT_and {a b : Int32} (h : BT a b) : a &&& 255 = b &&& 255 := by
  rcases h with ⟨h1, h2, h3⟩ | ⟨h1, h2, h3, h4⟩
  · rw [h1]
  · exact h4
theorem BT_rg {a b lo hi : Int32} (h : BT a b) (hl : 0 ≤ lo.toInt) (hh : hi.toInt ≤ 127) : (lo ≤ a ∧ a ≤ hi) ↔ (lo ≤ b ∧ b ≤ hi) := by
  simp only [Int32.le_iff_toInt_le]
  rcases h with ⟨h1, h2, h3⟩ | ⟨h1, h2, h3, -⟩
  · rw [h1]
  · constructor <;> (rintro ⟨x, y⟩; omega)
theorem ix900 {j n : Int32} (h : j < n) (hn : n.toInt ≤ 900) : j.toNatClampNeg < 900 := by
  have h1 := Int32.lt_iff_toInt_lt.mp h
  by_cases q : 0 ≤ j.toInt
  · have := clampNat q; omega
  · have : j.toNatClampNeg = 0 := by show j.toInt.toNat = 0; omega
    omega
theorem blB_cg {f T : Nat → Int32} {n : Int32} (h : BTs f T) (hn : n.toInt ≤ 900) : blB f n = blB T n := funext fun j => by
  unfold blB
  by_cases q : j < n
  · have b := h _ (ix900 q hn)
    rw [decide_eq_decide.mpr (BT_eq b (c := 10) (by decide)), decide_eq_decide.mpr (BT_eq b (c := 32) (by decide))]
  · rw [decide_eq_false q]; rfl
theorem ltB_cg {f T : Nat → Int32} {n lo hi : Int32} (h : BTs f T) (hn : n.toInt ≤ 900) (hl : 0 ≤ lo.toInt) (hh : hi.toInt ≤ 127) : ltB f n lo hi = ltB T n lo hi := funext fun j => by
  unfold ltB
  by_cases q : j < n
  · have b := BT_rg (h _ (ix900 q hn)) hl hh
    have e : (decide (lo ≤ f j.toNatClampNeg) && decide (f j.toNatClampNeg ≤ hi)) = (decide (lo ≤ T j.toNatClampNeg) && decide (T j.toNatClampNeg ≤ hi)) := by
      rw [Bool.eq_iff_iff, Bool.and_eq_true, Bool.and_eq_true, decide_eq_true_eq, decide_eq_true_eq, decide_eq_true_eq, decide_eq_true_eq]; exact b
    rw [e]
  · rw [decide_eq_false q, Bool.false_and, Bool.false_and]
theorem kws_ok : ∀ w ∈ KWS, w.length ≤ 116 ∧ ∀ j : Nat, j < w.length → 97 ≤ (w.getD j 0).toInt ∧ (w.getD j 0).toInt ≤ 122 := by decide +kernel
/-- a place within a token -/
theorem in_tk {p q : Int32} {k j : Nat} (hk : nI k = q - p) (hk2 : k ≤ 2000) (hj : j < k) (hp : 0 ≤ p.toInt) (hq : q.toInt ≤ 900) (hpq : p.toInt ≤ q.toInt) : (p + nI j).toInt = p.toInt + j ∧ p.toInt + j < q.toInt := by
  have e1 : (nI k).toInt = q.toInt - p.toInt := by rw [hk, Int32.toInt_sub, iv_bm (by omega) (by omega)]
  rw [nI_toInt (by omega)] at e1
  have e2 : (p + nI j).toInt = p.toInt + j := by rw [Int32.toInt_add, nI_toInt (by omega), iv_bm (by omega) (by omega)]
  exact ⟨e2, by omega⟩
theorem mtB_cg {f T : Nat → Int32} {p q : Int32} (h : BTs f T) (hp : 0 ≤ p.toInt) (hq : q.toInt ≤ 900) (hpq : p.toInt ≤ q.toInt) {w : List Int32} (hw : w ∈ KWS) : mtB f p q w = mtB T p q w := by
  have ok := kws_ok w hw
  rw [Bool.eq_iff_iff, mtB_iff, mtB_iff]
  have key : nI w.length = q - p → ∀ j : Nat, j < w.length → (f (p + nI j).toNatClampNeg = w.getD j 0 ↔ T (p + nI j).toNatClampNeg = w.getD j 0) := fun e j hj => by
    have t := in_tk e (by omega) hj hp hq hpq
    have c := clampNat (x := p + nI j) (by omega)
    have o := ok.2 j hj
    exact BT_eq (h _ (by omega)) (by omega)
  constructor
  · rintro ⟨e, g⟩; exact ⟨e, fun j hj => (key e j hj).mp (g j hj)⟩
  · rintro ⟨e, g⟩; exact ⟨e, fun j hj => (key e j hj).mpr (g j hj)⟩
theorem kyF_cg {f T : Nat → Int32} {p q : Int32} (h : BTs f T) (hp : 0 ≤ p.toInt) (hq : q.toInt ≤ 900) (hpq : p.toInt ≤ q.toInt) : ∀ (ws : List (List Int32)) (i : Nat), (∀ w ∈ ws, w ∈ KWS) → kyF f p q i ws = kyF T p q i ws := by
  intro ws
  induction ws with
  | nil => intro i _; rfl
  | cons w ws ih =>
    intro i hw
    show (if mtB f p q w = true then nI i else kyF f p q (i + 1) ws) = (if mtB T p q w = true then nI i else kyF T p q (i + 1) ws)
    rw [mtB_cg h hp hq hpq (hw w (List.mem_cons_self ..)), ih (i + 1) (fun w' h' => hw w' (List.mem_cons_of_mem _ h'))]
theorem dv_cg {f T : Nat → Int32} {p : Int32} : ∀ k : Nat, (∀ j : Nat, j < k → f (p + nI j).toNatClampNeg = T (p + nI j).toNatClampNeg) → dv f p k = dv T p k := by
  intro k
  induction k with
  | zero => intro _; rfl
  | succ k ih =>
    intro h
    show dv f p k * 10 + f (p + nI k).toNatClampNeg - 48 = dv T p k * 10 + T (p + nI k).toNatClampNeg - 48
    rw [ih (fun j hj => h j (by omega)), h k (by omega)]
theorem sgF_nd (c : Int32) : sgF c ≠ 23 := by unfold sgF; (repeat' split) <;> decide
theorem tkK23 {T : Nat → Int32} {n e : Int32} (h : tkK T n e = 23) : tkP T n e < n ∧ (97 ≤ tkC T n e ∧ tkC T n e ≤ 122 → kyF T (tkP T n e) (tkE T n e) 0 KWS = 23) ∧ (¬ (97 ≤ tkC T n e ∧ tkC T n e ≤ 122) → 48 ≤ tkC T n e ∧ tkC T n e ≤ 57) := by
  unfold tkK at h
  split at h
  · next q =>
    refine ⟨q, ?_⟩
    split at h
    · next q2 => exact ⟨fun _ => h, fun z => absurd q2 z⟩
    · next q2 =>
      refine ⟨fun z => absurd z q2, fun _ => ?_⟩
      split at h
      · next q3 => exact q3
      · exact absurd h (sgF_nd _)
  · exact absurd h (by decide)
theorem kyF_sp (T : Nat → Int32) (p q : Int32) : ∀ (ws : List (List Int32)) (i : Nat), (kyF T p q i ws = 22 ∧ ∀ w ∈ ws, mtB T p q w = false) ∨ (∃ m, m < ws.length ∧ kyF T p q i ws = nI (i + m) ∧ mtB T p q (ws.getD m []) = true) := by
  intro ws
  induction ws with
  | nil => intro i; exact Or.inl ⟨rfl, fun w h => by cases h⟩
  | cons w ws ih =>
    intro i
    by_cases h : mtB T p q w = true
    · refine Or.inr ⟨0, by rw [List.length_cons]; omega, ?_, h⟩
      exact (if_pos h : (if mtB T p q w = true then nI i else kyF T p q (i + 1) ws) = nI i)
    · have e : kyF T p q i (w :: ws) = kyF T p q (i + 1) ws := by
        show (if mtB T p q w = true then nI i else kyF T p q (i + 1) ws) = _
        rw [if_neg h]
      rcases ih (i + 1) with ⟨a, b⟩ | ⟨m, hm, a, b⟩
      · refine Or.inl ⟨e.trans a, fun w' hw' => ?_⟩
        rcases List.mem_cons.mp hw' with z | z
        · rw [z]; exact Bool.eq_false_iff.mpr h
        · exact b w' z
      · refine Or.inr ⟨m + 1, by rw [List.length_cons]; omega, ?_, b⟩
        rw [e, a, show i + 1 + m = i + (m + 1) by omega]
theorem ky_rg (T : Nat → Int32) (p q : Int32) : iv 0 22 (kyF T p q 0 KWS) := by
  rcases kyF_sp T p q KWS 0 with ⟨a, -⟩ | ⟨m, hm, a, -⟩
  · rw [a]; exact iv_c _ (by decide)
  · rw [a]
    have hm2 : m < 22 := hm
    unfold iv; rw [nI_toInt (by omega)]; omega
theorem tkX_cg {f T : Nat → Int32} {n : Int32} (h : BTs f T) (hn : n.toInt ≤ 900) : tkX f n = tkX T n := funext fun e => by
  unfold tkX
  by_cases q : 0 ≤ e.toInt ∧ e.toInt ≤ n.toInt
  · rw [if_pos q, if_pos q]
    have eP : tkP f n e = tkP T n e := by unfold tkP; rw [blB_cg h hn]
    have bP := tkP_bd (T := T) hn q
    have eE : tkE f n e = tkE T n e := by
      unfold tkE tkC
      rw [eP, ltB_cg (lo := 97) (hi := 122) h hn (by decide) (by decide), ltB_cg (lo := 48) (hi := 57) h hn (by decide) (by decide)]
      by_cases z : tkP T n e < n
      · have b := h _ (ix900 z hn)
        rw [if_pos z, if_pos z]
        simp only [BT_rg b (lo := 97) (hi := 122) (by decide) (by decide), BT_rg b (lo := 48) (hi := 57) (by decide) (by decide)]
      · rw [if_neg z, if_neg z]
    have bE := tkE_bd (T := T) hn q
    have eK : tkK f n e = tkK T n e := by
      unfold tkK
      rw [eE, eP]
      by_cases z : tkP T n e < n
      · have b := h _ (ix900 z hn)
        rw [if_pos z, if_pos z, kyF_cg h (by omega) (by omega) bE.1 KWS 0 (fun _ q => q)]
        have eC : tkC f n e &&& 255 = tkC T n e &&& 255 := by unfold tkC; rw [eP]; exact BT_and b
        rw [eC]
        unfold tkC; rw [eP]
        simp only [BT_rg b (lo := 97) (hi := 122) (by decide) (by decide), BT_rg b (lo := 48) (hi := 57) (by decide) (by decide)]
      · rw [if_neg z, if_neg z]
    have eV : tkV f n e = tkV T n e := by
      unfold tkV
      rw [eK, eE, eP]
      by_cases z : tkK T n e = 23
      · rw [if_pos z, if_pos z]
        obtain ⟨z1, z2, z3⟩ := tkK23 z
        have nl : ¬ (97 ≤ tkC T n e ∧ tkC T n e ≤ 122) := fun y => by
          have y1 := z2 y
          have y2 := ky_rg T (tkP T n e) (tkE T n e)
          rw [y1] at y2; exact absurd y2.2 (by decide)
        have dg := z3 nl
        have ee : tkE T n e = scF (ltB T n 48 57) 901 (tkP T n e) := by unfold tkE; rw [if_pos z1, if_neg nl, if_pos dg]
        refine dv_cg _ (fun j hj => ?_)
        have dd : (tkE T n e - tkP T n e).toInt = (tkE T n e).toInt - (tkP T n e).toInt := by rw [Int32.toInt_sub, iv_bm (by omega) (by omega)]
        have dc := clampNat (x := tkE T n e - tkP T n e) (by omega)
        have e2 : (tkP T n e + nI j).toInt = (tkP T n e).toInt + j := by rw [Int32.toInt_add, nI_toInt (by omega), iv_bm (by omega) (by omega)]
        have al := scF_all (fun _ q => ltB_lt q) hn 901 (tkP T n e) (tkP T n e + nI j) (by omega) bP.2 (by omega) (by rw [← ee]; omega)
        have c := clampNat (x := tkP T n e + nI j) (by omega)
        have b := h (tkP T n e + nI j).toNatClampNeg (by omega)
        have g := ltB_ch al
        have g1 := Int32.le_iff_toInt_le.mp g.1
        have g2 := Int32.le_iff_toInt_le.mp g.2
        rw [(by decide : (48 : Int32).toInt = 48)] at g1
        rw [(by decide : (57 : Int32).toInt = 57)] at g2
        exact (BT_eq b (by omega)).mpr rfl
      · rw [if_neg z, if_neg z]
    rw [eP, eE, eK, eV]
  · rw [if_neg q, if_neg q]

abbrev Sg := Int32 × Int32 × Int32 × List Int32
abbrev TX := Int32 → Int32 × Int32 × Int32 × Int32
def isQ (X : TX) (q : Sg) (k : Int32) : Bool := decide (q.1 = 0) && decide ((X q.2.2.1).2.2.1 = k)
def nxP (X : TX) (q : Sg) : Sg := if q.1 = 0 then (if (X (X q.2.2.1).2.1).2.2.1 = 25 then (1, (X (X q.2.2.1).2.1).1, (X q.2.2.1).2.1, q.2.2.2) else (0, q.2.1, (X q.2.2.1).2.1, q.2.2.2)) else q
def flP (X : TX) (f : Int32) (q : Sg) : Sg := if q.1 = 0 then (f, (X q.2.2.1).1, q.2.2.1, q.2.2.2) else q
def puP (c : Int32) (q : Sg) : Sg := if q.1 = 0 then (q.1, q.2.1, q.2.2.1, q.2.2.2 ++ [c]) else q
def exP (X : TX) (k : Int32) (q : Sg) : Sg := if isQ X q k = true then nxP X q else flP X 2 q
def naP (X : TX) (q : Sg) : Sg := if isQ X q 2 = true then nxP X (puP 1000 q) else if isQ X q 3 = true then nxP X (puP 1001 q) else if isQ X q 17 = true then nxP X (puP 1002 q) else if isQ X q 18 = true then nxP X (puP 1003 q) else if isQ X q 4 = true then nxP X (puP 1004 q) else if isQ X q 1 = true then nxP X (puP 1005 q) else flP X 2 q
def aoP (X : TX) (tr sm : Sg → Sg) (full : Bool) (q : Sg) : Sg := if isQ X q 23 = true then nxP X (puP (X q.2.2.1).2.2.2 q) else if isQ X q 13 = true then (if full = true then flP X 4 q else puP 3009 (exP X 16 (sm (exP X 15 (sm (exP X 14 (tr (nxP X q)))))))) else if isQ X q 35 = true then (if full = true then flP X 4 q else exP X 36 (sm (nxP X q))) else naP X q
def whP (X : TX) (k : Int32) (body : Sg → Sg) : Nat → Sg → Sg
  | 0, q => q
  | m + 1, q => if isQ X q k = true then whP X k body m (body (nxP X q)) else q
def suP (X : TX) (te : Sg → Sg) : Nat → Sg → Sg
  | 0, q => q
  | m + 1, q => if isQ X q 32 = true then suP X te m (puP 3000 (te (nxP X q))) else if isQ X q 33 = true then suP X te m (puP 3001 (te (nxP X q))) else q
def ctP (X : TX) (sm : Sg → Sg) (q : Sg) : Sg := if isQ X q 39 = true then puP 3003 (sm (nxP X q)) else if isQ X q 40 = true then puP 3004 (sm (nxP X q)) else puP 3005 (sm (exP X 41 q))
def unP (X : TX) (un tr sm : Sg → Sg) (full : Bool) (q : Sg) : Sg := if isQ X q 21 = true then (if full = true then flP X 4 q else puP 3006 (un (nxP X q))) else if isQ X q 37 = true then (if full = true then flP X 4 q else exP X 38 (tr (nxP X q))) else ctP X sm (sm q)
def teP (X : TX) (ao : Sg → Sg) (q : Sg) : Sg := whP X 34 (fun q => puP 3002 (ao q)) 900 (ao q)
def smP (X : TX) (te : Sg → Sg) (q : Sg) : Sg := suP X te 900 (te q)
def boP (X : TX) (un : Sg → Sg) (q : Sg) : Sg := whP X 19 (fun q => puP 3007 (un q)) 900 (un q)
def trP (X : TX) (bo : Sg → Sg) (q : Sg) : Sg := whP X 20 (fun q => puP 3008 (bo q)) 900 (bo q)
/-- sum, unit, truth where so many may still stand within one another -/
def grP (X : TX) : Nat → (Sg → Sg) × (Sg → Sg) × (Sg → Sg)
  | 0 => (smP X (teP X (aoP X id id true)), unP X id id (smP X (teP X (aoP X id id true))) true, trP X (boP X (unP X id id (smP X (teP X (aoP X id id true))) true)))
  | r + 1 => (smP X (teP X (aoP X (grP X r).2.2 (grP X r).1 false)), unP X (grP X r).2.1 (grP X r).2.2 (smP X (teP X (aoP X (grP X r).2.2 (grP X r).1 false))) false, trP X (boP X (unP X (grP X r).2.1 (grP X r).2.2 (smP X (teP X (aoP X (grP X r).2.2 (grP X r).1 false))) false)))
def aoD (X : TX) : Nat → Sg → Sg
  | 0 => aoP X id id true
  | r + 1 => aoP X (grP X r).2.2 (grP X r).1 false
def teD (X : TX) (r : Nat) : Sg → Sg := teP X (aoD X r)
def suD (X : TX) (r : Nat) : Sg → Sg := smP X (teD X r)
def trD (X : TX) (r : Nat) : Sg → Sg := (grP X r).2.2
def unD (X : TX) (r : Nat) : Sg → Sg := (grP X r).2.1
def boD (X : TX) (r : Nat) : Sg → Sg := boP X (unD X r)
theorem suD_g (X : TX) (r : Nat) : (grP X r).1 = suD X r := by cases r <;> rfl
theorem trD_g (X : TX) (r : Nat) : trD X r = trP X (boD X r) := by cases r <;> rfl
theorem aoD_0 (X : TX) : aoD X 0 = aoP X id id true := rfl
theorem aoD_s (X : TX) (r : Nat) : aoD X (r + 1) = aoP X (trD X r) (suD X r) false := by rw [← suD_g]; rfl
theorem unD_0 (X : TX) : unD X 0 = unP X id id (suD X 0) true := rfl
theorem unD_s (X : TX) (r : Nat) : unD X (r + 1) = unP X (unD X r) (trD X r) (suD X (r + 1)) false := rfl
theorem isQ_iff {X : TX} {q : Sg} {k : Int32} : isQ X q k = true ↔ q.1 = 0 ∧ (X q.2.2.1).2.2.1 = k := by unfold isQ; rw [Bool.and_eq_true, decide_eq_true_eq, decide_eq_true_eq]
theorem isQ_n {X : TX} {q : Sg} {k : Int32} (h : ¬ (q.1 = 0 ∧ (X q.2.2.1).2.2.1 = k)) : isQ X q k = false := Bool.eq_false_iff.mpr (fun z => h (isQ_iff.mp z))
theorem isQ_w {X : TX} {q : Sg} {k : Int32} (h : ¬ q.1 = 0) : isQ X q k = false := isQ_n (fun z => h z.1)
theorem isQ_o {X : TX} {q : Sg} {k k' : Int32} (h : isQ X q k = true) (hk : ¬ k = k') : isQ X q k' = false := isQ_n (fun z => hk ((isQ_iff.mp h).2.symm.trans z.2))
theorem ntB (b : Bool) (h : b = false) : ¬ b = true := by rw [h]; decide
theorem nxP_w {X : TX} {q : Sg} (h : ¬ q.1 = 0) : nxP X q = q := by unfold nxP; rw [if_neg h]
theorem flP_w {X : TX} {f : Int32} {q : Sg} (h : ¬ q.1 = 0) : flP X f q = q := by unfold flP; rw [if_neg h]
theorem puP_w {c : Int32} {q : Sg} (h : ¬ q.1 = 0) : puP c q = q := by unfold puP; rw [if_neg h]
theorem exP_w {X : TX} {k : Int32} {q : Sg} (h : ¬ q.1 = 0) : exP X k q = q := by unfold exP; rw [if_neg (ntB _ (isQ_w h)), flP_w h]
theorem exP_1 {X : TX} {k : Int32} {q : Sg} (h : isQ X q k = true) : exP X k q = nxP X q := by unfold exP; rw [if_pos h]
theorem exP_0 {X : TX} {k : Int32} {q : Sg} (h : isQ X q k = false) : exP X k q = flP X 2 q := by unfold exP; rw [if_neg (ntB _ h)]
theorem whP_0 {X : TX} {k : Int32} {body : Sg → Sg} {q : Sg} (h : isQ X q k = false) : ∀ m, whP X k body m q = q := by
  intro m; cases m with
  | zero => rfl
  | succ m => show (if isQ X q k = true then _ else q) = q; rw [if_neg (ntB _ h)]
theorem whP_1 {X : TX} {k : Int32} {body : Sg → Sg} {q : Sg} (h : isQ X q k = true) (m : Nat) : whP X k body (m + 1) q = whP X k body m (body (nxP X q)) := by
  show (if isQ X q k = true then _ else q) = _; rw [if_pos h]
theorem suP_0 {X : TX} {te : Sg → Sg} {q : Sg} (h : isQ X q 32 = false) (g : isQ X q 33 = false) : ∀ m, suP X te m q = q := by
  intro m; cases m with
  | zero => rfl
  | succ m => show (if isQ X q 32 = true then _ else if isQ X q 33 = true then _ else q) = q; rw [if_neg (ntB _ h), if_neg (ntB _ g)]
theorem suP_1 {X : TX} {te : Sg → Sg} {q : Sg} (h : isQ X q 32 = true) (m : Nat) : suP X te (m + 1) q = suP X te m (puP 3000 (te (nxP X q))) := by
  show (if isQ X q 32 = true then _ else if isQ X q 33 = true then _ else q) = _; rw [if_pos h]
theorem suP_2 {X : TX} {te : Sg → Sg} {q : Sg} (h : isQ X q 33 = true) (m : Nat) : suP X te (m + 1) q = suP X te m (puP 3001 (te (nxP X q))) := by
  show (if isQ X q 32 = true then _ else if isQ X q 33 = true then _ else q) = _; rw [if_neg (ntB _ (isQ_o h (by decide))), if_pos h]
theorem aoP_num {X : TX} {tr sm : Sg → Sg} {full : Bool} {q : Sg} (h : isQ X q 23 = true) : aoP X tr sm full q = nxP X (puP (X q.2.2.1).2.2.2 q) := by unfold aoP; rw [if_pos h]
theorem aoP_if {X : TX} {tr sm : Sg → Sg} {q : Sg} (h : isQ X q 13 = true) : aoP X tr sm false q = puP 3009 (exP X 16 (sm (exP X 15 (sm (exP X 14 (tr (nxP X q))))))) := by
  unfold aoP; rw [if_neg (ntB _ (isQ_o h (by decide))), if_pos h, if_neg (by decide)]
theorem aoP_op {X : TX} {tr sm : Sg → Sg} {q : Sg} (h : isQ X q 35 = true) : aoP X tr sm false q = exP X 36 (sm (nxP X q)) := by
  unfold aoP; rw [if_neg (ntB _ (isQ_o h (by decide))), if_neg (ntB _ (isQ_o h (by decide))), if_pos h, if_neg (by decide)]
theorem aoP_4 {X : TX} {tr sm : Sg → Sg} {q : Sg} (h : isQ X q 13 = true ∨ isQ X q 35 = true) : aoP X tr sm true q = flP X 4 q := by
  unfold aoP
  rcases h with h | h
  · rw [if_neg (ntB _ (isQ_o h (by decide))), if_pos h, if_pos rfl]
  · rw [if_neg (ntB _ (isQ_o h (by decide))), if_neg (ntB _ (isQ_o h (by decide))), if_pos h, if_pos rfl]
theorem aoP_na {X : TX} {tr sm : Sg → Sg} {full : Bool} {q : Sg} (h1 : isQ X q 23 = false) (h2 : isQ X q 13 = false) (h3 : isQ X q 35 = false) : aoP X tr sm full q = naP X q := by
  unfold aoP; rw [if_neg (ntB _ h1), if_neg (ntB _ h2), if_neg (ntB _ h3)]
theorem unP_not {X : TX} {un tr sm : Sg → Sg} {q : Sg} (h : isQ X q 21 = true) : unP X un tr sm false q = puP 3006 (un (nxP X q)) := by unfold unP; rw [if_pos h, if_neg (by decide)]
theorem unP_be {X : TX} {un tr sm : Sg → Sg} {q : Sg} (h : isQ X q 37 = true) : unP X un tr sm false q = exP X 38 (tr (nxP X q)) := by
  unfold unP; rw [if_neg (ntB _ (isQ_o h (by decide))), if_pos h, if_neg (by decide)]
theorem unP_4 {X : TX} {un tr sm : Sg → Sg} {q : Sg} (h : isQ X q 21 = true ∨ isQ X q 37 = true) : unP X un tr sm true q = flP X 4 q := by
  unfold unP
  rcases h with h | h
  · rw [if_pos h, if_pos rfl]
  · rw [if_neg (ntB _ (isQ_o h (by decide))), if_pos h, if_pos rfl]
theorem unP_ct {X : TX} {un tr sm : Sg → Sg} {full : Bool} {q : Sg} (h1 : isQ X q 21 = false) (h2 : isQ X q 37 = false) : unP X un tr sm full q = ctP X sm (sm q) := by
  unfold unP; rw [if_neg (ntB _ h1), if_neg (ntB _ h2)]
theorem ctP_1 {X : TX} {sm : Sg → Sg} {q : Sg} (h : isQ X q 39 = true) : ctP X sm q = puP 3003 (sm (nxP X q)) := by unfold ctP; rw [if_pos h]
theorem ctP_2 {X : TX} {sm : Sg → Sg} {q : Sg} (h : isQ X q 40 = true) : ctP X sm q = puP 3004 (sm (nxP X q)) := by unfold ctP; rw [if_neg (ntB _ (isQ_o h (by decide))), if_pos h]
theorem ctP_3 {X : TX} {sm : Sg → Sg} {q : Sg} (h : isQ X q 39 = false) (g : isQ X q 40 = false) : ctP X sm q = puP 3005 (sm (exP X 41 q)) := by unfold ctP; rw [if_neg (ntB _ h), if_neg (ntB _ g)]
/-- a number up to so many -/
def nuP (X : TX) (most : Int32) (q : Sg) : Sg := if isQ X q 23 = true then (if (X q.2.2.1).2.2.2 ≤ most then nxP X q else flP X 3 q) else flP X 2 q
theorem nuP_0 {X : TX} {most : Int32} {q : Sg} (h : isQ X q 23 = false) : nuP X most q = flP X 2 q := by unfold nuP; rw [if_neg (ntB _ h)]
theorem nuP_1 {X : TX} {most : Int32} {q : Sg} (h : isQ X q 23 = true) (g : (X q.2.2.1).2.2.2 ≤ most) : nuP X most q = nxP X q := by unfold nuP; rw [if_pos h, if_pos g]
theorem nuP_3 {X : TX} {most : Int32} {q : Sg} (h : isQ X q 23 = true) (g : ¬ (X q.2.2.1).2.2.2 ≤ most) : nuP X most q = flP X 3 q := by unfold nuP; rw [if_pos h, if_neg g]
/-- gap and took of a hill -/
def ghP (X : TX) : Nat → Sg → Sg
  | 0, q => q
  | m + 1, q => if isQ X q 6 = true then ghP X m (nxP X q) else if isQ X q 5 = true then ghP X m (nuP X 9 (nxP X q)) else q
theorem ghP_0 {X : TX} {q : Sg} (h : isQ X q 5 = false) (g : isQ X q 6 = false) : ∀ m, ghP X m q = q := by
  intro m; cases m with
  | zero => rfl
  | succ m => show (if isQ X q 6 = true then _ else if isQ X q 5 = true then _ else q) = q; rw [if_neg (ntB _ g), if_neg (ntB _ h)]
theorem ghP_6 {X : TX} {q : Sg} (h : isQ X q 6 = true) (m : Nat) : ghP X (m + 1) q = ghP X m (nxP X q) := by
  show (if isQ X q 6 = true then _ else if isQ X q 5 = true then _ else q) = _; rw [if_pos h]
theorem ghP_5 {X : TX} {q : Sg} (h : isQ X q 5 = true) (m : Nat) : ghP X (m + 1) q = ghP X m (nuP X 9 (nxP X q)) := by
  show (if isQ X q 6 = true then _ else if isQ X q 5 = true then _ else q) = _; rw [if_neg (ntB _ (isQ_o h (by decide))), if_pos h]
abbrev Sd := Sg × (Nat → Int32)
def hlP (X : TX) (s : Sd) : Sd := if s.2 1 < 4 then (ghP X 900 (nuP X 9 (exP X 4 (nuP X 4 (exP X 3 (nxP X s.1))))), upd s.2 1 (s.2 1 + 1)) else (flP X 4 s.1, s.2)
def viP (X : TX) (s : Sd) : Sd := if s.2 2 < 4 then (nuP X 9 (exP X 8 (nxP X s.1)), upd s.2 2 (s.2 2 + 1)) else (flP X 4 s.1, s.2)
def roP (X : TX) (s : Sd) : Sd := if s.2 3 < 8 then (nuP X 9 (exP X 10 (nuP X (s.2 2 - 1) (nuP X (s.2 1 - 1) (nxP X s.1)))), upd s.2 3 (s.2 3 + 1)) else (flP X 4 s.1, s.2)
def lnP (X : TX) (s : Sd) : Sd := if isQ X s.1 2 = true then hlP X s else if isQ X s.1 7 = true then viP X s else if isQ X s.1 9 = true then roP X s else if isQ X s.1 11 = true then (trD X 6 (exP X 31 (nxP X s.1)), s.2) else if isQ X s.1 12 = true then (suD X 6 (exP X 31 (nxP X s.1)), s.2) else (flP X 2 s.1, s.2)
def lpP (X : TX) : Nat → Sd → Sd
  | 0, s => s
  | m + 1, s => if s.1.1 = 0 ∧ ¬ (X s.1.2.2.1).2.2.1 = 24 then lpP X m (exP X 30 (lnP X s).1, upd (lnP X s).2 0 ((lnP X s).2 0 + 1)) else s
theorem lpP_0 {X : TX} {s : Sd} (h : ¬ (s.1.1 = 0 ∧ ¬ (X s.1.2.2.1).2.2.1 = 24)) : ∀ m, lpP X m s = s := by
  intro m; cases m with
  | zero => rfl
  | succ m => show (if _ then _ else s) = s; rw [if_neg h]
theorem lpP_1 {X : TX} {s : Sd} (h : s.1.1 = 0 ∧ ¬ (X s.1.2.2.1).2.2.1 = 24) (m : Nat) : lpP X (m + 1) s = lpP X m (exP X 30 (lnP X s).1, upd (lnP X s).2 0 ((lnP X s).2 0 + 1)) := by
  show (if _ then _ else s) = _; rw [if_pos h]
/-- ahead of the first token -/
def q0P (X : TX) : Sg := if (X 0).2.2.1 = 25 then (1, (X 0).1, 0, []) else (0, -1, 0, [])
def D1 : Nat → Int32 := upd (fun _ => 0) 0 (0 + 1)
/-- a text read -/
def txP (X : TX) : Sd := lpP X 900 (exP X 30 (nuP X 9 (exP X 1 (exP X 0 (q0P X)))), D1)
/-- what coast answers, by the tape, its length and how many -/
def coF (f : Nat → Int32) (t n : Int32) : Int32 := if n < 0 ∨ t < n then -3 else if (txP (tkX f n)).1.1 = 0 then (txP (tkX f n)).2 0 else -30 - (txP (tkX f n)).1.1

/-- the class's kind of a token -/
def ckF (k : Int32) : Int32 := if k < 23 then 1 else if k = 23 then 2 else if k = 24 then 0 else 3
/-- the class's reader stands so -/
def RC (f : Nat → Int32) (n : Int32) (q : Sg) (fa fp ki pl en va : Int32) : Prop :=
  fa = q.1 ∧ ((q.1 = 0 → fp = -1) ∧ (¬ q.1 = 0 → fp = q.2.1)) ∧ (q.1 = 0 → (0 ≤ q.2.2.1.toInt ∧ q.2.2.1.toInt ≤ n.toInt) ∧ pl = (tkX f n q.2.2.1).1 ∧ en = (tkX f n q.2.2.1).2.1 ∧ ki = ckF (tkX f n q.2.2.1).2.2.1 ∧ ¬ (tkX f n q.2.2.1).2.2.1 = 25 ∧ ((tkX f n q.2.2.1).2.2.1 = 23 → va = (tkX f n q.2.2.1).2.2.2)) ∧ (¬ q.1 = 0 → ki = 4)
/-- a step of the class's reader -/
def SR (f : Nat → Int32) (n fa fp ki en fa' fp' ki' pl' en' va' : Int32) : Prop :=
  (ki = 4 → fa' = fa ∧ fp' = fp ∧ ki' = 4) ∧ (¬ ki = 4 → fa = 0 → 0 ≤ en.toInt ∧ en.toInt ≤ n.toInt →
    ((tkX f n en).2.2.1 = 25 → fa' = 1 ∧ fp' = (tkX f n en).1 ∧ ki' = 4) ∧
    (¬ (tkX f n en).2.2.1 = 25 → fa' = 0 ∧ fp' = fp ∧ ki' = ckF (tkX f n en).2.2.1 ∧ pl' = (tkX f n en).1 ∧ en' = (tkX f n en).2.1 ∧ ((tkX f n en).2.2.1 = 23 → va' = (tkX f n en).2.2.2)))
theorem ckF_4 (k : Int32) : ¬ ckF k = 4 := by unfold ckF; (repeat' split) <;> decide
theorem RC_step {f : Nat → Int32} {n : Int32} {q : Sg} {fa fp ki pl en va fa' fp' ki' pl' en' va' : Int32} (hn : n.toInt ≤ 900) (h : RC f n q fa fp ki pl en va) (s : SR f n fa fp ki en fa' fp' ki' pl' en' va') : RC f n (nxP (tkX f n) q) fa' fp' ki' pl' en' va' := by
  obtain ⟨h1, h2, h3, h4⟩ := h
  by_cases w : q.1 = 0
  · obtain ⟨r, a1, a2, a3, a4, a5⟩ := h3 w
    have k4 : ¬ ki = 4 := by rw [a3]; exact ckF_4 _
    have bE := tkE_bd (T := f) hn r
    have bP := tkP_bd (T := f) hn r
    have e1 : (tkX f n q.2.2.1).2.1 = tkE f n q.2.2.1 := by rw [tkX_in r]
    have re : 0 ≤ en.toInt ∧ en.toInt ≤ n.toInt := by rw [a2, e1]; omega
    obtain ⟨s1, s2⟩ := s.2 k4 (h1.trans w) re
    rw [a2] at s1 s2 re
    unfold nxP; rw [if_pos w]
    by_cases z : (tkX f n (tkX f n q.2.2.1).2.1).2.2.1 = 25
    · rw [if_pos z]
      obtain ⟨b1, b2, b3⟩ := s1 z
      exact ⟨b1, ⟨fun y => absurd (show (1 : Int32) = 0 from y) (by decide), fun _ => b2⟩, fun y => absurd (show (1 : Int32) = 0 from y) (by decide), fun _ => b3⟩
    · rw [if_neg z]
      obtain ⟨b1, b2, b3, b4, b5, b6⟩ := s2 z
      exact ⟨b1, ⟨fun _ => b2.trans (h2.1 w), fun y => absurd rfl y⟩, fun _ => ⟨re, b4, b5, b3, z, b6⟩, fun y => absurd rfl y⟩
  · obtain ⟨b1, b2, b3⟩ := s.1 (h4 w)
    rw [nxP_w w]
    exact ⟨b1.trans h1, ⟨fun y => absurd y w, fun _ => b2.trans (h2.2 w)⟩, fun y => absurd y w, fun _ => b3⟩
/-- the first token -/
theorem RC_0 {f : Nat → Int32} {n fa' fp' ki' pl' en' va' : Int32} (hn : 0 ≤ n.toInt) (s : SR f n 0 (-1) 0 0 fa' fp' ki' pl' en' va') : RC f n (q0P (tkX f n)) fa' fp' ki' pl' en' va' := by
  have re : 0 ≤ (0 : Int32).toInt ∧ (0 : Int32).toInt ≤ n.toInt := by rw [(by decide : (0 : Int32).toInt = 0)]; omega
  obtain ⟨s1, s2⟩ := s.2 (by decide) rfl re
  unfold q0P
  by_cases z : (tkX f n 0).2.2.1 = 25
  · rw [if_pos z]
    obtain ⟨b1, b2, b3⟩ := s1 z
    exact ⟨b1, ⟨fun y => absurd (show (1 : Int32) = 0 from y) (by decide), fun _ => b2⟩, fun y => absurd (show (1 : Int32) = 0 from y) (by decide), fun _ => b3⟩
  · rw [if_neg z]
    obtain ⟨b1, b2, b3, b4, b5, b6⟩ := s2 z
    exact ⟨b1, ⟨fun _ => b2, fun y => absurd rfl y⟩, fun _ => ⟨re, b4, b5, b3, z, b6⟩, fun y => absurd rfl y⟩
/-- fail -/
def FL (fa fp ki pl a fa' fp' ki' : Int32) : Prop := (fa = 0 → fa' = a ∧ fp' = pl ∧ ki' = 4) ∧ (¬ fa = 0 → fa' = fa ∧ fp' = fp ∧ ki' = ki)
theorem RC_fail {f : Nat → Int32} {n a : Int32} {q : Sg} {fa fp ki pl en va fa' fp' ki' : Int32} (h : RC f n q fa fp ki pl en va) (s : FL fa fp ki pl a fa' fp' ki') (ha : ¬ a = 0) : RC f n (flP (tkX f n) a q) fa' fp' ki' pl en va := by
  obtain ⟨h1, h2, h3, h4⟩ := h
  by_cases w : q.1 = 0
  · obtain ⟨b1, b2, b3⟩ := s.1 (h1.trans w)
    unfold flP; rw [if_pos w]
    exact ⟨b1, ⟨fun y => absurd y ha, fun _ => b2.trans (h3 w).2.1⟩, fun y => absurd y ha, fun _ => b3⟩
  · obtain ⟨b1, b2, b3⟩ := s.2 (by rw [h1]; exact w)
    rw [flP_w w]
    exact ⟨b1.trans h1, ⟨fun y => absurd y w, fun _ => b2.trans (h2.2 w)⟩, fun y => absurd y w, fun _ => b3.trans (h4 w)⟩
theorem RC_put {f : Nat → Int32} {n c : Int32} {q : Sg} {fa fp ki pl en va : Int32} (h : RC f n q fa fp ki pl en va) : RC f n (puP c q) fa fp ki pl en va := by
  by_cases w : q.1 = 0
  · unfold puP; rw [if_pos w]; exact h
  · rw [puP_w w]; exact h
/-- which kind a constant is -/
def kLi : Nat → List (List Int32) → List Int32 → Int32
  | _, [], w => if w.length = 1 then sgF (w.getD 0 0) else 99
  | i, x :: xs, w => if x = w then nI i else kLi (i + 1) xs w
def kL (w : List Int32) : Int32 := kLi 0 KWS w
set_option maxRecDepth 100000 in
theorem sL_ch : ∀ q ∈ sL, ∀ j : Nat, j < q.2.2.2.length → chF q.2.2.2 (nI j) = q.2.2.2.getD j 0 := by decide +kernel
def kOk (w : List Int32) : Prop := (w ∈ KWS) ∨ (w.length = 1 ∧ ¬ w ∈ KWS ∧ ¬ sgF (w.getD 0 0) = 25 ∧ 33 ≤ (w.getD 0 0).toInt ∧ (w.getD 0 0).toInt ≤ 95 ∧ kL w = sgF (w.getD 0 0)) ∨ (kL w = 99 ∧ ¬ w.length = 1 ∧ ¬ (97 ≤ (w.getD 0 0).toInt ∧ (w.getD 0 0).toInt ≤ 122))
set_option maxRecDepth 100000 in
theorem sL_ok : ∀ q ∈ sL, kOk q.2.2.2 := by unfold kOk; decide +kernel
theorem kws_k : ∀ i : Nat, i < 22 → kL (KWS.getD i []) = nI i ∧ 2 ≤ (KWS.getD i []).length := by decide +kernel
theorem kws_i {w : List Int32} (h : w ∈ KWS) : ∃ i : Nat, i < 22 ∧ w = KWS.getD i [] := by
  obtain ⟨i, hi, e⟩ := List.getElem_of_mem h
  have hi2 : i < 22 := hi
  exact ⟨i, hi2, by rw [List.getD_eq_getElem?_getD, List.getElem?_eq_getElem hi]; exact e.symm⟩
theorem mt_inj {T : Nat → Int32} {p q : Int32} {w v : List Int32} (hw : w.length ≤ 116) (hv : v.length ≤ 116) (h : mtB T p q w = true) (g : mtB T p q v = true) : w = v := by
  obtain ⟨h1, h2⟩ := mtB_iff.mp h
  obtain ⟨g1, g2⟩ := mtB_iff.mp g
  have e : w.length = v.length := by
    have z : (nI w.length).toInt = (nI v.length).toInt := by rw [h1, g1]
    rw [nI_toInt (by omega), nI_toInt (by omega)] at z; omega
  refine List.ext_getElem e (fun i a b => ?_)
  have x := (h2 i a).symm.trans (g2 i b)
  rw [List.getD_eq_getElem?_getD, List.getD_eq_getElem?_getD, List.getElem?_eq_getElem a, List.getElem?_eq_getElem b] at x
  exact x
theorem sgF_r (c : Int32) : sgF c = 25 ∨ (30 ≤ (sgF c).toInt ∧ (sgF c).toInt ≤ 41 ∧ 33 ≤ c.toInt ∧ c.toInt ≤ 95) := by
  unfold sgF
  repeat' split
  all_goals first | exact Or.inl rfl | (next h => right; rw [h]; decide)
theorem sgF_inj {a b : Int32} (h : sgF a = sgF b) (ha : ¬ sgF a = 25) : a = b := by
  have k : ∀ c : Int32, ¬ sgF c = 25 → c = ([59, 58, 43, 45, 42, 40, 41, 91, 93, 61, 60, 62] : List Int32).getD ((sgF c).toNatClampNeg - 30) 0 := fun c hc => by
    unfold sgF at hc ⊢
    repeat' split at hc
    all_goals first | (exact absurd rfl hc) | skip
    all_goals (next h => subst h; decide)
  rw [k a ha, k b (by rw [← h]; exact ha), h]
theorem and255 {c : Int32} (h : iv (-128) 127 c) : (0 ≤ c.toInt ∧ c &&& 255 = c) ∨ (c.toInt < 0 ∧ 128 ≤ (c &&& 255).toInt) := by
  have k : ∀ i : Nat, i < 256 → (0 ≤ (Int32.ofInt ((i : Int) - 128)).toInt ∧ Int32.ofInt ((i : Int) - 128) &&& 255 = Int32.ofInt ((i : Int) - 128)) ∨ ((Int32.ofInt ((i : Int) - 128)).toInt < 0 ∧ 128 ≤ (Int32.ofInt ((i : Int) - 128) &&& 255).toInt) := by decide +kernel
  have h1 := h.1
  have h2 := h.2
  have e : Int32.ofInt (((c.toInt + 128).toNat : Int) - 128) = c := by
    rw [show (((c.toInt + 128).toNat : Int) - 128) = c.toInt by omega]; exact Int32.ofInt_toInt c
  have := k (c.toInt + 128).toNat (by omega)
  rw [e] at this; exact this
/-- the class's word 'at' is the kind's -/
theorem RC_at {f : Nat → Int32} {n : Int32} {q : Sg} {fa fp ki pl en va : Int32} {i : Nat} {sq : String × Nat × String × List Int32} (hs : sL[i]? = some sq) (hn : n.toInt ≤ 900) (tf : ∀ j, iv (-128) 127 (f j)) (h : RC f n q fa fp ki pl en va) : atF sq.2.2.2 ki pl en f = 1 ↔ isQ (tkX f n) q (kL sq.2.2.2) = true := by
  have mem := List.mem_of_getElem? hs
  have ch := sL_ch sq mem
  have ok := sL_ok sq mem
  have ln := sL_len hs
  obtain ⟨h1, h2, h3, h4⟩ := h
  rw [isQ_iff]
  have at1 : atF sq.2.2.2 ki pl en f = 1 ↔ ((ki = 1 ∨ ki = 3) ∧ mtB f pl en sq.2.2.2 = true) := by
    unfold atF
    rw [mtB_iff]
    constructor
    · intro z
      split at z
      · next y => exact ⟨y.1, y.2.1, fun j hj => (y.2.2 j hj).trans (ch j hj)⟩
      · exact absurd z (by decide)
    · rintro ⟨a, b, c⟩
      rw [if_pos]; exact ⟨a, b, fun j hj => (c j hj).trans (ch j hj).symm⟩
  rw [at1]
  by_cases w : q.1 = 0
  · obtain ⟨r, a1, a2, a3, a4, a5⟩ := h3 w
    have bE := tkE_bd (T := f) hn r
    have bP := tkP_bd (T := f) hn r
    rw [tkX_in r] at a1 a2 a3 a4 ⊢
    have a1 : pl = tkP f n q.2.2.1 := a1
    have a2 : en = tkE f n q.2.2.1 := a2
    have a3 : ki = ckF (tkK f n q.2.2.1) := a3
    have a4 : ¬ tkK f n q.2.2.1 = 25 := a4
    show _ ↔ q.1 = 0 ∧ tkK f n q.2.2.1 = kL sq.2.2.2
    -- the three sorts of tokens
    have kk : ∀ i : Nat, i < 22 → (nI i).toInt = i := fun i hi => nI_toInt (by omega)
    by_cases p1 : tkP f n q.2.2.1 < n
    · have p1' := Int32.lt_iff_toInt_lt.mp p1
      by_cases lt : 97 ≤ tkC f n q.2.2.1 ∧ tkC f n q.2.2.1 ≤ 122
      · have eK : tkK f n q.2.2.1 = kyF f pl en 0 KWS := by unfold tkK; rw [if_pos p1, if_pos lt, ← a1, ← a2]
        have eE : tkE f n q.2.2.1 = scF (ltB f n 97 122) 901 (tkP f n q.2.2.1) := by unfold tkE; rw [if_pos p1, if_pos lt]
        have rg := ky_rg f pl en
        have k1 : ki = 1 := by
          rw [a3, eK]; unfold ckF; rw [if_pos]
          have z := rg.2
          rw [Int32.lt_iff_toInt_lt, (by decide : (23 : Int32).toInt = 23)]; omega
        have plb : pl.toInt = (tkP f n q.2.2.1).toInt := by rw [a1]
        have fst : mtB f pl en sq.2.2.2 = true → 97 ≤ (sq.2.2.2.getD 0 0).toInt ∧ (sq.2.2.2.getD 0 0).toInt ≤ 122 := fun m => by
          have m1 := (mtB_iff.mp m).2 0 (by omega)
          have z0 : pl + nI 0 = pl := by
            have : nI 0 = 0 := rfl
            rw [this]; exact Int32.toInt_inj.mp (by rw [Int32.toInt_add, (by decide : (0 : Int32).toInt = 0), iv_bm (by omega) (by omega)]; omega)
          rw [z0, a1] at m1
          have l1 := Int32.le_iff_toInt_le.mp lt.1
          have l2 := Int32.le_iff_toInt_le.mp lt.2
          have l3 : tkC f n q.2.2.1 = sq.2.2.2.getD 0 0 := m1
          rw [l3] at l1 l2
          exact ⟨l1, l2⟩
        rw [eK]
        rcases ok with o | ⟨o1, o2, o3, o4, o5, o6⟩ | ⟨o1, o2, o3⟩
        · obtain ⟨i0, hi0, e0⟩ := kws_i o
          have ek := (kws_k i0 hi0).1
          constructor
          · rintro ⟨-, m⟩
            refine ⟨w, ?_⟩
            rcases kyF_sp f pl en KWS 0 with ⟨a, b⟩ | ⟨m', hm', a, b⟩
            · exact absurd m (ntB _ (b _ o))
            · have hm2 : m' < 22 := hm'
              have me : KWS.getD m' [] ∈ KWS := by rw [List.getD_eq_getElem?_getD, List.getElem?_eq_getElem hm']; exact List.getElem_mem hm'
              have eqw : KWS.getD m' [] = sq.2.2.2 := mt_inj (kws_ok _ me).1 ln.2 b m
              rw [a, ← eqw, (kws_k m' hm2).1, Nat.zero_add]
          · rintro ⟨-, g⟩
            refine ⟨Or.inl k1, ?_⟩
            rw [e0, ek] at g
            rcases kyF_sp f pl en KWS 0 with ⟨a, b⟩ | ⟨m', hm', a, b⟩
            · rw [a] at g
              have z := congrArg Int32.toInt g
              rw [kk i0 hi0, (by decide : (22 : Int32).toInt = 22)] at z; omega
            · have hm2 : m' < 22 := hm'
              rw [a, Nat.zero_add] at g
              have z := congrArg Int32.toInt g
              rw [kk i0 hi0, kk m' hm2] at z
              have : m' = i0 := by omega
              rw [e0, ← this]; exact b
        · constructor
          · rintro ⟨-, m⟩; have := fst m; omega
          · rintro ⟨-, g⟩
            rcases sgF_r (sq.2.2.2.getD 0 0) with z | z
            · exact absurd z o3
            · rw [o6] at g; rw [g] at rg; have := rg.2; omega
        · constructor
          · rintro ⟨-, m⟩; exact absurd (fst m) o3
          · rintro ⟨-, g⟩; rw [g, o1] at rg; exact absurd rg.2 (by decide)
      · by_cases dg : 48 ≤ tkC f n q.2.2.1 ∧ tkC f n q.2.2.1 ≤ 57
        · have eK : tkK f n q.2.2.1 = 23 := by
            have z : tkK f n q.2.2.1 = (if 3 < tkE f n q.2.2.1 - tkP f n q.2.2.1 then 25 else 23) := by unfold tkK; rw [if_pos p1, if_neg lt, if_pos dg]
            rw [z]; rw [z] at a4; split
            · next y => rw [if_pos y] at a4; exact absurd rfl a4
            · rfl
          have k2 : ki = 2 := by rw [a3, eK]; decide
          rw [eK, k2]
          constructor
          · rintro ⟨z | z, -⟩ <;> exact absurd z (by decide)
          · rintro ⟨-, g⟩
            exfalso
            rcases ok with o | ⟨o1, o2, o3, o4, o5, o6⟩ | ⟨o1, o2, o3⟩
            · obtain ⟨i0, hi0, e0⟩ := kws_i o
              rw [e0, (kws_k i0 hi0).1] at g
              have z := congrArg Int32.toInt g
              rw [kk i0 hi0, (by decide : (23 : Int32).toInt = 23)] at z; omega
            · rcases sgF_r (sq.2.2.2.getD 0 0) with z | z
              · exact absurd z o3
              · rw [o6] at g; rw [← g] at z; exact absurd z.1 (by decide)
            · rw [o1] at g; exact absurd g (by decide)
        · have eK : tkK f n q.2.2.1 = sgF (tkC f n q.2.2.1 &&& 255) := by unfold tkK; rw [if_pos p1, if_neg lt, if_neg dg]
          have eE : tkE f n q.2.2.1 = tkP f n q.2.2.1 + 1 := by unfold tkE; rw [if_pos p1, if_neg lt, if_neg dg]
          have s25 : ¬ sgF (tkC f n q.2.2.1 &&& 255) = 25 := by rw [← eK]; exact a4
          have sr := (sgF_r (tkC f n q.2.2.1 &&& 255)).resolve_left s25
          have k3 : ki = 3 := by
            rw [a3, eK]; unfold ckF
            rw [if_neg (by rw [Int32.lt_iff_toInt_lt, (by decide : (23 : Int32).toInt = 23)]; omega), if_neg (fun z => by rw [z] at sr; exact absurd sr.1 (by decide)), if_neg (fun z => by rw [z] at sr; exact absurd sr.1 (by decide))]
          have cc : tkC f n q.2.2.1 &&& 255 = tkC f n q.2.2.1 := by
            rcases and255 (tf (tkP f n q.2.2.1).toNatClampNeg) with ⟨-, z⟩ | ⟨-, z⟩
            · exact z
            · have z' : 128 ≤ (tkC f n q.2.2.1 &&& 255).toInt := z
              omega
          rw [cc] at eK s25 sr
          have d1 : en - pl = 1 := by
            rw [a2, a1, eE]
            refine Int32.toInt_inj.mp ?_
            have e1 := inc_toInt (c := tkP f n q.2.2.1) (c' := tkP f n q.2.2.1 + 1) (a := 0) (b := 900) rfl ⟨by omega, by omega⟩ (by decide)
            rw [Int32.toInt_sub, e1, (by decide : (1 : Int32).toInt = 1), iv_bm (by omega) (by omega)]; omega
          have z0 : pl + nI 0 = tkP f n q.2.2.1 := by
            rw [a1]
            have : nI 0 = 0 := rfl
            rw [this]; exact Int32.toInt_inj.mp (by rw [Int32.toInt_add, (by decide : (0 : Int32).toInt = 0), iv_bm (by omega) (by omega)]; omega)
          have mt : mtB f pl en sq.2.2.2 = true ↔ (sq.2.2.2.length = 1 ∧ tkC f n q.2.2.1 = sq.2.2.2.getD 0 0) := by
            rw [mtB_iff, d1]
            constructor
            · rintro ⟨a, b⟩
              have z := congrArg Int32.toInt a
              rw [nI_toInt (by omega), (by decide : (1 : Int32).toInt = 1)] at z
              refine ⟨by omega, ?_⟩
              have y := b 0 (by omega)
              rw [z0] at y; exact y
            · rintro ⟨a, b⟩
              refine ⟨by rw [a]; rfl, fun j hj => ?_⟩
              have : j = 0 := by omega
              subst this
              rw [z0]; exact b
          rw [mt, eK, k3]
          rcases ok with o | ⟨o1, o2, o3, o4, o5, o6⟩ | ⟨o1, o2, o3⟩
          · obtain ⟨i0, hi0, e0⟩ := kws_i o
            have l2 := (kws_k i0 hi0).2
            rw [← e0] at l2
            constructor
            · rintro ⟨-, z, -⟩; omega
            · rintro ⟨-, g⟩
              rw [e0, (kws_k i0 hi0).1] at g
              have z := kk i0 hi0
              rw [← g] at z; omega
          · rw [o6]
            constructor
            · rintro ⟨-, -, z⟩; exact ⟨w, by rw [z]⟩
            · rintro ⟨-, g⟩; exact ⟨Or.inr rfl, o1, sgF_inj g s25⟩
          · constructor
            · rintro ⟨-, z, -⟩; exact absurd z o2
            · rintro ⟨-, g⟩; rw [g, o1] at sr; exact absurd sr.2.1 (by decide)
    · have eK : tkK f n q.2.2.1 = 24 := by unfold tkK; rw [if_neg p1]
      have k0 : ki = 0 := by rw [a3, eK]; decide
      rw [eK, k0]
      constructor
      · rintro ⟨z | z, -⟩ <;> exact absurd z (by decide)
      · rintro ⟨-, g⟩
        exfalso
        rcases ok with o | ⟨o1, o2, o3, o4, o5, o6⟩ | ⟨o1, o2, o3⟩
        · obtain ⟨i0, hi0, e0⟩ := kws_i o
          rw [e0, (kws_k i0 hi0).1] at g
          have z := congrArg Int32.toInt g
          rw [kk i0 hi0, (by decide : (24 : Int32).toInt = 24)] at z; omega
        · rcases sgF_r (sq.2.2.2.getD 0 0) with z | z
          · exact absurd z o3
          · rw [o6] at g; rw [← g] at z; exact absurd z.1 (by decide)
        · rw [o1] at g; exact absurd g (by decide)
  · rw [h4 w]
    constructor
    · rintro ⟨z | z, -⟩ <;> exact absurd z (by decide)
    · rintro ⟨z, -⟩; exact absurd z w

theorem st_P {f : Nat → Int32} {n en p : Int32} (he : iv 0 900 en) (hp : iv 0 900 p) (i1 : en.toInt ≤ p.toInt) (i2 : ∀ j : Int32, en.toInt ≤ j.toInt → j.toInt < p.toInt → blB f n j = true) (b : blB f n p = false) : tkP f n en = p := by
  have h1 := he.1
  have h2 := hp.2
  exact scF_of 901 en p h1 i1 h2 (by omega) i2 b
theorem SR_4 {f : Nat → Int32} {n fa fp ki en pl' en' va' : Int32} (h : ki = 4) : SR f n fa fp ki en fa fp ki pl' en' va' := ⟨fun _ => ⟨rfl, rfl, h⟩, fun z => absurd h z⟩
theorem SR_end {f : Nat → Int32} {n fa fp ki en p va' : Int32} (k4 : ¬ ki = 4) (hp : tkP f n en = p) (h : ¬ p < n) : SR f n fa fp ki en fa fp 0 p p va' := by
  refine ⟨fun z => absurd z k4, fun _ w r => ?_⟩
  have eK : tkK f n en = 24 := by unfold tkK; rw [hp, if_neg h]
  have eE : tkE f n en = p := by unfold tkE; rw [hp, if_neg h]
  rw [tkX_in r]
  refine ⟨fun z => ?_, fun _ => ?_⟩
  · have z' : tkK f n en = 25 := z
    rw [eK] at z'; exact absurd z' (by decide)
  · show fa = 0 ∧ fp = fp ∧ 0 = ckF (tkK f n en) ∧ p = tkP f n en ∧ p = tkE f n en ∧ (tkK f n en = 23 → va' = tkV f n en)
    rw [eK, eE, hp]
    exact ⟨w, rfl, by decide, rfl, rfl, fun z => absurd z (by decide)⟩
theorem SR_word {f : Nat → Int32} {n fa fp ki en p x r va' : Int32} (k4 : ¬ ki = 4) (hp : tkP f n en = p) (h : p < n) (ex : x = f p.toNatClampNeg) (c1 : 97 ≤ x) (c2 : x ≤ 122) (er : r = scF (ltB f n 97 122) 901 p) : SR f n fa fp ki en fa fp 1 p r va' := by
  refine ⟨fun z => absurd z k4, fun _ w r' => ?_⟩
  have cc : tkC f n en = x := by unfold tkC; rw [hp]; exact ex.symm
  have lt : 97 ≤ tkC f n en ∧ tkC f n en ≤ 122 := by rw [cc]; exact ⟨c1, c2⟩
  have eE : tkE f n en = r := by unfold tkE; rw [hp, if_pos h, if_pos lt]; exact er.symm
  have eK : tkK f n en = kyF f p r 0 KWS := by unfold tkK; rw [hp, if_pos h, if_pos lt, eE]
  have rg := ky_rg f p r
  have r2 := rg.2
  rw [tkX_in r']
  refine ⟨fun z => ?_, fun _ => ?_⟩
  · have z' : tkK f n en = 25 := z
    rw [eK] at z'; rw [z'] at r2; exact absurd r2 (by decide)
  · show fa = 0 ∧ fp = fp ∧ 1 = ckF (tkK f n en) ∧ p = tkP f n en ∧ r = tkE f n en ∧ (tkK f n en = 23 → va' = tkV f n en)
    rw [eE, hp]
    refine ⟨w, rfl, ?_, rfl, rfl, fun z => ?_⟩
    · rw [eK]; unfold ckF; rw [if_pos]
      rw [Int32.lt_iff_toInt_lt, (by decide : (23 : Int32).toInt = 23)]; omega
    · rw [eK] at z; rw [z] at r2; exact absurd r2 (by decide)
theorem dg_k {f : Nat → Int32} {n en p x r : Int32} (hp : tkP f n en = p) (h : p < n) (ex : x = f p.toNatClampNeg) (nl : ¬ (97 ≤ x ∧ x ≤ 122)) (c1 : 48 ≤ x) (c2 : x ≤ 57) (er : r = scF (ltB f n 48 57) 901 p) : tkE f n en = r ∧ tkK f n en = (if 3 < r - p then 25 else 23) := by
  have cc : tkC f n en = x := by unfold tkC; rw [hp]; exact ex.symm
  have nl' : ¬ (97 ≤ tkC f n en ∧ tkC f n en ≤ 122) := by rw [cc]; exact nl
  have dg : 48 ≤ tkC f n en ∧ tkC f n en ≤ 57 := by rw [cc]; exact ⟨c1, c2⟩
  have eE : tkE f n en = r := by unfold tkE; rw [hp, if_pos h, if_neg nl', if_pos dg]; exact er.symm
  exact ⟨eE, by unfold tkK; rw [hp, if_pos h, if_neg nl', if_pos dg, eE]⟩
theorem SR_num {f : Nat → Int32} {n fa fp ki en p x r v : Int32} (k4 : ¬ ki = 4) (hp : tkP f n en = p) (h : p < n) (ex : x = f p.toNatClampNeg) (nl : ¬ (97 ≤ x ∧ x ≤ 122)) (c1 : 48 ≤ x) (c2 : x ≤ 57) (er : r = scF (ltB f n 48 57) 901 p) (hd : ¬ 3 < r - p) (ev : v = dv f p (r - p).toNatClampNeg) : SR f n fa fp ki en fa fp 2 p r v := by
  refine ⟨fun z => absurd z k4, fun _ w r' => ?_⟩
  obtain ⟨eE, eK⟩ := dg_k hp h ex nl c1 c2 er
  rw [if_neg hd] at eK
  rw [tkX_in r']
  refine ⟨fun z => ?_, fun _ => ?_⟩
  · have z' : tkK f n en = 25 := z
    rw [eK] at z'; exact absurd z' (by decide)
  · show fa = 0 ∧ fp = fp ∧ 2 = ckF (tkK f n en) ∧ p = tkP f n en ∧ r = tkE f n en ∧ (tkK f n en = 23 → v = tkV f n en)
    refine ⟨w, rfl, by rw [eK]; decide, hp.symm, eE.symm, fun z => ?_⟩
    unfold tkV; rw [if_pos z, hp, eE]; exact ev
theorem SR_bad3 {f : Nat → Int32} {n fa fp ki kj en p x r va' fa' fp' ki' : Int32} (k4 : ¬ ki = 4) (hp : tkP f n en = p) (h : p < n) (ex : x = f p.toNatClampNeg) (nl : ¬ (97 ≤ x ∧ x ≤ 122)) (c1 : 48 ≤ x) (c2 : x ≤ 57) (er : r = scF (ltB f n 48 57) 901 p) (hd : 3 < r - p) (s : FL fa fp kj p 1 fa' fp' ki') : SR f n fa fp ki en fa' fp' ki' p r va' := by
  refine ⟨fun z => absurd z k4, fun _ w r' => ?_⟩
  obtain ⟨eE, eK⟩ := dg_k hp h ex nl c1 c2 er
  rw [if_pos hd] at eK
  obtain ⟨b1, b2, b3⟩ := s.1 w
  rw [tkX_in r']
  exact ⟨fun _ => ⟨b1, b2.trans hp.symm, b3⟩, fun z => absurd eK z⟩
theorem sg_k {f : Nat → Int32} {n en p x : Int32} (hp : tkP f n en = p) (h : p < n) (ex : x = f p.toNatClampNeg) (nl : ¬ (97 ≤ x ∧ x ≤ 122)) (nd : ¬ (48 ≤ x ∧ x ≤ 57)) : tkE f n en = p + 1 ∧ tkK f n en = sgF (x &&& 255) := by
  have cc : tkC f n en = x := by unfold tkC; rw [hp]; exact ex.symm
  have nl' : ¬ (97 ≤ tkC f n en ∧ tkC f n en ≤ 122) := by rw [cc]; exact nl
  have dg : ¬ (48 ≤ tkC f n en ∧ tkC f n en ≤ 57) := by rw [cc]; exact nd
  exact ⟨by unfold tkE; rw [hp, if_pos h, if_neg nl', if_neg dg], by unfold tkK; rw [hp, if_pos h, if_neg nl', if_neg dg, cc]⟩
theorem SR_sign {f : Nat → Int32} {n fa fp ki en p x r va' : Int32} (k4 : ¬ ki = 4) (hp : tkP f n en = p) (h : p < n) (ex : x = f p.toNatClampNeg) (nl : ¬ (97 ≤ x ∧ x ≤ 122)) (nd : ¬ (48 ≤ x ∧ x ≤ 57)) (hs : ¬ sgF (x &&& 255) = 25) (er : r = p + 1) : SR f n fa fp ki en fa fp 3 p r va' := by
  refine ⟨fun z => absurd z k4, fun _ w r' => ?_⟩
  obtain ⟨eE, eK⟩ := sg_k hp h ex nl nd
  have sr := (sgF_r (x &&& 255)).resolve_left hs
  rw [tkX_in r']
  refine ⟨fun z => ?_, fun _ => ?_⟩
  · have z' : tkK f n en = 25 := z
    rw [eK] at z'; exact absurd z' hs
  · show fa = 0 ∧ fp = fp ∧ 3 = ckF (tkK f n en) ∧ p = tkP f n en ∧ r = tkE f n en ∧ (tkK f n en = 23 → va' = tkV f n en)
    refine ⟨w, rfl, ?_, hp.symm, er.trans eE.symm, fun z => ?_⟩
    · rw [eK]; unfold ckF
      rw [if_neg (by rw [Int32.lt_iff_toInt_lt, (by decide : (23 : Int32).toInt = 23)]; omega), if_neg (fun z => by rw [z] at sr; exact absurd sr.1 (by decide)), if_neg (fun z => by rw [z] at sr; exact absurd sr.1 (by decide))]
    · rw [eK] at z; exact absurd z (sgF_nd _)
theorem SR_bad {f : Nat → Int32} {n fa fp ki kj en p x va' fa' fp' ki' : Int32} (k4 : ¬ ki = 4) (hp : tkP f n en = p) (h : p < n) (ex : x = f p.toNatClampNeg) (nl : ¬ (97 ≤ x ∧ x ≤ 122)) (nd : ¬ (48 ≤ x ∧ x ≤ 57)) (hs : sgF (x &&& 255) = 25) (s : FL fa fp kj p 1 fa' fp' ki') : SR f n fa fp ki en fa' fp' ki' p p va' := by
  refine ⟨fun z => absurd z k4, fun _ w r' => ?_⟩
  obtain ⟨eE, eK⟩ := sg_k hp h ex nl nd
  obtain ⟨b1, b2, b3⟩ := s.1 w
  rw [tkX_in r']
  exact ⟨fun _ => ⟨b1, b2.trans hp.symm, b3⟩, fun z => absurd (eK.trans hs) z⟩
theorem er_of {f : Nat → Int32} {n lo hi p r : Int32} (hp : iv 0 900 p) (hr : iv 0 900 r) (i1 : p.toInt ≤ r.toInt) (i2 : ∀ j : Int32, p.toInt ≤ j.toInt → j.toInt < r.toInt → ltB f n lo hi j = true) (b : ltB f n lo hi r = false) : r = scF (ltB f n lo hi) 901 p := by
  have h1 := hp.1
  have h2 := hr.2
  exact (scF_of 901 p r h1 i1 h2 (by omega) i2 b).symm
/-- the number, one digit more -/
theorem dv_s {f : Nat → Int32} {p i i' m t u m' x : Int32} {a b : Int} (hp : iv 0 900 p) (hi : iv a b i) (hb : 0 ≤ a ∧ b ≤ 900) (h1 : p.toInt ≤ i.toInt) (e : m = dv f p (i - p).toNatClampNeg) (ex : x = f i.toNatClampNeg) (et : t = m * 10) (eu : u = t + x) (em : m' = u - 48) (ei : i' = i + 1) : m' = dv f p (i' - p).toNatClampNeg := by
  have hp1 := hp.1
  have hp2 := hp.2
  have hi1 := hi.1
  have hi2 := hi.2
  have e1 := inc_toInt ei hi (by omega)
  have d1 : (i - p).toInt = i.toInt - p.toInt := by rw [Int32.toInt_sub, iv_bm (by omega) (by omega)]
  have d2 : (i' - p).toInt = i'.toInt - p.toInt := by rw [Int32.toInt_sub, iv_bm (by omega) (by omega)]
  have c1 := clampNat (x := i - p) (by omega)
  have c2 := clampNat (x := i' - p) (by omega)
  have en : (i' - p).toNatClampNeg = (i - p).toNatClampNeg + 1 := by omega
  have ep : p + nI (i - p).toNatClampNeg = i := by
    refine Int32.toInt_inj.mp ?_
    rw [Int32.toInt_add, nI_toInt (by omega), c1, d1, iv_bm (by omega) (by omega)]; omega
  rw [en]
  show m' = dv f p (i - p).toNatClampNeg * 10 + f (p + nI (i - p).toNatClampNeg).toNatClampNeg - 48
  rw [ep, ← e, ← ex, em, eu, et]
theorem dv_0 {f : Nat → Int32} {p : Int32} : 0 = dv f p (p - p).toNatClampNeg := by
  have : p - p = 0 := Int32.sub_self p
  rw [this]; rfl
theorem dv_e {f : Nat → Int32} {p i en m : Int32} (h2 : i.toInt ≤ en.toInt) (g : ¬ i < en) (e : m = dv f p (i - p).toNatClampNeg) : m = dv f p (en - p).toNatClampNeg := by
  rw [Int32.lt_iff_toInt_lt] at g
  have : i = en := Int32.toInt_inj.mp (by omega)
  rw [← this]; exact e
/-- of the two signs' strings -/
theorem ix_sg : ∀ c : Int32, iv 0 255 c → ((∃ j : Nat, j < 12 ∧ ([59, 58, 43, 45, 42, 40, 41, 91, 93, 61, 60, 62] : List Int32).getD j 0 = c.toInt8.toInt32) ↔ ¬ sgF c = 25) := fun c h => by
  have k : ∀ i : Nat, i < 256 → ((∃ j : Nat, j < 12 ∧ ([59, 58, 43, 45, 42, 40, 41, 91, 93, 61, 60, 62] : List Int32).getD j 0 = (nI i).toInt8.toInt32) ↔ ¬ sgF (nI i) = 25) := by decide +kernel
  have h1 := h.1
  have h2 := h.2
  obtain ⟨i, hi, e⟩ := nI_of (iv_n0lt h (by decide))
  have hi2 : c.toInt = i := by rw [e, nI_toInt hi]
  rw [e]; exact k i (by omega)
def IX (s : List Int32) (c r : Int32) : Prop := 0 ≤ c.toInt ∧ c.toInt ≤ 255 → ((∃ j : Nat, j < s.length ∧ s.getD j 0 = c.toInt8.toInt32) ↔ 0 ≤ r.toInt)

theorem ixc_s {s : List Int32} {c i i' x y : Int32} {a b : Int} (h : ∀ j : Nat, (j : Int) < i.toInt → ¬ s.getD j 0 = c.toInt8.toInt32) (hi : iv a b i) (hb : 0 ≤ a ∧ b < 2147483647) (ex : x = s.getD i.toNatClampNeg 0) (ey : y = c.toInt8.toInt32) (ne : ¬ x = y) (ei : i' = i + 1) : ∀ j : Nat, (j : Int) < i'.toInt → ¬ s.getD j 0 = c.toInt8.toInt32 := fun j hj => by
  have h1 := hi.1
  have e1 := inc_toInt ei hi (by omega)
  have k := clampNat (x := i) (by omega)
  by_cases z : j = i.toNatClampNeg
  · rw [z, ← ex, ← ey]; exact ne
  · exact h j (by omega)
theorem ixc_1 {s : List Int32} {c i x y m : Int32} {a b : Int} (hi : iv a b i) (h0 : 0 ≤ a) (hm : iv s.length s.length m) (lt : i < m) (ex : x = s.getD i.toNatClampNeg 0) (ey : y = c.toInt8.toInt32) (eq : x = y) : IX s c i := fun _ => by
  have h1 := hi.1
  have hm2 := hm.2
  have k := clampNat (x := i) (by omega)
  rw [Int32.lt_iff_toInt_lt] at lt
  exact ⟨fun _ => by omega, fun _ => ⟨i.toNatClampNeg, by omega, by rw [← ex, ← ey]; exact eq⟩⟩
theorem ixc_0 {s : List Int32} {c i m : Int32} (h : ∀ j : Nat, (j : Int) < i.toInt → ¬ s.getD j 0 = c.toInt8.toInt32) (hm : iv s.length s.length m) (ge : ¬ i < m) : IX s c (-1) := fun _ => by
  have hm1 := hm.1
  rw [Int32.lt_iff_toInt_lt] at ge
  exact ⟨fun ⟨j, hj, e⟩ => absurd e (h j (by omega)), fun z => absurd z (by decide)⟩
theorem c255 {x y z : Int32} (e1 : y = x &&& 255) (e2 : z = (y.toUInt32 % 65536).toInt32) : z = x &&& 255 ∧ iv 0 255 z := by
  have b : iv 0 255 y := by rw [e1]; exact iv_and255 _
  obtain ⟨i, hi, e⟩ := nI_of (iv_n0lt b (by decide))
  have hb := b.2
  have hi2 : y.toInt = i := by rw [e, nI_toInt hi]
  have k : ∀ i : Nat, i < 256 → ((nI i).toUInt32 % 65536).toInt32 = nI i := by decide +kernel
  have ez : z = y := by rw [e2, e]; exact k i (by omega)
  rw [ez]; exact ⟨e1, b⟩
theorem sg_1 {x y z r : Int32} (e1 : y = x &&& 255) (e2 : z = (y.toUInt32 % 65536).toInt32) (h : IX ([59, 58, 43, 45, 42, 40, 41, 91, 93, 61, 60, 62] : List Int32) z r) (hr : ¬ r < 0) : ¬ sgF (x &&& 255) = 25 := by
  obtain ⟨ez, b⟩ := c255 e1 e2
  rw [← ez]
  rw [Int32.lt_iff_toInt_lt, (by decide : (0 : Int32).toInt = 0)] at hr
  exact (ix_sg z b).mp ((h b).mpr (by omega))
theorem sg_0 {x y z r : Int32} (e1 : y = x &&& 255) (e2 : z = (y.toUInt32 % 65536).toInt32) (h : IX ([59, 58, 43, 45, 42, 40, 41, 91, 93, 61, 60, 62] : List Int32) z r) (hr : r < 0) : sgF (x &&& 255) = 25 := by
  obtain ⟨ez, b⟩ := c255 e1 e2
  rw [← ez]
  rw [Int32.lt_iff_toInt_lt, (by decide : (0 : Int32).toInt = 0)] at hr
  by_cases q : sgF z = 25
  · exact q
  · have := (h b).mp ((ix_sg z b).mpr q); omega
theorem RC_cg {f : Nat → Int32} {n : Int32} {q q' : Sg} {fa fp ki pl en va : Int32} (e : q' = q) (h : RC f n q fa fp ki pl en va) : RC f n q' fa fp ki pl en va := by rw [e]; exact h
theorem RC_a1 {f : Nat → Int32} {n : Int32} {q : Sg} {fa fp ki pl en va r K : Int32} {i : Nat} {sq : String × Nat × String × List Int32} (hs : sL[i]? = some sq) (hK : kL sq.2.2.2 = K) (hn : n.toInt ≤ 900) (tf : ∀ j, iv (-128) 127 (f j)) (h : RC f n q fa fp ki pl en va) (e : r = atF sq.2.2.2 ki pl en f) (hr : iv 1 1 r) : isQ (tkX f n) q K = true := by
  rw [← hK]
  exact (RC_at hs hn tf h).mp (e.symm.trans (iv_eqp hr (iv_c (1 : Int32) (by decide))))
theorem RC_a0 {f : Nat → Int32} {n : Int32} {q : Sg} {fa fp ki pl en va r K : Int32} {i : Nat} {sq : String × Nat × String × List Int32} (hs : sL[i]? = some sq) (hK : kL sq.2.2.2 = K) (hn : n.toInt ≤ 900) (tf : ∀ j, iv (-128) 127 (f j)) (h : RC f n q fa fp ki pl en va) (e : r = atF sq.2.2.2 ki pl en f) (hr : iv 0 0 r) : isQ (tkX f n) q K = false := by
  rw [← hK]
  refine Bool.eq_false_iff.mpr (fun z => ?_)
  have y := e.trans ((RC_at hs hn tf h).mpr z)
  rw [y] at hr; exact absurd hr.2 (by decide)
theorem ckF_2 (k : Int32) : ckF k = 2 ↔ k = 23 := by
  unfold ckF
  constructor
  · intro h
    split at h
    · exact absurd h (by decide)
    · split at h
      · assumption
      · split at h <;> exact absurd h (by decide)
  · intro h; rw [h]; decide
theorem ckF_0 (k : Int32) : ckF k = 0 ↔ k = 24 := by
  unfold ckF
  constructor
  · intro h
    split at h
    · exact absurd h (by decide)
    · split at h
      · exact absurd h (by decide)
      · split at h
        · assumption
        · exact absurd h (by decide)
  · intro h; rw [h]; decide
theorem RC_n1 {f : Nat → Int32} {n : Int32} {q : Sg} {fa fp ki pl en va : Int32} (h : RC f n q fa fp ki pl en va) (c : ki = 2) : isQ (tkX f n) q 23 = true ∧ va = (tkX f n q.2.2.1).2.2.2 := by
  obtain ⟨h1, h2, h3, h4⟩ := h
  by_cases w : q.1 = 0
  · obtain ⟨r, a1, a2, a3, a4, a5⟩ := h3 w
    have k := (ckF_2 _).mp (a3.symm.trans c)
    exact ⟨isQ_iff.mpr ⟨w, k⟩, a5 k⟩
  · rw [h4 w] at c; exact absurd c (by decide)
theorem RC_n0 {f : Nat → Int32} {n : Int32} {q : Sg} {fa fp ki pl en va : Int32} (h : RC f n q fa fp ki pl en va) (c : ¬ ki = 2) : isQ (tkX f n) q 23 = false := by
  obtain ⟨h1, h2, h3, h4⟩ := h
  refine isQ_n (fun z => ?_)
  exact c ((h3 z.1).2.2.2.1.trans ((ckF_2 _).mpr z.2))
theorem RC_nu1 {f : Nat → Int32} {n : Int32} {q : Sg} {fa fp ki pl en va a : Int32} (h : RC f n q fa fp ki pl en va) (c : ki = 2) (g : va ≤ a) : nuP (tkX f n) a q = nxP (tkX f n) q := by
  obtain ⟨h1, h2⟩ := RC_n1 h c
  rw [h2] at g; exact nuP_1 h1 g
theorem RC_nu3 {f : Nat → Int32} {n : Int32} {q : Sg} {fa fp ki pl en va a : Int32} (h : RC f n q fa fp ki pl en va) (c : ki = 2) (g : ¬ va ≤ a) : nuP (tkX f n) a q = flP (tkX f n) 3 q := by
  obtain ⟨h1, h2⟩ := RC_n1 h c
  rw [h2] at g; exact nuP_3 h1 g
theorem RC_w {f : Nat → Int32} {n : Int32} {q : Sg} {fa fp ki pl en va : Int32} (h : RC f n q fa fp ki pl en va) : fa = q.1 := h.1
theorem RC_k0 {f : Nat → Int32} {n : Int32} {q : Sg} {fa fp ki pl en va : Int32} (h : RC f n q fa fp ki pl en va) (w : q.1 = 0) (c : ¬ ki = 0) : ¬ (tkX f n q.2.2.1).2.2.1 = 24 := fun z => c ((h.2.2.1 w).2.2.2.1.trans ((ckF_0 _).mpr z))
theorem RC_k1 {f : Nat → Int32} {n : Int32} {q : Sg} {fa fp ki pl en va : Int32} (h : RC f n q fa fp ki pl en va) (c : ki = 0) : ¬ (q.1 = 0 ∧ ¬ (tkX f n q.2.2.1).2.2.1 = 24) := fun ⟨w, z⟩ => z ((ckF_0 _).mp ((h.2.2.1 w).2.2.2.1.symm.trans c))
/-- the loop's fuel -/
theorem fu_s {u u' : Int32} {a b : Int} (e : u' = u + 1) (hu : iv a b u) (hb : 0 ≤ a ∧ b ≤ 899) : (900 - u.toInt).toNat = (900 - u'.toInt).toNat + 1 := by
  have h1 := hu.1
  have h2 := hu.2
  have e1 := inc_toInt e hu (by omega)
  omega
theorem fu_0 : (900 - (0 : Int32).toInt).toNat = 900 := by decide
theorem fu_9 {u : Int32} (h : ¬ u < 900) : (900 - u.toInt).toNat = 0 := by
  rw [Int32.lt_iff_toInt_lt, (by decide : (900 : Int32).toInt = 900)] at h
  omega
/-- how many of a text there are -/
def RD (w : Int32) (d : Nat → Int32) (ln h v r : Int32) : Prop := w = 0 → ln = d 0 ∧ h = d 1 ∧ v = d 2 ∧ r = d 3
theorem RD_f {X : TX} {a : Int32} {q : Sg} {d : Nat → Int32} {ln h v r : Int32} (ha : ¬ a = 0) : RD (flP X a q).1 d ln h v r := fun z => by
  exfalso
  unfold flP at z
  split at z
  · exact ha z
  · next w => exact w z
theorem exP_z {X : TX} {k : Int32} {q : Sg} (h : (exP X k q).1 = 0) : q.1 = 0 := by
  by_cases w : q.1 = 0
  · exact w
  · rw [exP_w w] at h; exact h
theorem RD_x {X : TX} {k : Int32} {q : Sg} {d : Nat → Int32} {ln ln' h v r : Int32} (g : RD q.1 d ln h v r) (e : ln' = ln + 1) : RD (exP X k q).1 (upd d 0 (d 0 + 1)) ln' h v r := fun z => by
  obtain ⟨g1, g2, g3, g4⟩ := g (exP_z z)
  exact ⟨by rw [upd_at, e, g1], by rw [upd_ne (by decide)]; exact g2, by rw [upd_ne (by decide)]; exact g3, by rw [upd_ne (by decide)]; exact g4⟩
theorem RD_h {w w' : Int32} {d : Nat → Int32} {ln h h' v r : Int32} (g : RD w d ln h v r) (hw : w = 0) (e : h' = h + 1) : RD w' (upd d 1 (d 1 + 1)) ln h' v r := fun _ => by
  obtain ⟨g1, g2, g3, g4⟩ := g hw
  exact ⟨by rw [upd_ne (by decide)]; exact g1, by rw [upd_at, e, g2], by rw [upd_ne (by decide)]; exact g3, by rw [upd_ne (by decide)]; exact g4⟩
theorem RD_v {w w' : Int32} {d : Nat → Int32} {ln h v v' r : Int32} (g : RD w d ln h v r) (hw : w = 0) (e : v' = v + 1) : RD w' (upd d 2 (d 2 + 1)) ln h v' r := fun _ => by
  obtain ⟨g1, g2, g3, g4⟩ := g hw
  exact ⟨by rw [upd_ne (by decide)]; exact g1, by rw [upd_ne (by decide)]; exact g2, by rw [upd_at, e, g3], by rw [upd_ne (by decide)]; exact g4⟩
theorem RD_r {w w' : Int32} {d : Nat → Int32} {ln h v r r' : Int32} (g : RD w d ln h v r) (hw : w = 0) (e : r' = r + 1) : RD w' (upd d 3 (d 3 + 1)) ln h v r' := fun _ => by
  obtain ⟨g1, g2, g3, g4⟩ := g hw
  exact ⟨by rw [upd_ne (by decide)]; exact g1, by rw [upd_ne (by decide)]; exact g2, by rw [upd_ne (by decide)]; exact g3, by rw [upd_at, e, g4]⟩
theorem RD_0 {w w' : Int32} {d : Nat → Int32} {ln h v r : Int32} (g : RD w d ln h v r) (hw : w = 0) : RD w' d ln h v r := fun _ => g hw
theorem hlP_1 {X : TX} {q : Sg} {d : Nat → Int32} (h : d 1 < 4) : hlP X (q, d) = (ghP X 900 (nuP X 9 (exP X 4 (nuP X 4 (exP X 3 (nxP X q))))), upd d 1 (d 1 + 1)) := by unfold hlP; rw [if_pos h]
theorem hlP_11 {X : TX} {q : Sg} {d : Nat → Int32} (h : d 1 < 4) : (hlP X (q, d)).1 = ghP X 900 (nuP X 9 (exP X 4 (nuP X 4 (exP X 3 (nxP X q))))) := by
  unfold hlP; rw [if_pos h]
theorem hlP_12 {X : TX} {q : Sg} {d : Nat → Int32} (h : d 1 < 4) : (hlP X (q, d)).2 = upd d 1 (d 1 + 1) := by
  unfold hlP; rw [if_pos h]
theorem hl_fin {X : TX} {q Q : Sg} {d : Nat → Int32} (h : d 1 < 4) (e : ghP X 900 (nuP X 9 (exP X 4 (nuP X 4 (exP X 3 (nxP X q))))) = Q) : (hlP X (q, d)).1 = Q ∧ (hlP X (q, d)).2 = upd d 1 (d 1 + 1) := ⟨(hlP_11 h).trans e, hlP_12 h⟩
theorem hlP_4 {X : TX} {q : Sg} {d : Nat → Int32} (h : ¬ d 1 < 4) : hlP X (q, d) = (flP X 4 q, d) := by unfold hlP; rw [if_neg h]
theorem viP_1 {X : TX} {q : Sg} {d : Nat → Int32} (h : d 2 < 4) : viP X (q, d) = (nuP X 9 (exP X 8 (nxP X q)), upd d 2 (d 2 + 1)) := by unfold viP; rw [if_pos h]
theorem viP_4 {X : TX} {q : Sg} {d : Nat → Int32} (h : ¬ d 2 < 4) : viP X (q, d) = (flP X 4 q, d) := by unfold viP; rw [if_neg h]
theorem roP_1 {X : TX} {q : Sg} {d : Nat → Int32} (h : d 3 < 8) : roP X (q, d) = (nuP X 9 (exP X 10 (nuP X (d 2 - 1) (nuP X (d 1 - 1) (nxP X q)))), upd d 3 (d 3 + 1)) := by unfold roP; rw [if_pos h]
theorem roP_4 {X : TX} {q : Sg} {d : Nat → Int32} (h : ¬ d 3 < 8) : roP X (q, d) = (flP X 4 q, d) := by unfold roP; rw [if_neg h]
/-- what stands when a text is read -/
def RE (f : Nat → Int32) (n fa fp ln : Int32) : Prop := fa = (txP (tkX f n)).1.1 ∧ fp = (if (txP (tkX f n)).1.1 = 0 then -1 else (txP (tkX f n)).1.2.1) ∧ (fa = 0 → ln = (txP (tkX f n)).2 0)
theorem RE_of {f : Nat → Int32} {n : Int32} {q : Sg} {d : Nat → Int32} {fa fp ki pl en va ln h v r : Int32} (a : RC f n q fa fp ki pl en va) (b : RD q.1 d ln h v r) (e : (q, d) = txP (tkX f n)) : RE f n fa fp ln := by
  unfold RE
  rw [← e]
  refine ⟨a.1, ?_, fun z => (b (a.1.symm.trans z)).1⟩
  show fp = if q.1 = 0 then -1 else q.2.1
  by_cases w : q.1 = 0
  · rw [if_pos w]; exact a.2.1.1 w
  · rw [if_neg w]; exact a.2.1.2 w
theorem rd_n {a m n : Int32} (em : m = if (900 : Int32) < a then 900 else a) (en : n = if (0 : Int32) < m then m else 0) (h : 0 ≤ a.toInt ∧ a.toInt ≤ 900) : n = a := by
  rw [if_neg (by rw [Int32.lt_iff_toInt_lt, (by decide : (900 : Int32).toInt = 900)]; omega)] at em
  rw [en, em]
  by_cases z : (0 : Int32) < a
  · rw [if_pos z]
  · rw [if_neg z]
    rw [Int32.lt_iff_toInt_lt, (by decide : (0 : Int32).toInt = 0)] at z
    exact Int32.toInt_inj.mp (by rw [(by decide : (0 : Int32).toInt = 0)]; omega)
theorem nar8 (x : Int32) : iv (-128) 127 (vp_nar .byte x) := by
  show iv (-128) 127 (x.toInt8.toInt32)
  unfold iv
  rw [Int8.toInt_toInt32]
  have h1 := Int8.le_toInt x.toInt8
  have h2 := Int8.toInt_lt x.toInt8
  omega
theorem kL_0 : kL [59, 58, 43, 45, 42, 40, 41, 91, 93, 61, 60, 62] = 99 := by decide +kernel
theorem kL_1 : kL [99, 111, 97, 115, 116] = 0 := by decide +kernel
theorem kL_2 : kL [119, 101, 97, 116, 104, 101, 114] = 1 := by decide +kernel
theorem kL_3 : kL [59] = 30 := by decide +kernel
theorem kL_4 : kL [104, 105, 108, 108] = 2 := by decide +kernel
theorem kL_5 : kL [115, 116, 97, 99, 107] = 3 := by decide +kernel
theorem kL_6 : kL [102, 101, 97, 114] = 4 := by decide +kernel
theorem kL_7 : kL [103, 97, 112] = 5 := by decide +kernel
theorem kL_8 : kL [116, 111, 111, 107] = 6 := by decide +kernel
theorem kL_9 : kL [118, 105, 108, 108, 97, 103, 101] = 7 := by decide +kernel
theorem kL_10 : kL [110, 101, 101, 100, 115] = 8 := by decide +kernel
theorem kL_11 : kL [114, 111, 97, 100] = 9 := by decide +kernel
theorem kL_12 : kL [99, 97, 114, 114, 105, 101, 115] = 10 := by decide +kernel
theorem kL_13 : kL [116, 97, 107, 101, 115] = 11 := by decide +kernel
theorem kL_14 : kL [58] = 31 := by decide +kernel
theorem kL_15 : kL [110, 111, 116] = 21 := by decide +kernel
theorem kL_16 : kL [91] = 37 := by decide +kernel
theorem kL_17 : kL [93] = 38 := by decide +kernel
theorem kL_18 : kL [105, 102] = 13 := by decide +kernel
theorem kL_19 : kL [40] = 35 := by decide +kernel
theorem kL_20 : kL [116, 104, 101, 110] = 14 := by decide +kernel
theorem kL_21 : kL [101, 108, 115, 101] = 15 := by decide +kernel
theorem kL_22 : kL [101, 110, 100] = 16 := by decide +kernel
theorem kL_23 : kL [41] = 36 := by decide +kernel
theorem kL_24 : kL [119, 101, 115, 116] = 17 := by decide +kernel
theorem kL_25 : kL [115, 101, 101, 110] = 18 := by decide +kernel
theorem kL_26 : kL [42] = 34 := by decide +kernel
theorem kL_27 : kL [43] = 32 := by decide +kernel
theorem kL_28 : kL [45] = 33 := by decide +kernel
theorem kL_29 : kL [61] = 39 := by decide +kernel
theorem kL_30 : kL [60] = 40 := by decide +kernel
theorem kL_31 : kL [62] = 41 := by decide +kernel
theorem kL_32 : kL [97, 110, 100] = 19 := by decide +kernel
theorem kL_33 : kL [111, 114] = 20 := by decide +kernel
theorem kL_34 : kL [97, 100, 100, 115] = 12 := by decide +kernel
theorem kL_35 : kL [32, 99, 111, 97, 115, 116, 32, 119, 101, 97, 116, 104, 101, 114, 32, 104, 105, 108, 108, 32, 115, 116, 97, 99, 107, 32, 102, 101, 97, 114, 32, 103, 97, 112, 32, 116, 111, 111, 107, 32, 118, 105, 108, 108, 97, 103, 101, 32, 110, 101, 101, 100, 115, 32, 114, 111, 97, 100, 32, 99, 97, 114, 114, 105, 101, 115, 32, 116, 97, 107, 101, 115, 32, 97, 100, 100, 115, 32, 105, 102, 32, 116, 104, 101, 110, 32, 101, 108, 115, 101, 32, 101, 110, 100, 32, 119, 101, 115, 116, 32, 115, 101, 101, 110, 32, 97, 110, 100, 32, 111, 114, 32, 110, 111, 116, 32] = 99 := by decide +kernel
theorem kL_36 : kL [59, 58, 43, 45, 42, 40, 41, 91, 93, 61, 60, 62] = 99 := by decide +kernel

def faF (a w p : Int32) : Int32 := if a = 0 then w else if a = 1 then p else -1
theorem fa_0 {a w p : Int32} (h : a = 0) : w = faF a w p := by unfold faF; rw [if_pos h]
theorem fa_1 {a w p : Int32} (h : a = 1) : p = faF a w p := by unfold faF; rw [h, if_neg (by decide), if_pos rfl]
theorem fa_n {a w p : Int32} (h : ¬ a = 0) (g : ¬ a = 1) : -1 = faF a w p := by unfold faF; rw [if_neg h, if_neg g]

/-- what is kept of a text: its fault, where it is -/
def coW (f : Nat → Int32) (t n w : Int32) : Int32 := if n < 0 ∨ t < n then w else (txP (tkX f n)).1.1
def coA (f : Nat → Int32) (t n p : Int32) : Int32 := if n < 0 ∨ t < n then p else if (txP (tkX f n)).1.1 = 0 then -1 else (txP (tkX f n)).1.2.1
theorem cq_3 {f : Nat → Int32} {t n : Int32} (h : n < 0 ∨ t < n) : -3 = coF f t n := by unfold coF; rw [if_pos h]
theorem cw_3 {f : Nat → Int32} {t n w : Int32} (h : n < 0 ∨ t < n) : w = coW f t n w := by unfold coW; rw [if_pos h]
theorem ca_3 {f : Nat → Int32} {t n w : Int32} (h : n < 0 ∨ t < n) : w = coA f t n w := by unfold coA; rw [if_pos h]
theorem nr {t n : Int32} (h1 : ¬ n < 0) (h2 : ¬ t < n) : ¬ (n < 0 ∨ t < n) := fun z => z.elim h1 h2
theorem re_n {f : Nat → Int32} {n n' fa fp ln : Int32} (h : RE f n' fa fp ln) (e : n' = n) : RE f n fa fp ln := by rw [← e]; exact h
theorem co_f {f : Nat → Int32} {t n fa fp ln v : Int32} (h : ¬ (n < 0 ∨ t < n)) (r : RE f n fa fp ln) (w : ¬ fa = 0) (e : v = -30 - fa) : v = coF f t n := by
  unfold coF; rw [if_neg h, if_neg (fun z => w (r.1.trans z)), ← r.1]; exact e
theorem co_1 {f : Nat → Int32} {t n fa fp ln v : Int32} (h : ¬ (n < 0 ∨ t < n)) (r : RE f n fa fp ln) (w : fa = 0) (e : v = ln) : v = coF f t n := by
  unfold coF; rw [if_neg h, if_pos (r.1.symm.trans w), e]; exact r.2.2 w
theorem cw_1 {f : Nat → Int32} {t n fa fp ln w : Int32} (h : ¬ (n < 0 ∨ t < n)) (r : RE f n fa fp ln) : fa = coW f t n w := by unfold coW; rw [if_neg h]; exact r.1
theorem ca_1 {f : Nat → Int32} {t n fa fp ln w : Int32} (h : ¬ (n < 0 ∨ t < n)) (r : RE f n fa fp ln) : fp = coA f t n w := by unfold coA; rw [if_neg h]; exact r.2.1
theorem wt_n {n t : Int32} {j k lo : Int64} (ej : j = n.toInt64) (ek : k = t.toInt64) (h : ¬ (lo ≤ j ∧ j ≤ k)) (hlo : lo.toInt = 0) : n < 0 ∨ t < n := by
  rw [Int64.le_iff_toInt_le, Int64.le_iff_toInt_le, ej, ek, toI64, toI64] at h
  rw [Int32.lt_iff_toInt_lt, Int32.lt_iff_toInt_lt, (by decide : (0 : Int32).toInt = 0)]
  omega
theorem wt_y {n t : Int32} {j k lo : Int64} (ej : j = n.toInt64) (ek : k = t.toInt64) (h1 : lo ≤ j) (h2 : j ≤ k) (hlo : lo.toInt = 0) : ¬ (n < 0 ∨ t < n) := by
  rw [Int64.le_iff_toInt_le, ej, toI64] at h1
  rw [Int64.le_iff_toInt_le, ej, ek, toI64, toI64] at h2
  rw [Int32.lt_iff_toInt_lt, Int32.lt_iff_toInt_lt, (by decide : (0 : Int32).toInt = 0)]
  omega

theorem bv8 (X : BitVec 32) (k : Nat) (hk : k ≤ 24) : (X.sshiftRight k) &&& 255#32 = ((X >>> k).signExtend 8).setWidth 32 := by
  apply BitVec.eq_of_getLsbD_eq
  intro i hi
  have h255 : (255#32 : BitVec 32).getLsbD i = decide (i < 8) := by
    have t : ∀ j : Nat, j < 32 → (255#32 : BitVec 32).getLsbD j = decide (j < 8) := by decide
    exact t i hi
  rw [BitVec.getLsbD_and, BitVec.getLsbD_sshiftRight, h255, BitVec.getLsbD_setWidth, BitVec.getLsbD_signExtend, BitVec.getLsbD_ushiftRight, decide_eq_true hi, decide_eq_false (show ¬ 32 ≤ i by omega)]
  by_cases z : i < 8
  · rw [decide_eq_true z, if_pos (show k + i < 32 by omega), if_pos (show i < 32 by omega)]; simp
  · rw [decide_eq_false z]; simp
theorem BT_8 (B : BitVec 8) : BT ((Int8.ofBitVec B).toInt32.toInt8.toInt32) (Int32.ofBitVec (B.setWidth 32)) := by
  have k : ∀ i : Nat, i < 256 → BT ((Int8.ofBitVec (BitVec.ofNat 8 i)).toInt32.toInt8.toInt32) (Int32.ofBitVec ((BitVec.ofNat 8 i).setWidth 32)) := by unfold BT; decide +kernel
  have h := k B.toNat B.isLt
  rw [BitVec.ofNat_toNat, BitVec.setWidth_eq] at h; exact h
/-- a byte of a number, as the class keeps it, as the reference keeps it -/
def bC (x s : Int32) : Int32 := vp_nar .byte ((x.toUInt32 >>> (s.toUInt32 &&& Int32.toUInt32 31)).toInt32.toInt8.toInt32)
def bZ (x s : Int32) : Int32 := (x >>> (s &&& 31)) &&& 255
theorem BT_k (x s : Int32) (k : Nat) (hk : k ≤ 24) (h1 : ((s.toBitVec &&& 31#32) % 32#32).toNat = k) (h2 : ((s.toBitVec &&& 31#32).smod 32#32).toNat = k) : BT (bC x s) (bZ x s) := by
  have e : bZ x s = Int32.ofBitVec (((x.toBitVec >>> k).signExtend 8).setWidth 32) := by
    refine Int32.toBitVec_inj.mp ?_
    show x.toBitVec.sshiftRight ((s.toBitVec &&& 31#32).smod 32#32).toNat &&& 255#32 = ((x.toBitVec >>> k).signExtend 8).setWidth 32
    rw [h2]; exact bv8 _ k hk
  rw [e]
  have g : bC x s = (Int8.ofBitVec ((x.toBitVec >>> k).signExtend 8)).toInt32.toInt8.toInt32 := by
    rw [← h1]; rfl
  rw [g]; exact BT_8 _
theorem bZ_0 (x : Int32) : bZ x 0 = x &&& 255 := by unfold bZ; rw [sb_shr0]
def p4 (t : Int32) : Int32 := t + 1 + 1 + 1 + 1
def wC4 (f : Nat → Int32) (t x : Int32) : Nat → Int32 := upd (upd (upd (upd f t.toNatClampNeg (bC x 24)) (t + 1).toNatClampNeg (bC x 16)) (t + 1 + 1).toNatClampNeg (bC x 8)) (t + 1 + 1 + 1).toNatClampNeg (bC x 0)
def wZ4 (f : Nat → Int32) (t x : Int32) : Nat → Int32 := upd (upd (upd (upd f t.toNatClampNeg (bZ x 24)) (t + 1).toNatClampNeg (bZ x 16)) (t + 1 + 1).toNatClampNeg (bZ x 8)) (t + 1 + 1 + 1).toNatClampNeg (x &&& 255)
def feC (f : Nat → Int32) (t a b c d e : Int32) : Nat → Int32 := if 880 < t.toInt then f else wC4 (wC4 (wC4 (wC4 (wC4 f t a) (p4 t) b) (p4 (p4 t)) c) (p4 (p4 (p4 t))) d) (p4 (p4 (p4 (p4 t)))) e
def feZ (f : Nat → Int32) (t a b c d e : Int32) : Nat → Int32 := if 880 < t.toInt then f else wZ4 (wZ4 (wZ4 (wZ4 (wZ4 f t a) (p4 t) b) (p4 (p4 t)) c) (p4 (p4 (p4 t))) d) (p4 (p4 (p4 (p4 t)))) e
theorem BTs_u {f T : Nat → Int32} {i : Nat} {a b : Int32} (h : BTs f T) (g : BT a b) : BTs (upd f i a) (upd T i b) := fun j hj => by
  by_cases z : j = i
  · subst z; rw [upd_at, upd_at]; exact g
  · rw [upd_ne z, upd_ne z]; exact h j hj
theorem BTs_4 {f T : Nat → Int32} (t x : Int32) (h : BTs f T) : BTs (wC4 f t x) (wZ4 T t x) := by
  unfold wC4 wZ4
  rw [← bZ_0]
  exact BTs_u (BTs_u (BTs_u (BTs_u h (BT_k x 24 24 (by decide) (by decide) (by decide))) (BT_k x 16 16 (by decide) (by decide) (by decide))) (BT_k x 8 8 (by decide) (by decide) (by decide))) (BT_k x 0 0 (by decide) (by decide) (by decide))
theorem BTs_f {f T : Nat → Int32} (t a b c d e : Int32) (h : BTs f T) : BTs (feC f t a b c d e) (feZ T t a b c d e) := by
  unfold feC feZ
  by_cases z : 880 < t.toInt
  · rw [if_pos z, if_pos z]; exact h
  · rw [if_neg z, if_neg z]; exact BTs_4 _ _ (BTs_4 _ _ (BTs_4 _ _ (BTs_4 _ _ (BTs_4 _ _ h))))

def tauT (t : Nat → Int32) : Nat → Int32 := fun j => t (j + 10)
def feP (a b c d e : Int32) (t : Nat → Int32) : Nat → Int32
  | 0 => feS (t 0)
  | 1 => t 1
  | 2 => t 2
  | n + 3 => if 7 ≤ n then feZ (tauT t) (t 0) a b c d e (n - 7) else t (n + 3)
def coP (a : Int32) (t : Nat → Int32) : Nat → Int32
  | 0 => coS a (t 0)
  | 1 => coW (tauT t) (t 0) a (t 1)
  | 2 => coA (tauT t) (t 0) a (t 2)
  | n + 3 => t (n + 3)
theorem tauT_f {a b c d e : Int32} {t : Nat → Int32} : tauT (feP a b c d e t) = feZ (tauT t) (t 0) a b c d e := funext fun j => by
  show (if 7 ≤ j + 7 then feZ (tauT t) (t 0) a b c d e (j + 7 - 7) else t (j + 7 + 3)) = _
  rw [if_pos (by omega), Nat.add_sub_cancel]
theorem tauT_c {a : Int32} {t : Nat → Int32} : tauT (coP a t) = tauT t := rfl
theorem tk_le {t n : Int32} (h : ¬ (n < 0 ∨ t < n)) (ht : t.toInt ≤ 900) : n.toInt ≤ 900 := by
  rw [Int32.lt_iff_toInt_lt, Int32.lt_iff_toInt_lt] at h
  omega
theorem coF_cg {f T : Nat → Int32} {t n : Int32} (h : BTs f T) (ht : t.toInt ≤ 900) : coF f t n = coF T t n := by
  unfold coF
  by_cases z : n < 0 ∨ t < n
  · rw [if_pos z, if_pos z]
  · rw [if_neg z, if_neg z, tkX_cg h (tk_le z ht)]
theorem coW_cg {f T : Nat → Int32} {t n w : Int32} (h : BTs f T) (ht : t.toInt ≤ 900) : coW f t n w = coW T t n w := by
  unfold coW
  by_cases z : n < 0 ∨ t < n
  · rw [if_pos z, if_pos z]
  · rw [if_neg z, if_neg z, tkX_cg h (tk_le z ht)]
theorem coA_cg {f T : Nat → Int32} {t n w : Int32} (h : BTs f T) (ht : t.toInt ≤ 900) : coA f t n w = coA T t n w := by
  unfold coA
  by_cases z : n < 0 ∨ t < n
  · rw [if_pos z, if_pos z]
  · rw [if_neg z, if_neg z, tkX_cg h (tk_le z ht)]

def bnd {α β : Type} (v : α) (k : α → β) : β := k v
theorem tb0 {α β : Type} {T : β} {v : α} {k : α → β} (h : T = bnd v k) : T = k v := h
theorem tb {α β : Type} {T : β} {v x : α} {k : α → β} (h : T = bnd v k) (e : x = v) : T = k x := by rw [e]; exact h
theorem ti {β : Type} {c : Prop} {i : Decidable c} {T a b : β} (h : T = @ite β c i a b) (hc : c) : T = a := h.trans (if_pos hc)
theorem te {β : Type} {c : Prop} {i : Decidable c} {T a b : β} (h : T = @ite β c i a b) (hc : ¬ c) : T = b := h.trans (if_neg hc)
def run9 {X R : Type} (s : X → X ⊕ R) : Nat → X → X ⊕ R
  | 0, x => Sum.inl x
  | n + 1, x => (s x).elim (fun y => run9 s n y) (fun r => Sum.inr r)
/-- goes on till an answer comes -/
noncomputable def W9 {X R : Type} [h9 : Nonempty R] (s : X → X ⊕ R) (x : X) : R := @dite R (∃ r, ∃ n, run9 s n x = Sum.inr r) (Classical.propDecidable _) (fun h => Classical.choose h) (fun _ => Classical.choice h9)
theorem run9_u {X R : Type} {s : X → X ⊕ R} : ∀ {n m : Nat} {x : X} {r t : R}, run9 s n x = Sum.inr r → run9 s m x = Sum.inr t → r = t := by
  intro n
  induction n with
  | zero => intro m x r t h _; cases h
  | succ n ih =>
    intro m x r t h g
    cases m with
    | zero => cases g
    | succ m =>
      have h' : (s x).elim (fun y => run9 s n y) (fun r => Sum.inr r) = Sum.inr r := h
      have g' : (s x).elim (fun y => run9 s m y) (fun r => Sum.inr r) = Sum.inr t := g
      cases e : s x with
      | inl y => rw [e] at h' g'; exact ih h' g'
      | inr q => rw [e] at h' g'; exact Sum.inr.inj (h'.symm.trans g')
theorem W9_of {X R : Type} [Nonempty R] {s : X → X ⊕ R} {n : Nat} {x : X} {r : R} (h : run9 s n x = Sum.inr r) : W9 s x = r := by
  have ex : ∃ r, ∃ n, run9 s n x = Sum.inr r := ⟨r, n, h⟩
  unfold W9
  rw [dif_pos ex]
  obtain ⟨m, hm⟩ := Classical.choose_spec ex
  exact run9_u hm h
theorem W9_eq {X R : Type} [Nonempty R] {s : X → X ⊕ R} {x : X} : W9 s x = (s x).elim (W9 s) id := by
  cases e : s x with
  | inr r =>
    refine W9_of (n := 1) ?_
    show (s x).elim (fun y => run9 s 0 y) (fun r => Sum.inr r) = Sum.inr r
    rw [e]; rfl
  | inl y =>
    show W9 s x = W9 s y
    by_cases ex : ∃ r, ∃ n, run9 s n y = Sum.inr r
    · obtain ⟨r, n, h⟩ := ex
      rw [W9_of h]
      refine W9_of (n := n + 1) ?_
      show (s x).elim (fun y => run9 s n y) (fun r => Sum.inr r) = Sum.inr r
      rw [e]; exact h
    · have ex2 : ¬ ∃ r, ∃ n, run9 s n x = Sum.inr r := by
        rintro ⟨r, n, h⟩
        cases n with
        | zero => cases h
        | succ n =>
          have h' : (s x).elim (fun y => run9 s n y) (fun r => Sum.inr r) = Sum.inr r := h
          rw [e] at h'
          exact ex ⟨r, n, h'⟩
      unfold W9; rw [dif_neg ex, dif_neg ex2]
theorem tw {X R : Type} [Nonempty R] {s : X → X ⊕ R} {x : X} {T : R} (h : T = W9 s x) : ∃ T1, T1 = s x ∧ T = T1.elim (W9 s) id := ⟨s x, rfl, h.trans W9_eq⟩
theorem tbk {X R : Type} [Nonempty R] {s : X → X ⊕ R} {x : X} {T : R} {T1 : X ⊕ R} (h : T = T1.elim (W9 s) id) (g : T1 = Sum.inl x) : T = W9 s x := by rw [g] at h; exact h
theorem tx {X R : Type} [Nonempty R] {s : X → X ⊕ R} {r : R} {T : R} {T1 : X ⊕ R} (h : T = T1.elim (W9 s) id) (g : T1 = Sum.inr r) : T = r := by rw [g] at h; exact h
/-- a loop's rule: what holds at its head, a measure that falls, what holds of the answer -/
theorem W9_rule {X R : Type} [Nonempty R] {s : X → X ⊕ R} (I : X → Prop) (Q : R → Prop) (mu : X → Nat) (h : ∀ x, I x → (∃ y, s x = Sum.inl y ∧ I y ∧ mu y < mu x) ∨ (∃ r, s x = Sum.inr r ∧ Q r)) {x : X} (h0 : I x) : Q (W9 s x) := by
  have key : ∀ n x, mu x ≤ n → I x → Q (W9 s x) := by
    intro n
    induction n with
    | zero =>
      intro x hn hx
      rcases h x hx with ⟨y, e, hy, hm⟩ | ⟨r, e, hr⟩
      · omega
      · rw [W9_eq, e]; exact hr
    | succ n ih =>
      intro x hn hx
      rcases h x hx with ⟨y, e, hy, hm⟩ | ⟨r, e, hr⟩
      · rw [W9_eq, e]; exact ih y (by omega) hy
      · rw [W9_eq, e]; exact hr
  exact key _ x (Nat.le_refl _) h0

theorem iv_divv {x y : Int32} {a b c d B : Int} (hx : iv a b x) (hy : iv c d y) (h : 0 ≤ a ∧ 1 ≤ c ∧ b ≤ B) : iv 0 B (x / y) := by
  have y1 := hy.1
  exact iv_w (iv_divp (k := y.toInt) (B := x.toInt) (⟨Int.le_refl _, Int.le_refl _⟩ : iv x.toInt x.toInt x) ⟨by have := hx.1; omega, by omega, by
    have h0 : 0 ≤ x.toInt := by have := hx.1; omega
    exact Int.ediv_le_self _ h0⟩ rfl) ⟨Int.le_refl _, by have := hx.2; omega⟩

theorem ivCpy {f g : Nat → Int32} {a b : Int} (hf : ∀ j, iv a b (f j)) (hg : ∀ j, iv a b (g j)) (sp dp n : Nat) : ∀ j, iv a b (va_cpy f g sp dp n j) := fun j => by
  unfold va_cpy; split
  · exact hf _
  · exact hg _
def rmF (x y : Int32) : Int32 := x - x / y * y
/-- a digit of a standing, its stack, who took -/
def dgW (s : Int32) (k : Nat) : Int32 := rmF (s / pw k) 10
def stW (s : Int32) (k : Nat) : Int32 := dgW s k / 2
def tkF (s : Int32) (k : Nat) : Int32 := rmF (s / pw k) 2
def mxF (x y : Int32) : Int32 := if x < y then y else x
def mnF (x y : Int32) : Int32 := if y < x then y else x
def jcF (c : Int32) (a b : Int64) : Int64 := if c = 1006 then a + b else if c = 1007 then a - b else if c = 1008 then a * b else if c = 1009 then (if a = b then 1 else 0) else if c = 1010 then (if a < b then 1 else 0) else if c = 1011 then (if b < a then 1 else 0) else if c = 1012 then a &&& b else a ||| b
def clL (v : Int64) : Int32 := if 1000000 < v then 1000000 else if v < -1000000 then -1000000 else v.toInt32
/-- the class's joined -/
def jnF (c : Int32) (a b : Int64) : Int32 := clL (jcF c a b)
theorem jn_of {c r : Int32} {a b v : Int64} (h : v = jcF c a b) (g : r = clL v) : r = jnF c a b := by unfold jnF; rw [← h]; exact g
theorem jc_6 {a b v : Int64} (e : v = a + b) : v = jcF 1006 a b := by unfold jcF; rw [if_pos rfl]; exact e
theorem jc_7 {a b v : Int64} (e : v = a - b) : v = jcF 1007 a b := by unfold jcF; rw [if_neg (by decide), if_pos rfl]; exact e
theorem jc_8 {a b v : Int64} (e : v = a * b) : v = jcF 1008 a b := by unfold jcF; rw [if_neg (by decide), if_neg (by decide), if_pos rfl]; exact e
theorem jc_9 {a b v : Int64} (e : v = (if a = b then 1 else 0)) : v = jcF 1009 a b := by unfold jcF; rw [if_neg (by decide), if_neg (by decide), if_neg (by decide), if_pos rfl]; exact e
theorem jc_10 {a b v : Int64} (e : v = (if a < b then 1 else 0)) : v = jcF 1010 a b := by unfold jcF; rw [if_neg (by decide), if_neg (by decide), if_neg (by decide), if_neg (by decide), if_pos rfl]; exact e
theorem jc_11 {a b v : Int64} (e : v = (if b < a then 1 else 0)) : v = jcF 1011 a b := by unfold jcF; rw [if_neg (by decide), if_neg (by decide), if_neg (by decide), if_neg (by decide), if_neg (by decide), if_pos rfl]; exact e
theorem jc_12 {a b v : Int64} (e : v = a &&& b) : v = jcF 1012 a b := by unfold jcF; rw [if_neg (by decide), if_neg (by decide), if_neg (by decide), if_neg (by decide), if_neg (by decide), if_neg (by decide), if_pos rfl]; exact e
theorem jc_13 {c : Int32} {a b v : Int64} (h6 : ¬ c = 1006) (h7 : ¬ c = 1007) (h8 : ¬ c = 1008) (h9 : ¬ c = 1009) (h10 : ¬ c = 1010) (h11 : ¬ c = 1011) (h12 : ¬ c = 1012) (e : v = a ||| b) : v = jcF c a b := by unfold jcF; rw [if_neg h6, if_neg h7, if_neg h8, if_neg h9, if_neg h10, if_neg h11, if_neg h12]; exact e
theorem jc_c {c c' : Int32} {a b v : Int64} (h : c = c') (e : v = jcF c' a b) : v = jcF c a b := by rw [h]; exact e
theorem cl_1 {v : Int64} (h : 1000000 < v) : 1000000 = clL v := by unfold clL; rw [if_pos h]
theorem cl_2 {v : Int64} (h : ¬ 1000000 < v) (g : v < -1000000) : -1000000 = clL v := by unfold clL; rw [if_neg h, if_pos g]
theorem cl_3 {v : Int64} {r : Int32} (h : ¬ 1000000 < v) (g : ¬ v < -1000000) (e : r = v.toInt32) : r = clL v := by unfold clL; rw [if_neg h, if_neg g]; exact e
def cvF (nm : Nat → Int32) (c : Int32) : Int32 := if c.toInt < 1000 then c else nm (c - 1000).toNatClampNeg
theorem cv_1 {nm : Nat → Int32} {c : Int32} (h : c.toInt < 1000) : c = cvF nm c := by unfold cvF; rw [if_pos h]
theorem cv_2 {nm : Nat → Int32} {c y v : Int32} (h : ¬ c.toInt < 1000) (ey : y = c - 1000) (ev : v = nm y.toNatClampNeg) : v = cvF nm c := by unfold cvF; rw [if_neg h, ← ey]; exact ev
/-- one step of the class's workOut: what waits, how many -/
def cmT (nm S : Nat → Int32) (t c : Int32) : Option ((Nat → Int32) × Int32) := if c.toInt < 1006 then (if 64 ≤ t.toInt then none else some (upd S t.toNatClampNeg (cvF nm c), t + 1)) else if c.toInt = 1014 ∧ 1 ≤ t.toInt then some (upd S (t - 1).toNatClampNeg (1 - S (t - 1).toNatClampNeg), t) else if c.toInt = 1015 ∧ 3 ≤ t.toInt then some (upd S (t + (-2) - 1).toNatClampNeg (if S (t + (-2) - 1).toNatClampNeg = 0 then S (t + (-2) + 1).toNatClampNeg else S (t + (-2)).toNatClampNeg), t + (-2)) else if 2 ≤ t.toInt then some (upd S (t + (-1) - 1).toNatClampNeg (jnF c (S (t + (-1) - 1).toNatClampNeg).toInt64 (S (t + (-1)).toNatClampNeg).toInt64), t + (-1)) else some (S, t)
def cmS (nm : Nat → Int32) : Option ((Nat → Int32) × Int32) → Int32 → Option ((Nat → Int32) × Int32)
  | none, _ => none
  | some (S, t), c => cmT nm S t c
def cmR (nm sf : Nat → Int32) (b : Nat) (S0 : Nat → Int32) : Nat → Option ((Nat → Int32) × Int32)
  | 0 => some (S0, 0)
  | k + 1 => cmS nm (cmR nm sf b S0 k) (sf (b + k))
def wkO : Option ((Nat → Int32) × Int32) → Int32
  | none => 0
  | some (S, _) => S 0
/-- the class's workOut -/
def wkV (nm sf : Nat → Int32) (b e : Int32) (S0 : Nat → Int32) : Int32 := wkO (cmR nm sf b.toNatClampNeg S0 (e.toInt - b.toInt).toNat)
theorem cm_0 {nm sf S0 : Nat → Int32} {b : Nat} {x : Int32} : cmR nm sf b S0 (x.toInt - x.toInt).toNat = some (S0, 0) := by rw [Int.sub_self]; rfl
theorem cm_s {nm sf S0 f f' : Nat → Int32} {b i i' t t' x : Int32} {lo hi : Int} (h : cmR nm sf b.toNatClampNeg S0 (i.toInt - b.toInt).toNat = some (f, t)) (hb : 0 ≤ b.toInt) (hl : b.toInt ≤ i.toInt) (hi9 : iv lo hi i) (hw : -2147483648 ≤ lo ∧ hi < 2147483647) (ei : i' = i + 1) (ex : x = sf i.toNatClampNeg) (hs : cmT nm f t x = some (f', t')) : cmR nm sf b.toNatClampNeg S0 (i'.toInt - b.toInt).toNat = some (f', t') := by
  have e1 := inc_toInt ei hi9 hw
  have c1 := clampNat (x := b) hb
  have c2 := clampNat (x := i) (by omega)
  have en : (i'.toInt - b.toInt).toNat = (i.toInt - b.toInt).toNat + 1 := by omega
  have ey : b.toNatClampNeg + (i.toInt - b.toInt).toNat = i.toNatClampNeg := by omega
  rw [en]
  show cmS nm (cmR nm sf b.toNatClampNeg S0 (i.toInt - b.toInt).toNat) (sf (b.toNatClampNeg + (i.toInt - b.toInt).toNat)) = _
  rw [h, ey, ← ex]; exact hs
theorem cs_push {nm f f' : Nat → Int32} {x t t' v : Int32} (h1 : x.toInt < 1006) (h2 : ¬ 64 ≤ t.toInt) (ev : v = cvF nm x) (ef : f' = upd f t.toNatClampNeg v) (et : t' = t + 1) : cmT nm f t x = some (f', t') := by
  unfold cmT; rw [if_pos h1, if_neg h2, ef, ev, et]
theorem cs_no {nm f f' : Nat → Int32} {x t y z v : Int32} (h0 : ¬ x.toInt < 1006) (h1 : x.toInt = 1014) (h2 : 1 ≤ t.toInt) (ey : y = t - 1) (ez : z = f y.toNatClampNeg) (ev : v = 1 - z) (ef : f' = upd f y.toNatClampNeg v) : cmT nm f t x = some (f', t) := by
  unfold cmT; rw [if_neg h0, if_pos ⟨h1, h2⟩, ef, ev, ez, ey]
theorem cs_if {nm f f' : Nat → Int32} {x t t' y z v : Int32} (h0 : ¬ x.toInt < 1006) (h1 : ¬ (x.toInt = 1014 ∧ 1 ≤ t.toInt)) (h2 : x.toInt = 1015) (h3 : 3 ≤ t.toInt) (et : t' = t + (-2)) (ey : y = t' - 1) (ez : z = f y.toNatClampNeg) (hv : (¬ z = 0 ∧ v = f t'.toNatClampNeg) ∨ (z = 0 ∧ ∃ u : Int32, u = t' + 1 ∧ v = f u.toNatClampNeg)) (ef : f' = upd f y.toNatClampNeg v) : cmT nm f t x = some (f', t') := by
  unfold cmT; rw [if_neg h0, if_neg h1, if_pos ⟨h2, h3⟩, ef]
  subst et ey ez
  rcases hv with ⟨a, b⟩ | ⟨a, u, b, c⟩
  · rw [if_neg a, b]
  · rw [if_pos a, c, b]
theorem cs_two {nm f f' : Nat → Int32} {x t t' y a b v : Int32} {j k : Int64} (h0 : ¬ x.toInt < 1006) (h1 : ¬ (x.toInt = 1014 ∧ 1 ≤ t.toInt)) (h2 : ¬ (x.toInt = 1015 ∧ 3 ≤ t.toInt)) (h3 : 2 ≤ t.toInt) (et : t' = t + (-1)) (ey : y = t' - 1) (ea : a = f y.toNatClampNeg) (eb : b = f t'.toNatClampNeg) (ej : j = a.toInt64) (ek : k = b.toInt64) (ev : v = jnF x j k) (ef : f' = upd f y.toNatClampNeg v) : cmT nm f t x = some (f', t') := by
  unfold cmT; rw [if_neg h0, if_neg h1, if_neg h2, if_pos h3, ef, ev, ek, ej, eb, ea, ey, et]
theorem cs_id {nm f : Nat → Int32} {x t : Int32} (h0 : ¬ x.toInt < 1006) (h1 : ¬ (x.toInt = 1014 ∧ 1 ≤ t.toInt)) (h2 : ¬ (x.toInt = 1015 ∧ 3 ≤ t.toInt)) (h3 : ¬ 2 ≤ t.toInt) : cmT nm f t x = some (f, t) := by
  unfold cmT; rw [if_neg h0, if_neg h1, if_neg h2, if_neg h3]
theorem wk_e {nm sf S0 f : Nat → Int32} {b e i t r : Int32} (h : cmR nm sf b.toNatClampNeg S0 (i.toInt - b.toInt).toNat = some (f, t)) (hl : b.toInt ≤ i.toInt) (h3 : i.toInt ≤ e.toInt ∨ i = b) (hx : ¬ i.toInt < e.toInt) (er : r = f (0 : Int32).toNatClampNeg) : r = wkV nm sf b e S0 := by
  have k : (e.toInt - b.toInt).toNat = (i.toInt - b.toInt).toNat := by
    rcases h3 with q | q
    · omega
    · have q2 := congrArg Int32.toInt q
      omega
  unfold wkV; rw [k, h]; exact er
theorem wk_64 {nm sf S0 f : Nat → Int32} {b e i t x : Int32} {lo hi : Int} (h : cmR nm sf b.toNatClampNeg S0 (i.toInt - b.toInt).toNat = some (f, t)) (hb : 0 ≤ b.toInt) (hl : b.toInt ≤ i.toInt) (hx : i.toInt < e.toInt) (ex : x = sf i.toNatClampNeg) (h1 : x.toInt < 1006) (h2 : 64 ≤ t.toInt) : 0 = wkV nm sf b e S0 := by
  have c1 := clampNat (x := b) hb
  have c2 := clampNat (x := i) (by omega)
  have ey : b.toNatClampNeg + (i.toInt - b.toInt).toNat = i.toNatClampNeg := by omega
  have n1 : cmR nm sf b.toNatClampNeg S0 ((i.toInt - b.toInt).toNat + 1) = none := by
    show cmS nm (cmR nm sf b.toNatClampNeg S0 (i.toInt - b.toInt).toNat) (sf (b.toNatClampNeg + (i.toInt - b.toInt).toNat)) = none
    rw [h, ey, ← ex]
    show cmT nm f t x = none
    unfold cmT; rw [if_pos h1, if_pos h2]
  have n2 : ∀ m : Nat, cmR nm sf b.toNatClampNeg S0 ((i.toInt - b.toInt).toNat + 1 + m) = none := by
    intro m
    induction m with
    | zero => exact n1
    | succ m ih =>
      show cmS nm (cmR nm sf b.toNatClampNeg S0 ((i.toInt - b.toInt).toNat + 1 + m)) _ = none
      rw [ih]; rfl
  have e9 : (e.toInt - b.toInt).toNat = (i.toInt - b.toInt).toNat + 1 + ((e.toInt - b.toInt).toNat - ((i.toInt - b.toInt).toNat + 1)) := by omega
  unfold wkV; rw [e9, n2]; rfl
/-- the class's workOutDigit; what waits ahead of both laws doesn't matter to laws that are told well -/
def woW (S9 S8 nm sf : Nat → Int32) (tb te ab ae st se : Int32) : Int32 := if (if tb.toInt < te.toInt then wkV nm sf tb te S9 else se) = 0 then mxF 0 (mnF 4 (if ab.toInt < ae.toInt then wkV nm sf ab ae S8 else st + 1)) * 2 else mxF 0 (st - 1) * 2 + 1
theorem wo_y {P : Prop} [Decidable P] {x y z : Int32} (h : P) (e : x = y) : x = if P then y else z := by rw [if_pos h]; exact e
theorem wo_n {P : Prop} [Decidable P] {x y z : Int32} (h : ¬ P) (e : x = z) : x = if P then y else z := by rw [if_neg h]; exact e
theorem wo_t {S9 S8 nm sf : Nat → Int32} {tb te ab ae st se tk x y z r : Int32} (h : tk = if tb.toInt < te.toInt then wkV nm sf tb te S9 else se) (h0 : ¬ tk = 0) (ex : x = st - 1) (ey : y = mxF 0 x) (ez : z = y * 2) (er : r = z + 1) : r = woW S9 S8 nm sf tb te ab ae st se := by
  unfold woW; rw [← h, if_neg h0, er, ez, ey, ex]
theorem wo_a {S9 S8 nm sf : Nat → Int32} {tb te ab ae st se tk ad x y r : Int32} (h : tk = if tb.toInt < te.toInt then wkV nm sf tb te S9 else se) (h0 : tk = 0) (g : ad = if ab.toInt < ae.toInt then wkV nm sf ab ae S8 else st + 1) (ex : x = mnF 4 ad) (ey : y = mxF 0 x) (er : r = y * 2) : r = woW S9 S8 nm sf tb te ab ae st se := by
  unfold woW; rw [← h, if_pos h0, ← g, er, ey, ex]
def plF (w h st we se : Int32) : Int32 := (w * 4 + h) * 50 + st * 10 + we * 2 + se
/-- D is what the laws tell, by the place in the table -/
def LW (D fe sf : Nat → Int32) (tb te ab ae : Int32) : Prop := ∀ (w h st we se : Int32) (nm S9 S8 : Nat → Int32), iv 0 9 w → iv 0 3 h → iv 0 4 st → iv 0 4 we → iv 0 1 se → (nm 0 = h ∧ nm 1 = st ∧ nm 2 = we ∧ nm 3 = se ∧ nm 4 = fe h.toNatClampNeg ∧ nm 5 = w) → woW S9 S8 nm sf tb te ab ae st se = D (plF w h st we se).toNatClampNeg
/-- what is known is so -/
def KN (D f : Nat → Int32) : Prop := ∀ j : Nat, j < 2000 → f j = 0 ∨ f j = 1 + D j
theorem KN_0 {D f : Nat → Int32} (h : ∀ j : Nat, j < 2000 → f j = 0) : KN D f := fun j hj => Or.inl (h j hj)
theorem pl_ix {p : Int32} (hp : iv 0 1999 p) : p.toNatClampNeg < 2000 := by
  have := clampNat (x := p) hp.1
  have := hp.2
  omega
theorem i_1s (v : Int32) : 1 + v - 1 = v := by
  rw [Int32.add_comm, Int32.add_sub_cancel]
theorem kn_hit {D f : Nat → Int32} {p p' x y : Int32} (h : KN D f) (hp : iv 0 1999 p) (ep : p = p') (ex : x = f p.toNatClampNeg) (h0 : ¬ x = 0) (ey : y = x - 1) : y = D p'.toNatClampNeg := by
  subst ep
  rcases h _ (pl_ix hp) with q | q
  · exact absurd (ex.trans q) h0
  · rw [ey, ex, q, i_1s]
theorem kn_new {D f f' : Nat → Int32} {p p' r v y : Int32} (h : KN D f) (ep : p = p') (er : r = D p'.toNatClampNeg) (ev : v = 1 + r) (ef : f' = upd f p.toNatClampNeg v) (ey : y = v - 1) : y = D p'.toNatClampNeg ∧ KN D f' := by
  subst ep
  refine ⟨by rw [ey, ev, i_1s]; exact er, fun j hj => ?_⟩
  rw [ef]
  by_cases z : j = p.toNatClampNeg
  · rw [z, upd_at, ev, er]; exact Or.inr rfl
  · rw [upd_ne z]; exact h j hj
theorem nm6 {f f1 f2 f3 f4 f5 f6 : Nat → Int32} {a b c d e g : Int32} (e1 : f1 = upd f (0 : Int32).toNatClampNeg a) (e2 : f2 = upd f1 (1 : Int32).toNatClampNeg b) (e3 : f3 = upd f2 (2 : Int32).toNatClampNeg c) (e4 : f4 = upd f3 (3 : Int32).toNatClampNeg d) (e5 : f5 = upd f4 (4 : Int32).toNatClampNeg e) (e6 : f6 = upd f5 (5 : Int32).toNatClampNeg g) : f6 0 = a ∧ f6 1 = b ∧ f6 2 = c ∧ f6 3 = d ∧ f6 4 = e ∧ f6 5 = g := by
  have k0 : (0 : Int32).toNatClampNeg = 0 := by decide
  have k1 : (1 : Int32).toNatClampNeg = 1 := by decide
  have k2 : (2 : Int32).toNatClampNeg = 2 := by decide
  have k3 : (3 : Int32).toNatClampNeg = 3 := by decide
  have k4 : (4 : Int32).toNatClampNeg = 4 := by decide
  have k5 : (5 : Int32).toNatClampNeg = 5 := by decide
  rw [k0] at e1; rw [k1] at e2; rw [k2] at e3; rw [k3] at e4; rw [k4] at e5; rw [k5] at e6
  subst e1 e2 e3 e4 e5 e6
  simp [upd]
/-- the digit west of a hill -/
def wsF (s : Int32) (k : Nat) : Int32 := if k = 0 then 0 else dgW s (k - 1)
def snW (s fog : Int32) (k : Nat) : Int32 := if nI k = fog then 0 else rmF (wsF s k) 2
/-- how all stands behind a night -/
def bhS (D : Nat → Int32) (s w fog : Int32) : Nat → Int32
  | 0 => 0
  | k + 1 => bhS D s w fog k + D (plF w (nI k) (dgW s k / 2) (wsF s k / 2) (snW s fog k)).toNatClampNeg * pw k
theorem nIc {h : Int32} (hh : 0 ≤ h.toInt) : nI h.toNatClampNeg = h := by
  have c := clampNat (x := h) hh
  have l := Int32.toInt_lt h
  exact Int32.toInt_inj.mp (by rw [nI_toInt (by omega)]; omega)
theorem nxN {h h' : Int32} {a b : Int} (eh : h' = h + 1) (hh : iv a b h) (hb : 0 ≤ a ∧ b < 2147483647) : h'.toNatClampNeg = h.toNatClampNeg + 1 := by
  have e := inc_toInt eh hh (by omega)
  have h1 := hh.1
  have c1 := clampNat (x := h) (by omega)
  have c2 := clampNat (x := h') (by omega)
  omega
theorem bh_e {D : Nat → Int32} {s w fog h h' al al' r p q d x1 x2 m se we : Int32} (hh : iv 0 3 h) (eh : h' = h + 1) (ep : p = pw h.toNatClampNeg) (eq : q = s / p) (ed : d = q - q / 10 * 10) (e1 : x1 = d / 2) (ew : we = wsF s h.toNatClampNeg) (e2 : x2 = we / 2) (es : se = snW s fog h.toNatClampNeg) (ea : al = bhS D s w fog h.toNatClampNeg) (er : r = D (plF w h x1 x2 se).toNatClampNeg) (em : m = r * p) (e9 : al' = al + m) : al' = bhS D s w fog h'.toNatClampNeg := by
  rw [nxN eh hh (by decide)]
  show al' = bhS D s w fog h.toNatClampNeg + D (plF w (nI h.toNatClampNeg) (dgW s h.toNatClampNeg / 2) (wsF s h.toNatClampNeg / 2) (snW s fog h.toNatClampNeg)).toNatClampNeg * pw h.toNatClampNeg
  rw [nIc hh.1, ← ea, ← ew, ← es]
  have hd : dgW s h.toNatClampNeg = d := by rw [ed, eq, ep]; rfl
  rw [hd, ← e1, ← e2, ← er, ← ep, ← em]; exact e9
theorem ws_0 {s : Int32} : 0 = wsF s (0 : Int32).toNatClampNeg := by unfold wsF; rw [if_pos (by decide)]
theorem ws_s {s h h' p q d : Int32} (hh : iv 0 3 h) (eh : h' = h + 1) (ep : p = pw h.toNatClampNeg) (eq : q = s / p) (ed : d = q - q / 10 * 10) : d = wsF s h'.toNatClampNeg := by
  rw [nxN eh hh (by decide)]
  unfold wsF
  rw [if_neg (by omega), Nat.add_sub_cancel, ed, eq, ep]; rfl
theorem sn_1 {s fog h : Int32} (hh : 0 ≤ h.toInt) (e : h = fog) : 0 = snW s fog h.toNatClampNeg := by unfold snW; rw [nIc hh, if_pos e]
theorem sn_0 {s fog h we x : Int32} (hh : 0 ≤ h.toInt) (e : ¬ h = fog) (ew : we = wsF s h.toNatClampNeg) (ex : x = we - we / 2 * 2) : x = snW s fog h.toNatClampNeg := by unfold snW; rw [nIc hh, if_neg e, ← ew]; exact ex
theorem pw_4 {h : Int32} (hh : iv 0 3 h) : (h = 0 ∨ h = 1 ∨ h = 2 ∨ h = 3) := by
  have h1 := hh.1
  have h2 := hh.2
  have k : h.toInt = 0 ∨ h.toInt = 1 ∨ h.toInt = 2 ∨ h.toInt = 3 := by omega
  rcases k with k | k | k | k
  · exact Or.inl (Int32.toInt_inj.mp (by rw [k]; decide))
  · exact Or.inr (Or.inl (Int32.toInt_inj.mp (by rw [k]; decide)))
  · exact Or.inr (Or.inr (Or.inl (Int32.toInt_inj.mp (by rw [k]; decide))))
  · exact Or.inr (Or.inr (Or.inr (Int32.toInt_inj.mp (by rw [k]; decide))))
theorem bh_r {h al r p m x : Int32} (hh : iv 0 3 h) (ha : 0 ≤ al.toInt) (hl : al.toInt < (pw h.toNatClampNeg).toInt) (hr : iv 0 9 r) (ep : p = pw h.toNatClampNeg) (em : m = r * p) (ex : x = al + m) : iv 0 9999 x ∧ x.toInt < (pw (h + 1).toNatClampNeg).toInt := by
  have r1 := hr.1
  have r2 := hr.2
  have key : ∀ P Q : Int, p.toInt = P → (pw h.toNatClampNeg).toInt = P → (pw (h + 1).toNatClampNeg).toInt = Q → 0 < P → P ≤ 1000 → Q = P * 10 → iv 0 9999 x ∧ x.toInt < (pw (h + 1).toNatClampNeg).toInt := fun P Q a b c d e f => by
    have m0 : r.toInt * P ≤ 9 * P := Int.mul_le_mul_of_nonneg_right r2 (by omega)
    have m1 : 0 ≤ r.toInt * P := Int.mul_nonneg r1 (by omega)
    have m2 : m.toInt = r.toInt * P := by rw [em, Int32.toInt_mul, a, iv_bm (by omega) (by omega)]
    have x2 : x.toInt = al.toInt + m.toInt := by rw [ex, Int32.toInt_add, iv_bm (by omega) (by omega)]
    unfold iv
    omega
  rcases pw_4 hh with z | z | z | z
  · subst z; exact key 1 10 (by rw [ep]; decide) (by decide) (by decide) (by decide) (by decide) (by decide)
  · subst z; exact key 10 100 (by rw [ep]; decide) (by decide) (by decide) (by decide) (by decide) (by decide)
  · subst z; exact key 100 1000 (by rw [ep]; decide) (by decide) (by decide) (by decide) (by decide) (by decide)
  · subst z; exact key 1000 10000 (by rw [ep]; decide) (by decide) (by decide) (by decide) (by decide) (by decide)

def smS (s : Int32) : Nat → Int32
  | 0 => 0
  | k + 1 => smS s k + stW s k
def tbS (s : Int32) : Nat → Int32
  | 0 => 0
  | k + 1 => tbS s k ||| (tkF s k <<< (nI k &&& 31))
theorem sm_s {s h h' u r x : Int32} {a b : Int} (hu : u = smS s h.toNatClampNeg) (hh : iv a b h) (hb : 0 ≤ a ∧ b < 2147483647) (eh : h' = h + 1) (er : r = stW s h.toNatClampNeg) (ex : x = u + r) : x = smS s h'.toNatClampNeg := by
  rw [nxN eh hh hb]
  show x = smS s h.toNatClampNeg + stW s h.toNatClampNeg
  rw [← hu, ← er]; exact ex
theorem tb_s {s h h' u r y x : Int32} {a b : Int} (hu : u = tbS s h.toNatClampNeg) (hh : iv a b h) (hb : 0 ≤ a ∧ b < 2147483647) (eh : h' = h + 1) (er : r = tkF s h.toNatClampNeg) (ey : y = r <<< (h &&& 31)) (ex : x = u ||| y) : x = tbS s h'.toNatClampNeg := by
  rw [nxN eh hh hb]
  show x = tbS s h.toNatClampNeg ||| (tkF s h.toNatClampNeg <<< (nI h.toNatClampNeg &&& 31))
  rw [nIc (by have := hh.1; omega), ← hu, ← er, ← ey]; exact ex
theorem s4_e {F : Nat → Int32} {u h : Int32} (e : u = F h.toNatClampNeg) (h1 : h.toInt = 4) : u = F 4 := by
  rw [e, show h.toNatClampNeg = 4 by have := clampNat (x := h) (by omega); omega]

/-- why wood can't be taken by hand -/
def wyF (h n s : Int32) : Int32 := if h.toInt < 0 ∨ n.toInt ≤ h.toInt then 1 else if stW s h.toNatClampNeg = 0 then 2 else 0
theorem wy_1 {h n s : Int32} (q : h.toInt < 0 ∨ n.toInt ≤ h.toInt) : 1 = wyF h n s := by unfold wyF; rw [if_pos q]
theorem wy_2 {h n s x : Int32} (q : ¬ (h.toInt < 0 ∨ n.toInt ≤ h.toInt)) (ex : x = stW s h.toNatClampNeg) (z : x = 0) : 2 = wyF h n s := by unfold wyF; rw [if_neg q, if_pos (ex.symm.trans z)]
theorem wy_0 {h n s x : Int32} (q : ¬ (h.toInt < 0 ∨ n.toInt ≤ h.toInt)) (ex : x = stW s h.toNatClampNeg) (z : ¬ x = 0) : 0 = wyF h n s := by unfold wyF; rw [if_neg q, if_neg (fun y => z (ex.trans y))]
theorem wy_n {h n s : Int32} (e : 0 = wyF h n s) : ¬ stW s h.toNatClampNeg = 0 := fun z => by
  unfold wyF at e
  split at e
  · exact absurd e (by decide)
  · exact absurd e (by decide)
def thF (s h : Int32) : Int32 := s + ((stW s h.toNatClampNeg - 1) * 2 + 1 - (stW s h.toNatClampNeg * 2 + tkF s h.toNatClampNeg)) * pw h.toNatClampNeg
/-- a division of what isn't less than 0 -/
theorem dv_toInt {x y : Int32} (hx : 0 ≤ x.toInt) (hy : 0 < y.toInt) : (x / y).toInt = x.toInt / y.toInt := by
  obtain ⟨j, hj, e⟩ := nI_of (iv_n0lt (⟨hx, Int.le_refl _⟩ : iv 0 x.toInt x) (Int.le_refl 0))
  have hy2 : ¬ y < 0 := by rw [Int32.lt_iff_toInt_lt, (by decide : (0 : Int32).toInt = 0)]; omega
  obtain ⟨d, hd, e2⟩ := nI_of hy2
  have hd0 : 0 < d := by rw [e2, nI_toInt hd] at hy; omega
  rw [e, e2, pk_div hj hd0 hd, nI_toInt (Nat.lt_of_le_of_lt (Nat.div_le_self _ _) hj), nI_toInt hj, nI_toInt hd]
  exact Int.natCast_ediv j d
theorem rm_toInt {x y : Int32} (hx : 0 ≤ x.toInt) (hy : 0 < y.toInt) : (rmF x y).toInt = x.toInt % y.toInt := by
  obtain ⟨j, hj, e⟩ := nI_of (iv_n0lt (⟨hx, Int.le_refl _⟩ : iv 0 x.toInt x) (Int.le_refl 0))
  have hy2 : ¬ y < 0 := by rw [Int32.lt_iff_toInt_lt, (by decide : (0 : Int32).toInt = 0)]; omega
  obtain ⟨d, hd, e2⟩ := nI_of hy2
  have hd0 : 0 < d := by rw [e2, nI_toInt hd] at hy; omega
  unfold rmF
  rw [e, e2, pk_rem hj hd0 hd]
  have h1 : j % d < d := Nat.mod_lt _ hd0
  rw [nI_toInt (by omega), nI_toInt hj, nI_toInt hd]
  exact Int.natCast_emod j d
theorem pw_v {h : Int32} (hh : iv 0 3 h) : ∃ P : Int, (pw h.toNatClampNeg).toInt = P ∧ (P = 1 ∨ P = 10 ∨ P = 100 ∨ P = 1000) := by
  rcases pw_4 hh with z | z | z | z
  · subst z; exact ⟨1, by decide, by decide⟩
  · subst z; exact ⟨10, by decide, by decide⟩
  · subst z; exact ⟨100, by decide, by decide⟩
  · subst z; exact ⟨1000, by decide, by decide⟩
/-- digits as numbers -/
theorem dg_v {s : Int32} {k : Nat} {P : Int} (hs : 0 ≤ s.toInt) (hP : (pw k).toInt = P) (h0 : 0 < P) : (dgW s k).toInt = s.toInt / P % 10 ∧ (stW s k).toInt = s.toInt / P % 10 / 2 ∧ (tkF s k).toInt = s.toInt / P % 2 := by
  have q : (s / pw k).toInt = s.toInt / P := by rw [dv_toInt hs (by omega), hP]
  have q0 : 0 ≤ (s / pw k).toInt := by rw [q]; exact Int.ediv_nonneg hs (by omega)
  have d1 : (dgW s k).toInt = s.toInt / P % 10 := by unfold dgW; rw [rm_toInt q0 (by decide), q]; rfl
  refine ⟨d1, ?_, by unfold tkF; rw [rm_toInt q0 (by decide), q]; rfl⟩
  unfold stW
  rw [dv_toInt (by rw [d1]; exact Int.emod_nonneg _ (by decide)) (by decide), d1]; rfl
theorem th_r {s h x : Int32} (hs : iv 0 9999 s) (hh : iv 0 3 h) (h0 : ¬ stW s h.toNatClampNeg = 0) (e : x = thF s h) : iv 0 9999 x := by
  obtain ⟨P, hP, hc⟩ := pw_v hh
  have s1 := hs.1
  have s2 := hs.2
  obtain ⟨d1, d2, d3⟩ := dg_v (s := s) (k := h.toNatClampNeg) s1 hP (by omega)
  have n0 : ¬ (stW s h.toNatClampNeg).toInt = 0 := fun z => h0 (Int32.toInt_inj.mp z)
  have g0 : 0 ≤ s.toInt / P := Int.ediv_nonneg s1 (by omega)
  have key : ((stW s h.toNatClampNeg - 1) * 2 + 1 - (stW s h.toNatClampNeg * 2 + tkF s h.toNatClampNeg)).toInt = -(1 + (tkF s h.toNatClampNeg).toInt) := by
    generalize eq1 : stW s h.toNatClampNeg = u at d2 n0 ⊢
    generalize eq2 : tkF s h.toNatClampNeg = v at d3 ⊢
    have u1 : 0 ≤ u.toInt ∧ u.toInt ≤ 4 := by omega
    have v1 : 0 ≤ v.toInt ∧ v.toInt ≤ 1 := by omega
    have a1 : (u - 1).toInt = u.toInt - 1 := by rw [Int32.toInt_sub, (by decide : (1 : Int32).toInt = 1), iv_bm (by omega) (by omega)]
    have a2 : ((u - 1) * 2).toInt = (u.toInt - 1) * 2 := by rw [Int32.toInt_mul, a1, (by decide : (2 : Int32).toInt = 2), iv_bm (by omega) (by omega)]
    have a3 : ((u - 1) * 2 + 1).toInt = (u.toInt - 1) * 2 + 1 := by rw [Int32.toInt_add, a2, (by decide : (1 : Int32).toInt = 1), iv_bm (by omega) (by omega)]
    have a4 : (u * 2).toInt = u.toInt * 2 := by rw [Int32.toInt_mul, (by decide : (2 : Int32).toInt = 2), iv_bm (by omega) (by omega)]
    have a5 : (u * 2 + v).toInt = u.toInt * 2 + v.toInt := by rw [Int32.toInt_add, a4, iv_bm (by omega) (by omega)]
    rw [Int32.toInt_sub, a3, a5, iv_bm (by omega) (by omega)]; omega
  have t1 : 0 ≤ (tkF s h.toNatClampNeg).toInt ∧ (tkF s h.toNatClampNeg).toInt ≤ 1 := by omega
  have two : 2 ≤ s.toInt / P := by omega
  have mul : (((stW s h.toNatClampNeg - 1) * 2 + 1 - (stW s h.toNatClampNeg * 2 + tkF s h.toNatClampNeg)) * pw h.toNatClampNeg).toInt = -(1 + (tkF s h.toNatClampNeg).toInt) * P := by
    rw [Int32.toInt_mul, key, hP]
    rcases hc with c | c | c | c <;> (rw [c]; exact iv_bm (by omega) (by omega))
  unfold iv
  rw [e]
  unfold thF
  rw [Int32.toInt_add, mul]
  rcases hc with c | c | c | c <;> (rw [c] at two ⊢; rw [iv_bm (by omega) (by omega)]; omega)

theorem dv_1 {x c : Int32} {B : Int} (hx : iv 0 B x) (hB : B ≤ 99) (hc : 48 ≤ c.toInt ∧ c.toInt ≤ 57) : iv 0 (10 * B + 9) (x * 10 + c - 48) := by
  unfold iv at *
  have a1 : (x * 10).toInt = x.toInt * 10 := by rw [Int32.toInt_mul, (by decide : (10 : Int32).toInt = 10), iv_bm (by omega) (by omega)]
  have a2 : (x * 10 + c).toInt = x.toInt * 10 + c.toInt := by rw [Int32.toInt_add, a1, iv_bm (by omega) (by omega)]
  rw [Int32.toInt_sub, a2, (by decide : (48 : Int32).toInt = 48), iv_bm (by omega) (by omega)]; omega
theorem dv_3 {T : Nat → Int32} {p : Int32} : ∀ k : Nat, k ≤ 3 → (∀ j : Nat, j < k → 48 ≤ (T (p + nI j).toNatClampNeg).toInt ∧ (T (p + nI j).toNatClampNeg).toInt ≤ 57) → iv 0 999 (dv T p k) := by
  intro k hk h
  match k, hk, h with
  | 0, _, _ => exact iv_c (0 : Int32) (by decide)
  | 1, _, h => exact iv_w (dv_1 (B := 0) (x := dv T p 0) (iv_c (0 : Int32) (by decide)) (by decide) (h 0 (by omega))) (by decide)
  | 2, _, h => exact iv_w (dv_1 (B := 9) (x := dv T p 1) (iv_w (dv_1 (B := 0) (x := dv T p 0) (iv_c (0 : Int32) (by decide)) (by decide) (h 0 (by omega))) (by decide)) (by decide) (h 1 (by omega))) (by decide)
  | 3, _, h => exact iv_w (dv_1 (B := 99) (x := dv T p 2) (iv_w (dv_1 (B := 9) (x := dv T p 1) (iv_w (dv_1 (B := 0) (x := dv T p 0) (iv_c (0 : Int32) (by decide)) (by decide) (h 0 (by omega))) (by decide)) (by decide) (h 1 (by omega))) (by decide)) (by decide) (h 2 (by omega))) (by decide)
  | k + 4, hk, _ => exact absurd hk (by omega)
theorem vr_999 {f : Nat → Int32} {n p e d r : Int32} (hn : iv 0 900 n) (hp : iv 0 900 p) (he : iv 0 900 e) (hpn : p < n) (hs : e = scF (ltB f n 48 57) 901 p) (hle : p.toInt ≤ e.toInt) (ed : d = e - p) (hd : d ≤ 3) (er : p.toInt ≤ e.toInt → r = dv f p (e - p).toNatClampNeg) : iv 0 999 r := by
  have n2 := hn.2
  have p1 := hp.1
  have e2 := he.2
  have pn := Int32.lt_iff_toInt_lt.mp hpn
  have d0 : (e - p).toInt = e.toInt - p.toInt := by rw [Int32.toInt_sub, iv_bm (by omega) (by omega)]
  have d1 := Int32.le_iff_toInt_le.mp hd
  rw [ed, d0, (by decide : (3 : Int32).toInt = 3)] at d1
  have dc := clampNat (x := e - p) (by omega)
  rw [er hle]
  refine dv_3 _ (by omega) (fun j hj => ?_)
  have e3 : (p + nI j).toInt = p.toInt + j := by rw [Int32.toInt_add, nI_toInt (by omega), iv_bm (by omega) (by omega)]
  have al := scF_all (fun _ q => ltB_lt q) n2 901 p (p + nI j) p1 (by omega) (by omega) (by rw [← hs]; omega)
  have g := ltB_ch al
  have g1 := Int32.le_iff_toInt_le.mp g.1
  have g2 := Int32.le_iff_toInt_le.mp g.2
  rw [(by decide : (48 : Int32).toInt = 48)] at g1
  rw [(by decide : (57 : Int32).toInt = 57)] at g2
  exact ⟨g1, g2⟩

theorem fi_s {f f' : Nat → Int32} {u u' a : Int32} {lo hi : Int} (h : ∀ j : Nat, (j : Int) < u.toInt → f j = a) (hu : iv lo hi u) (hb : 0 ≤ lo ∧ hi < 2147483647) (eu : u' = u + 1) (ef : f' = upd f u.toNatClampNeg a) : ∀ j : Nat, (j : Int) < u'.toInt → f' j = a := fun j hj => by
  have e1 := inc_toInt eu hu (by omega)
  have u1 := hu.1
  have c := clampNat (x := u) (by omega)
  rw [ef]
  by_cases z : j = u.toNatClampNeg
  · rw [z, upd_at]
  · rw [upd_ne z]; exact h j (by omega)

/-- the types on the row (the top first; true: a truth), one code more -/
def tcT (st : List Bool) (c : Int32) : Option (List Bool) :=
  if c < 3000 then (if st.length < 64 then some (false :: st) else none)
  else if c = 3006 then (match st with | true :: r => some (true :: r) | _ => none)
  else if c = 3009 then (match st with | false :: false :: true :: r => some (false :: r) | _ => none)
  else if c = 3007 ∨ c = 3008 then (match st with | true :: true :: r => some (true :: r) | _ => none)
  else if c = 3003 ∨ c = 3004 ∨ c = 3005 then (match st with | false :: false :: r => some (true :: r) | _ => none)
  else (match st with | false :: false :: r => some (false :: r) | _ => none)
def trT : List Bool → List Int32 → Option (List Bool)
  | st, [] => some st
  | st, c :: cs => (tcT st c).bind (fun s => trT s cs)
theorem tc_3000 (st : List Bool) : tcT (false :: false :: st) 3000 = some (false :: st) := by unfold tcT; rw [if_neg (by decide), if_neg (by decide), if_neg (by decide), if_neg (by decide), if_neg (by decide)]
theorem tc_3001 (st : List Bool) : tcT (false :: false :: st) 3001 = some (false :: st) := by unfold tcT; rw [if_neg (by decide), if_neg (by decide), if_neg (by decide), if_neg (by decide), if_neg (by decide)]
theorem tc_3002 (st : List Bool) : tcT (false :: false :: st) 3002 = some (false :: st) := by unfold tcT; rw [if_neg (by decide), if_neg (by decide), if_neg (by decide), if_neg (by decide), if_neg (by decide)]
theorem tc_3003 (st : List Bool) : tcT (false :: false :: st) 3003 = some (true :: st) := by unfold tcT; rw [if_neg (by decide), if_neg (by decide), if_neg (by decide), if_neg (by decide), if_pos (by decide)]
theorem tc_3004 (st : List Bool) : tcT (false :: false :: st) 3004 = some (true :: st) := by unfold tcT; rw [if_neg (by decide), if_neg (by decide), if_neg (by decide), if_neg (by decide), if_pos (by decide)]
theorem tc_3005 (st : List Bool) : tcT (false :: false :: st) 3005 = some (true :: st) := by unfold tcT; rw [if_neg (by decide), if_neg (by decide), if_neg (by decide), if_neg (by decide), if_pos (by decide)]
theorem tc_3006 (st : List Bool) : tcT (true :: st) 3006 = some (true :: st) := by unfold tcT; rw [if_neg (by decide), if_pos (by decide)]
theorem tc_3007 (st : List Bool) : tcT (true :: true :: st) 3007 = some (true :: st) := by unfold tcT; rw [if_neg (by decide), if_neg (by decide), if_neg (by decide), if_pos (by decide)]
theorem tc_3008 (st : List Bool) : tcT (true :: true :: st) 3008 = some (true :: st) := by unfold tcT; rw [if_neg (by decide), if_neg (by decide), if_neg (by decide), if_pos (by decide)]
theorem tc_3009 (st : List Bool) : tcT (false :: false :: true :: st) 3009 = some (false :: st) := by unfold tcT; rw [if_neg (by decide), if_neg (by decide), if_pos (by decide)]
theorem trT_app : ∀ (a b : List Int32) (st : List Bool), trT st (a ++ b) = (trT st a).bind (fun s => trT s b)
  | [], b, st => rfl
  | c :: a, b, st => by
    show (tcT st c).bind (fun s => trT s (a ++ b)) = ((tcT st c).bind (fun s => trT s a)).bind (fun s => trT s b)
    cases tcT st c with
    | none => rfl
    | some s => exact trT_app a b s
/-- what a piece puts: a list that brings one of a type onto the row, not deeper than d -/
def PT_ (b : Bool) (d : Nat) (q q' : Sg) : Prop := q'.1 = 0 → q.1 = 0 ∧ ∃ L : List Int32, q'.2.2.2 = q.2.2.2 ++ L ∧ ∀ st : List Bool, st.length + d ≤ 64 → trT st L = some (b :: st)
/-- what changes no row -/
def PZ (q q' : Sg) : Prop := q'.1 = 0 → q.1 = 0 ∧ q'.2.2.2 = q.2.2.2
theorem PZ_n (X : TX) (q : Sg) : PZ q (nxP X q) := fun h => by
  by_cases w : q.1 = 0
  · refine ⟨w, ?_⟩
    unfold nxP at h ⊢
    rw [if_pos w] at h ⊢
    split
    · next z => rw [if_pos z] at h <;> exact absurd h (by decide)
    · rfl
  · rw [nxP_w w] at h; exact absurd h w
theorem PZ_f (X : TX) {a : Int32} (ha : ¬ a = 0) (q : Sg) : PZ q (flP X a q) := fun h => by
  exfalso
  unfold flP at h
  split at h
  · exact ha h
  · next w => exact w h
theorem PZ_e (X : TX) (k : Int32) (q : Sg) : PZ q (exP X k q) := fun h => by
  unfold exP at h ⊢
  split
  · next z => rw [if_pos z] at h; exact PZ_n X q h
  · next z => rw [if_neg z] at h; exact PZ_f X (by decide) q h
/-- a code behind what was put -/
theorem puP_c {c : Int32} {q : Sg} (h : (puP c q).1 = 0) : q.1 = 0 ∧ (puP c q).2.2.2 = q.2.2.2 ++ [c] := by
  by_cases w : q.1 = 0
  · exact ⟨w, by unfold puP; rw [if_pos w]⟩
  · rw [puP_w w] at h; exact absurd h w
theorem PT_w {b : Bool} {d d' : Nat} {q q' : Sg} (h : PT_ b d q q') (hd : d ≤ d') : PT_ b d' q q' := fun z => by
  obtain ⟨w, L, e, t⟩ := h z
  exact ⟨w, L, e, fun st hs => t st (by omega)⟩
theorem PT_a {b : Bool} {d : Nat} {q q1 q' : Sg} (h : PZ q q1) (g : PT_ b d q1 q') : PT_ b d q q' := fun z => by
  obtain ⟨w, L, e, t⟩ := g z
  obtain ⟨w0, e0⟩ := h w
  exact ⟨w0, L, by rw [e, e0], t⟩
theorem PT_b {b : Bool} {d : Nat} {q q1 q' : Sg} (g : PT_ b d q q1) (h : PZ q1 q') : PT_ b d q q' := fun z => by
  obtain ⟨w1, e1⟩ := h z
  obtain ⟨w, L, e, t⟩ := g w1
  exact ⟨w, L, by rw [e1, e], t⟩
/-- two pieces and the code of both -/
theorem PT_2 {b b' : Bool} {d : Nat} {c : Int32} {q q1 q2 : Sg} (g : PT_ b d q q1) (h : PT_ b d q1 q2) (hc : ∀ st : List Bool, tcT (b :: b :: st) c = some (b' :: st)) : PT_ b' (d + 1) q (puP c q2) := fun z => by
  obtain ⟨w2, e2⟩ := puP_c z
  obtain ⟨w1, L1, e1, t1⟩ := h w2
  obtain ⟨w, L, e, t⟩ := g w1
  refine ⟨w, L ++ (L1 ++ [c]), by rw [e2, e1, e, List.append_assoc, List.append_assoc], fun st hs => ?_⟩
  rw [trT_app, t st (by omega)]
  show trT (b :: st) (L1 ++ [c]) = _
  rw [trT_app, t1 (b :: st) (by rw [List.length_cons]; omega)]
  show (tcT (b :: b :: st) c).bind (fun s => trT s []) = _
  rw [hc]; rfl
theorem PT_1 {b b' : Bool} {d : Nat} {c : Int32} {q q1 : Sg} (g : PT_ b d q q1) (hc : ∀ st : List Bool, tcT (b :: st) c = some (b' :: st)) : PT_ b' d q (puP c q1) := fun z => by
  obtain ⟨w1, e1⟩ := puP_c z
  obtain ⟨w, L, e, t⟩ := g w1
  refine ⟨w, L ++ [c], by rw [e1, e, List.append_assoc], fun st hs => ?_⟩
  rw [trT_app, t st hs]
  show (tcT (b :: st) c).bind (fun s => trT s []) = _
  rw [hc]; rfl
theorem PT_l {c : Int32} (q : Sg) (hc : c < 3000) : PT_ false 1 q (puP c q) := fun z => by
  obtain ⟨w, e⟩ := puP_c z
  refine ⟨w, [c], e, fun st hs => ?_⟩
  show (tcT st c).bind (fun s => trT s []) = _
  have h : tcT st c = some (false :: st) := by unfold tcT; rw [if_pos hc, if_pos (by omega)]
  rw [h]; rfl
/-- a row of pieces, joined one behind another -/
theorem PT_wh {X : TX} {k c : Int32} {b : Bool} {d : Nat} {F : Sg → Sg} (hF : ∀ q, PT_ b d q (F q)) (hc : ∀ st : List Bool, tcT (b :: b :: st) c = some (b :: st)) : ∀ (m : Nat) (q0 q : Sg), PT_ b (d + 1) q0 q → PT_ b (d + 1) q0 (whP X k (fun q => puP c (F q)) m q)
  | 0, _, _, h => h
  | m + 1, q0, q, h => by
    by_cases z : isQ X q k = true
    · rw [whP_1 z]
      refine PT_wh hF hc m q0 _ ?_
      intro y
      obtain ⟨w2, e2⟩ := puP_c y
      obtain ⟨w1, L1, e1, t1⟩ := PT_a (PZ_n X q) (hF (nxP X q)) w2
      obtain ⟨w, L, e, t⟩ := h w1
      refine ⟨w, L ++ (L1 ++ [c]), by rw [e2, e1, e, List.append_assoc, List.append_assoc], fun st hs => ?_⟩
      rw [trT_app, t st hs]
      show trT (b :: st) (L1 ++ [c]) = _
      rw [trT_app, t1 (b :: st) (by rw [List.length_cons]; omega)]
      show (tcT (b :: b :: st) c).bind (fun s => trT s []) = _
      rw [hc]; rfl
    · rw [whP_0 (Bool.eq_false_iff.mpr z)]; exact h
theorem PT_su {X : TX} {d : Nat} {F : Sg → Sg} (hF : ∀ q, PT_ false d q (F q)) : ∀ (m : Nat) (q0 q : Sg), PT_ false (d + 1) q0 q → PT_ false (d + 1) q0 (suP X F m q)
  | 0, _, _, h => h
  | m + 1, q0, q, h => by
    have st_ : ∀ c : Int32, (∀ st : List Bool, tcT (false :: false :: st) c = some (false :: st)) → PT_ false (d + 1) q0 (puP c (F (nxP X q))) := fun c hc y => by
      obtain ⟨w2, e2⟩ := puP_c y
      obtain ⟨w1, L1, e1, t1⟩ := PT_a (PZ_n X q) (hF (nxP X q)) w2
      obtain ⟨w, L, e, t⟩ := h w1
      refine ⟨w, L ++ (L1 ++ [c]), by rw [e2, e1, e, List.append_assoc, List.append_assoc], fun st hs => ?_⟩
      rw [trT_app, t st hs]
      show trT (false :: st) (L1 ++ [c]) = _
      rw [trT_app, t1 (false :: st) (by rw [List.length_cons]; omega)]
      show (tcT (false :: false :: st) c).bind (fun s => trT s []) = _
      rw [hc]; rfl
    by_cases z : isQ X q 32 = true
    · rw [suP_1 z]; exact PT_su hF m q0 _ (st_ 3000 tc_3000)
    · by_cases y : isQ X q 33 = true
      · rw [suP_2 y]; exact PT_su hF m q0 _ (st_ 3001 tc_3001)
      · rw [suP_0 (Bool.eq_false_iff.mpr z) (Bool.eq_false_iff.mpr y)]; exact h
/-- the if of three pieces -/
theorem PT_if {d e D : Nat} {q q1 q2 q3 : Sg} (g : PT_ true e q q1) (h : PT_ false d q1 q2) (k : PT_ false d q2 q3) (h1 : e ≤ D) (h2 : d + 2 ≤ D) : PT_ false D q (puP 3009 q3) := fun z => by
  obtain ⟨w3, e3⟩ := puP_c z
  obtain ⟨w2, L2, e2, t2⟩ := k w3
  obtain ⟨w1, L1, e1, t1⟩ := h w2
  obtain ⟨w, L, e, t⟩ := g w1
  refine ⟨w, L ++ (L1 ++ (L2 ++ [3009])), by rw [e3, e2, e1, e, List.append_assoc, List.append_assoc, List.append_assoc], fun st hs => ?_⟩
  rw [trT_app, t st (by omega)]
  show trT (true :: st) (L1 ++ (L2 ++ [3009])) = _
  rw [trT_app, t1 (true :: st) (by rw [List.length_cons]; omega)]
  show trT (false :: true :: st) (L2 ++ [3009]) = _
  rw [trT_app, t2 (false :: true :: st) (by rw [List.length_cons, List.length_cons]; omega)]
  show (tcT (false :: false :: true :: st) 3009).bind (fun s => trT s []) = _
  rw [tc_3009]; rfl
theorem PT_f {X : TX} {b : Bool} {d : Nat} {a : Int32} (ha : ¬ a = 0) (q : Sg) : PT_ b d q (flP X a q) := fun z => by
  exfalso
  unfold flP at z
  split at z
  · exact ha z
  · next w => exact w z
theorem PT_na (X : TX) (q : Sg) : PT_ false 1 q (naP X q) := by
  unfold naP
  repeat' split
  all_goals first | exact PT_b (PT_l q (by decide)) (PZ_n X _) | exact PT_f (by decide) q
theorem PT_ao {X : TX} (hX : ∀ e, (X e).2.2.2 < 3000) {d e D : Nat} {tr sm : Sg → Sg} (ht : ∀ q, PT_ true e q (tr q)) (hs : ∀ q, PT_ false d q (sm q)) (h1 : e ≤ D) (h2 : d + 2 ≤ D) (full : Bool) (q : Sg) : PT_ false D q (aoP X tr sm full q) := by
  unfold aoP
  split
  · exact PT_w (PT_b (PT_l q (hX _)) (PZ_n X _)) (by omega)
  · split
    · split
      · exact PT_f (X := X) (by decide) q
      · have a1 := PT_a (PZ_n X q) (ht (nxP X q))
        have a2 := PT_a (PZ_e X 14 (tr (nxP X q))) (hs _)
        have a3 := PT_a (PZ_e X 15 (sm (exP X 14 (tr (nxP X q))))) (hs _)
        exact PT_if a1 a2 (PT_b a3 (PZ_e X 16 _)) h1 h2
    · split
      · split
        · exact PT_f (X := X) (by decide) q
        · exact PT_w (PT_b (PT_a (PZ_n X q) (hs (nxP X q))) (PZ_e X 36 _)) (by omega)
      · exact PT_w (PT_na X q) (by omega)
theorem PT_te {X : TX} {d : Nat} {ao : Sg → Sg} (h : ∀ q, PT_ false d q (ao q)) (q : Sg) : PT_ false (d + 1) q (teP X ao q) := PT_wh h tc_3002 900 q (ao q) (PT_w (h q) (by omega))
theorem PT_sm {X : TX} {d : Nat} {te : Sg → Sg} (h : ∀ q, PT_ false d q (te q)) (q : Sg) : PT_ false (d + 1) q (smP X te q) := PT_su h 900 q (te q) (PT_w (h q) (by omega))
theorem PT_bo {X : TX} {d : Nat} {un : Sg → Sg} (h : ∀ q, PT_ true d q (un q)) (q : Sg) : PT_ true (d + 1) q (boP X un q) := PT_wh h tc_3007 900 q (un q) (PT_w (h q) (by omega))
theorem PT_tr {X : TX} {d : Nat} {bo : Sg → Sg} (h : ∀ q, PT_ true d q (bo q)) (q : Sg) : PT_ true (d + 1) q (trP X bo q) := PT_wh h tc_3008 900 q (bo q) (PT_w (h q) (by omega))
theorem PT_ct {X : TX} {d : Nat} {sm : Sg → Sg} (h : ∀ q, PT_ false d q (sm q)) (q : Sg) : PT_ true (d + 1) q (ctP X sm (sm q)) := by
  unfold ctP
  split
  · exact PT_2 (h q) (PT_a (PZ_n X _) (h _)) tc_3003
  · split
    · exact PT_2 (h q) (PT_a (PZ_n X _) (h _)) tc_3004
    · exact PT_2 (h q) (PT_a (PZ_e X 41 _) (h _)) tc_3005
theorem PT_un {X : TX} {d e : Nat} {un tr sm : Sg → Sg} (hu : ∀ q, PT_ true e q (un q)) (ht : ∀ q, PT_ true e q (tr q)) (hs : ∀ q, PT_ false d q (sm q)) (he : e ≤ d + 1) (full : Bool) (q : Sg) : PT_ true (d + 1) q (unP X un tr sm full q) := by
  unfold unP
  split
  · split
    · exact PT_f (by decide) q
    · exact PT_w (PT_1 (PT_a (PZ_n X q) (hu (nxP X q))) tc_3006) he
  · split
    · split
      · exact PT_f (by decide) q
      · exact PT_w (PT_b (PT_a (PZ_n X q) (ht (nxP X q))) (PZ_e X 38 _)) he
    · exact PT_ct hs q
/-- the pieces of laws: well typed, at most so deep -/
theorem PT_all {X : TX} (hX : ∀ e, (X e).2.2.2 < 3000) : ∀ r : Nat, (∀ q, PT_ false (3 + 5 * r) q (suD X r q)) ∧ (∀ q, PT_ true (4 + 5 * r) q (unD X r q)) ∧ (∀ q, PT_ true (6 + 5 * r) q (trD X r q)) := by
  intro r
  induction r with
  | zero =>
    have ao : ∀ q, PT_ false 1 q (aoD X 0 q) := fun q => by
      show PT_ false 1 q (aoP X id id true q)
      unfold aoP
      split
      · exact PT_b (PT_l q (hX _)) (PZ_n X _)
      · split
        · rw [if_pos rfl]; exact PT_f (by decide) q
        · split
          · rw [if_pos rfl]; exact PT_f (by decide) q
          · exact PT_na X q
    have su : ∀ q, PT_ false 3 q (suD X 0 q) := PT_sm (PT_te ao)
    have un : ∀ q, PT_ true 4 q (unD X 0 q) := fun q => by
      show PT_ true 4 q (unP X id id (suD X 0) true q)
      unfold unP
      split
      · rw [if_pos rfl]; exact PT_f (by decide) q
      · split
        · rw [if_pos rfl]; exact PT_f (by decide) q
        · exact PT_ct su q
    refine ⟨su, un, fun q => ?_⟩
    rw [trD_g]; exact PT_tr (PT_bo un) q
  | succ r ih =>
    obtain ⟨s0, u0, t0⟩ := ih
    have ao : ∀ q, PT_ false (1 + 5 * (r + 1)) q (aoD X (r + 1) q) := fun q => by
      rw [aoD_s]
      exact PT_ao hX t0 s0 (by omega) (by omega) false q
    have su : ∀ q, PT_ false (3 + 5 * (r + 1)) q (suD X (r + 1) q) := fun q => PT_w (PT_sm (PT_te ao) q) (by omega)
    have un : ∀ q, PT_ true (4 + 5 * (r + 1)) q (unD X (r + 1) q) := fun q => by
      rw [unD_s]
      exact PT_w (PT_un (d := 3 + 5 * (r + 1)) (e := 6 + 5 * r) (fun q => PT_w (u0 q) (by omega)) t0 su (by omega) false q) (by omega)
    refine ⟨su, un, fun q => ?_⟩
    rw [trD_g]; exact PT_w (PT_tr (PT_bo un) q) (by omega)

def clG (v : Int) : Int := if 1000000 < v then 1000000 else if v < -1000000 then -1000000 else v
/-- between two numbers, as the reference reckons -/
def btF (c a b : Int32) : Int32 := if c = 3003 then (if a = b then 1 else 0) else if c = 3004 then (if a < b then 1 else 0) else if c = 3005 then (if b < a then 1 else 0) else if c = 3007 then a &&& b else if c = 3008 then a ||| b else Int32.ofInt (clG (if c = 3000 then a.toInt + b.toInt else if c = 3001 then a.toInt - b.toInt else a.toInt * b.toInt))
def stV (w : Nat → Int32) (c : Int32) : Int32 := if c < 1000 then c else w (c - 1000).toNatClampNeg

/-- one code more on a row of numbers, the top first -/
def evS (w : Nat → Int32) (V : List Int32) (c : Int32) : List Int32 :=
  if c < 3000 then stV w c :: V
  else if c = 3006 then (match V with | a :: r => (1 - a) :: r | [] => [])
  else if c = 3009 then (match V with | e :: t :: b :: r => (if b = 1 then t else e) :: r | _ => [])
  else (match V with | b :: a :: r => btF c a b :: r | _ => [])
def evL (w : Nat → Int32) : List Int32 → List Int32 → List Int32
  | V, [] => V
  | V, c :: L => evL w (evS w V c) L
/-- numbers of these types: a truth is 0 or 1 -/
def VT : List Bool → List Int32 → Prop
  | [], [] => True
  | b :: st, v :: V => (b = true → v = 0 ∨ v = 1) ∧ VT st V
  | _, _ => False
theorem VT_len : ∀ {st : List Bool} {V : List Int32}, VT st V → st.length = V.length
  | [], [], _ => rfl
  | _ :: st, _ :: V, h => by rw [List.length_cons, List.length_cons, VT_len h.2]
  | [], _ :: _, h => h.elim
  | _ :: _, [], h => h.elim
theorem VT_1 {b : Bool} {st : List Bool} {V : List Int32} (h : VT (b :: st) V) : ∃ v r, V = v :: r ∧ (b = true → v = 0 ∨ v = 1) ∧ VT st r := by
  cases V with
  | nil => exact h.elim
  | cons v r => exact ⟨v, r, rfl, h.1, h.2⟩
theorem bt_01 {c a b : Int32} (hc : c = 3003 ∨ c = 3004 ∨ c = 3005) : btF c a b = 0 ∨ btF c a b = 1 := by
  unfold btF
  rcases hc with h | h | h <;> subst h
  · rw [if_pos rfl]; split
    · exact Or.inr rfl
    · exact Or.inl rfl
  · rw [if_neg (by decide), if_pos rfl]; split
    · exact Or.inr rfl
    · exact Or.inl rfl
  · rw [if_neg (by decide), if_neg (by decide), if_pos rfl]; split
    · exact Or.inr rfl
    · exact Or.inl rfl
theorem bt_and {c a b : Int32} (hc : c = 3007 ∨ c = 3008) (ha : a = 0 ∨ a = 1) (hb : b = 0 ∨ b = 1) : btF c a b = 0 ∨ btF c a b = 1 := by
  rcases hc with h | h <;> rcases ha with i | i <;> rcases hb with j | j <;> (subst h i j; decide)
theorem n1_01 {a : Int32} (h : a = 0 ∨ a = 1) : 1 - a = 0 ∨ 1 - a = 1 := by
  rcases h with h | h <;> (subst h; decide)
/-- a step keeps the types -/
theorem ev_ty {w : Nat → Int32} {st st' : List Bool} {V : List Int32} {c : Int32} (h : tcT st c = some st') (g : VT st V) : VT st' (evS w V c) := by
  unfold tcT at h
  unfold evS
  split at h
  · next z =>
    rw [if_pos z]
    split at h
    · cases h; exact ⟨fun q => absurd q (by decide), g⟩
    · cases h
  · next z =>
    rw [if_neg z]
    split at h
    · next z6 =>
      rw [if_pos z6]
      split at h
      · cases h
        obtain ⟨v, r, e, h1, h2⟩ := VT_1 g
        subst e
        exact ⟨fun _ => n1_01 (h1 rfl), h2⟩
      · cases h
    · next z6 =>
      rw [if_neg z6]
      split at h
      · next z9 =>
        rw [if_pos z9]
        split at h
        · cases h
          obtain ⟨e, r, q, _, g1⟩ := VT_1 g
          subst q
          obtain ⟨t, r, q, _, g2⟩ := VT_1 g1
          subst q
          obtain ⟨b, r, q, _, g3⟩ := VT_1 g2
          subst q
          exact ⟨fun y => absurd y (by decide), g3⟩
        · cases h
      · next z9 =>
        rw [if_neg z9]
        split at h
        · next zc =>
          split at h
          · cases h
            obtain ⟨b, r, q, b1, g1⟩ := VT_1 g
            subst q
            obtain ⟨a, r, q, a1, g2⟩ := VT_1 g1
            subst q
            exact ⟨fun _ => bt_and zc (a1 rfl) (b1 rfl), g2⟩
          · cases h
        · split at h
          · next zc =>
            split at h
            · cases h
              obtain ⟨b, r, q, b1, g1⟩ := VT_1 g
              subst q
              obtain ⟨a, r, q, a1, g2⟩ := VT_1 g1
              subst q
              exact ⟨fun _ => bt_01 zc, g2⟩
            · cases h
          · split at h
            · cases h
              obtain ⟨b, r, q, b1, g1⟩ := VT_1 g
              subst q
              obtain ⟨a, r, q, a1, g2⟩ := VT_1 g1
              subst q
              exact ⟨fun y => absurd y (by decide), g2⟩
            · cases h
theorem evL_ty {w : Nat → Int32} : ∀ {L : List Int32} {st st' : List Bool} {V : List Int32}, trT st L = some st' → VT st V → VT st' (evL w V L)
  | [], st, st', V, h, g => by
    have h : some st = some st' := h
    cases h; exact g
  | c :: L, st, st', V, h, g => by
    have h : (tcT st c).bind (fun s => trT s L) = some st' := h
    cases e : tcT st c with
    | none => rw [e] at h; cases h
    | some s => rw [e] at h; exact evL_ty (L := L) h (ev_ty e g)
/-- a row holds these numbers, the top at its height -/
def RPs (S : Nat → Int32) : List Int32 → Prop
  | [] => True
  | v :: V => S V.length = v ∧ RPs S V
theorem RPs_up {S : Nat → Int32} {p : Nat} {v : Int32} : ∀ {V : List Int32}, RPs S V → V.length ≤ p → RPs (upd S p v) V
  | [], _, _ => trivial
  | x :: V, h, hp => by
    rw [List.length_cons] at hp
    exact ⟨by rw [upd_ne (by omega)]; exact h.1, RPs_up h.2 (by omega)⟩
theorem RPs_pu {S : Nat → Int32} {v : Int32} {V : List Int32} (h : RPs S V) : RPs (upd S V.length v) (v :: V) := ⟨upd_at, RPs_up h (Nat.le_refl _)⟩
/-- the class's coding of the reference's codes -/
def cmF (c : Int32) : Int32 := if c < 3000 then c else if c = 3006 then 1014 else if c = 3007 then 1012 else if c = 3008 then 1013 else if c = 3009 then 1015 else c - 1994
theorem cm_lt {c : Int32} (h : c < 3000) : cmF c = c := by unfold cmF; rw [if_pos h]
theorem toNat_sub {t : Int32} {m k : Nat} (ht : t.toInt = (m : Int)) (hk : k ≤ m) (hm : m ≤ 1000) : (t - nI k).toNatClampNeg = m - k ∧ (t - nI k).toInt = (m : Int) - k := by
  have e : (t - nI k).toInt = (m : Int) - k := by rw [Int32.toInt_sub, nI_toInt (by omega), iv_bm (by omega) (by omega), ht]
  have c := clampNat (x := t - nI k) (by omega)
  exact ⟨by omega, e⟩
theorem toNat_is {t : Int32} {m : Nat} (ht : t.toInt = (m : Int)) : t.toNatClampNeg = m := by
  have c := clampNat (x := t) (by omega)
  omega
theorem clG_i {v : Int64} {i : Int} (h : v.toInt = i) : clL v = Int32.ofInt (clG i) := by
  have a1 : (1000000 : Int64).toInt = 1000000 := by decide
  have a2 : (-1000000 : Int64).toInt = -1000000 := by decide
  unfold clL clG
  by_cases p : 1000000 < v
  · have p' := Int64.lt_iff_toInt_lt.mp p
    rw [a1, h] at p'
    rw [if_pos p, if_pos p']; decide
  · have p' : ¬ 1000000 < i := fun q => p (Int64.lt_iff_toInt_lt.mpr (by rw [a1, h]; exact q))
    rw [if_neg p, if_neg p']
    by_cases q : v < -1000000
    · have q' := Int64.lt_iff_toInt_lt.mp q
      rw [a2, h] at q'
      rw [if_pos q, if_pos q']; decide
    · have q' : ¬ i < -1000000 := fun z => q (Int64.lt_iff_toInt_lt.mpr (by rw [a2, h]; exact z))
      rw [if_neg q, if_neg q']
      apply Int32.toInt_inj.mp
      rw [Int32.toInt_ofInt, Int64.toInt_toInt32, h]
theorem mul_bd {a b : Int} (a1 : -2147483648 ≤ a) (a2 : a ≤ 2147483648) (b1 : -2147483648 ≤ b) (b2 : b ≤ 2147483648) : -4611686018427387904 ≤ a * b ∧ a * b ≤ 4611686018427387904 := by
  have h1 := Int.mul_nonneg (show 0 ≤ 2147483648 - a by omega) (show 0 ≤ 2147483648 + b by omega)
  have h2 := Int.mul_nonneg (show 0 ≤ 2147483648 + a by omega) (show 0 ≤ 2147483648 - b by omega)
  have h3 := Int.mul_nonneg (show 0 ≤ 2147483648 - a by omega) (show 0 ≤ 2147483648 - b by omega)
  have h4 := Int.mul_nonneg (show 0 ≤ 2147483648 + a by omega) (show 0 ≤ 2147483648 + b by omega)
  rw [Int.sub_mul, Int.mul_add, Int.mul_add] at h1
  rw [Int.add_mul, Int.mul_sub, Int.mul_sub] at h2
  rw [Int.sub_mul, Int.mul_sub, Int.mul_sub] at h3
  rw [Int.add_mul, Int.mul_add, Int.mul_add] at h4
  omega
/-- the class's joined as the reference's between -/
theorem jn_bt {c : Int32} {a b : Int32} (hc : c = 3000 ∨ c = 3001 ∨ c = 3002 ∨ c = 3003 ∨ c = 3004 ∨ c = 3005 ∨ (c = 3007 ∨ c = 3008) ∧ (a = 0 ∨ a = 1) ∧ (b = 0 ∨ b = 1)) : jnF (cmF c) a.toInt64 b.toInt64 = btF c a b := by
  have a1 := Int32.toInt_lt a
  have a2 := Int32.le_toInt a
  have b1 := Int32.toInt_lt b
  have b2 := Int32.le_toInt b
  have ea := toI64 (x := a)
  have eb := toI64 (x := b)
  rcases hc with h | h | h | h | h | h | ⟨h, ha, hb⟩
  · subst h
    show clL (a.toInt64 + b.toInt64) = Int32.ofInt (clG (a.toInt + b.toInt))
    exact clG_i (by rw [Int64.toInt_add, ea, eb, Int.bmod_eq_of_le (by omega) (by omega)])
  · subst h
    show clL (a.toInt64 - b.toInt64) = Int32.ofInt (clG (a.toInt - b.toInt))
    exact clG_i (by rw [Int64.toInt_sub, ea, eb, Int.bmod_eq_of_le (by omega) (by omega)])
  · subst h
    show clL (a.toInt64 * b.toInt64) = Int32.ofInt (clG (a.toInt * b.toInt))
    have p := mul_bd (a := a.toInt) (b := b.toInt) (by omega) (by omega) (by omega) (by omega)
    exact clG_i (by rw [Int64.toInt_mul, ea, eb, Int.bmod_eq_of_le (by omega) (by omega)])
  · subst h
    show clL (if a.toInt64 = b.toInt64 then 1 else 0) = (if a = b then 1 else 0)
    by_cases z : a = b
    · subst z; rw [if_pos rfl, if_pos rfl]; decide
    · rw [if_neg (fun q => z (Int32.toInt_inj.mp (by rw [← ea, ← eb, q]))), if_neg z]; decide
  · subst h
    show clL (if a.toInt64 < b.toInt64 then 1 else 0) = (if a < b then 1 else 0)
    by_cases z : a < b
    · rw [if_pos z, if_pos (Int64.lt_iff_toInt_lt.mpr (by rw [ea, eb]; exact Int32.lt_iff_toInt_lt.mp z))]; decide
    · rw [if_neg z, if_neg (fun q => z (Int32.lt_iff_toInt_lt.mpr (by have q2 := Int64.lt_iff_toInt_lt.mp q; rw [ea, eb] at q2; exact q2)))]; decide
  · subst h
    show clL (if b.toInt64 < a.toInt64 then 1 else 0) = (if b < a then 1 else 0)
    by_cases z : b < a
    · rw [if_pos z, if_pos (Int64.lt_iff_toInt_lt.mpr (by rw [ea, eb]; exact Int32.lt_iff_toInt_lt.mp z))]; decide
    · rw [if_neg z, if_neg (fun q => z (Int32.lt_iff_toInt_lt.mpr (by have q2 := Int64.lt_iff_toInt_lt.mp q; rw [ea, eb] at q2; exact q2)))]; decide
  · rcases h with h | h <;> rcases ha with i | i <;> rcases hb with j | j <;> (subst h i j; decide)
/-- codes as they are told -/
def CR (c : Int32) : Prop := 0 ≤ c.toInt ∧ (c.toInt < 1006 ∨ 3000 ≤ c.toInt) ∧ c.toInt ≤ 3009
def J2 (c a b : Int32) : Prop := c = 3000 ∨ c = 3001 ∨ c = 3002 ∨ c = 3003 ∨ c = 3004 ∨ c = 3005 ∨ (c = 3007 ∨ c = 3008) ∧ (a = 0 ∨ a = 1) ∧ (b = 0 ∨ b = 1)
/-- what a code that fits finds on the row -/
theorem ev_c {st st' : List Bool} {V : List Int32} {c : Int32} (h : tcT st c = some st') (g : VT st V) (hc : CR c) : (c < 3000 ∧ st.length < 64) ∨ (c = 3006 ∧ ∃ a r, V = a :: r) ∨ (c = 3009 ∧ ∃ e t b r, V = e :: t :: b :: r ∧ (b = 0 ∨ b = 1)) ∨ (¬ c < 3000 ∧ ¬ c = 3006 ∧ ¬ c = 3009 ∧ ∃ b a r, V = b :: a :: r ∧ J2 c a b) := by
  by_cases z : c < 3000
  · left
    refine ⟨z, ?_⟩
    unfold tcT at h
    rw [if_pos z] at h
    split at h
    · next q => exact q
    · cases h
  · right
    have z' : 3000 ≤ c.toInt := by rw [Int32.lt_iff_toInt_lt, (by decide : (3000 : Int32).toInt = 3000)] at z; omega
    by_cases z6 : c = 3006
    · left
      refine ⟨z6, ?_⟩
      unfold tcT at h; rw [if_neg z, if_pos z6] at h
      split at h
      · obtain ⟨a, r, q, h1, h2⟩ := VT_1 g
        exact ⟨a, r, q⟩
      · cases h
    · right
      by_cases z9 : c = 3009
      · left
        refine ⟨z9, ?_⟩
        unfold tcT at h; rw [if_neg z, if_neg z6, if_pos z9] at h
        split at h
        · obtain ⟨e, r, q, _, g1⟩ := VT_1 g
          subst q
          obtain ⟨t, r, q, _, g2⟩ := VT_1 g1
          subst q
          obtain ⟨b, r, q, hb, g3⟩ := VT_1 g2
          subst q
          exact ⟨e, t, b, r, rfl, hb rfl⟩
        · cases h
      · right
        refine ⟨z, z6, z9, ?_⟩
        unfold tcT at h
        rw [if_neg z, if_neg z6, if_neg z9] at h
        split at h
        · next zc =>
          split at h
          · obtain ⟨b, r, q, hb, g1⟩ := VT_1 g
            obtain ⟨a, r2, q2, ha, g2⟩ := VT_1 g1
            exact ⟨b, a, r2, by rw [q, q2], Or.inr (Or.inr (Or.inr (Or.inr (Or.inr (Or.inr ⟨zc, ha rfl, hb rfl⟩)))))⟩
          · cases h
        · next zn =>
          have rest : ∀ b a r, V = b :: a :: r → ∃ b a r, V = b :: a :: r ∧ J2 c a b := fun b a r q => by
            refine ⟨b, a, r, q, ?_⟩
            have h9 : c.toInt ≤ 3009 := hc.2.2
            have neq : ∀ k : Int32, c ≠ k → c.toInt ≠ k.toInt := fun k hk e => hk (Int32.toInt_inj.mp e)
            have q6 := neq 3006 z6
            have q9 := neq 3009 z9
            have q7 := neq 3007 (fun e => zn (Or.inl e))
            have q8 := neq 3008 (fun e => zn (Or.inr e))
            rw [(by decide : (3006 : Int32).toInt = 3006)] at q6
            rw [(by decide : (3009 : Int32).toInt = 3009)] at q9
            rw [(by decide : (3007 : Int32).toInt = 3007)] at q7
            rw [(by decide : (3008 : Int32).toInt = 3008)] at q8
            have eq : ∀ k : Int32, c.toInt = k.toInt → c = k := fun k e => Int32.toInt_inj.mp e
            have cases6 : c.toInt = 3000 ∨ c.toInt = 3001 ∨ c.toInt = 3002 ∨ c.toInt = 3003 ∨ c.toInt = 3004 ∨ c.toInt = 3005 := by omega
            unfold J2
            rcases cases6 with y | y | y | y | y | y
            · exact Or.inl (eq 3000 y)
            · exact Or.inr (Or.inl (eq 3001 y))
            · exact Or.inr (Or.inr (Or.inl (eq 3002 y)))
            · exact Or.inr (Or.inr (Or.inr (Or.inl (eq 3003 y))))
            · exact Or.inr (Or.inr (Or.inr (Or.inr (Or.inl (eq 3004 y)))))
            · exact Or.inr (Or.inr (Or.inr (Or.inr (Or.inr (Or.inl (eq 3005 y))))))
          split at h
          · split at h
            · obtain ⟨b, r, q, _, g1⟩ := VT_1 g
              obtain ⟨a, r2, q2, _, g2⟩ := VT_1 g1
              exact rest b a r2 (by rw [q, q2])
            · cases h
          · split at h
            · obtain ⟨b, r, q, _, g1⟩ := VT_1 g
              obtain ⟨a, r2, q2, _, g2⟩ := VT_1 g1
              exact rest b a r2 (by rw [q, q2])
            · cases h
/-- heights -/
theorem t_add (t : Int32) {m : Nat} (k : Int32) (n : Nat) (ht : t.toInt = (m : Int)) (hm : m ≤ 1000) (hk : k.toInt + m = (n : Int)) (hn : n ≤ 1100) : (t + k).toNatClampNeg = n ∧ (t + k).toInt = (n : Int) := by
  have e : (t + k).toInt = (n : Int) := by rw [Int32.toInt_add, ht, iv_bm (by omega) (by omega)]; omega
  exact ⟨toNat_is e, e⟩
theorem t_sub (t : Int32) {m : Nat} (k : Int32) (n : Nat) (ht : t.toInt = (m : Int)) (hm : m ≤ 1000) (hk : (m : Int) - k.toInt = (n : Int)) (hn : n ≤ 1100) : (t - k).toNatClampNeg = n ∧ (t - k).toInt = (n : Int) := by
  have e : (t - k).toInt = (n : Int) := by rw [Int32.toInt_sub, ht, iv_bm (by omega) (by omega)]; omega
  exact ⟨toNat_is e, e⟩
theorem iv_cs (V : List Int32) (v : Int32) : (v :: V).length = V.length + 1 := rfl
/-- one step over rows: a code less than 3000, not, if, two numbers -/
def rkT (w S : Nat → Int32) (t c : Int32) : (Nat → Int32) × Int32 := if c < 3000 then (upd S t.toNatClampNeg (stV w c), t + 1) else if c = 3006 then (upd S (t - 1).toNatClampNeg (1 - S (t - 1).toNatClampNeg), t) else if c = 3009 then (upd S (t + (-2) - 1).toNatClampNeg (if S (t + (-2) - 1).toNatClampNeg = 1 then S (t + (-2)).toNatClampNeg else S (t + (-2) + 1).toNatClampNeg), t + (-2)) else (upd S (t + (-1) - 1).toNatClampNeg (btF c (S (t + (-1) - 1).toNatClampNeg) (S (t + (-1)).toNatClampNeg)), t + (-1))
theorem rk_ev {w S : Nat → Int32} {t c : Int32} {st st' : List Bool} {V : List Int32} (h : tcT st c = some st') (g : VT st V) (hS : RPs S V) (ht : t.toInt = (V.length : Int)) (hl : V.length ≤ 64) (hc : CR c) : RPs (rkT w S t c).1 (evS w V c) ∧ (rkT w S t c).2.toInt = ((evS w V c).length : Int) := by
  rcases ev_c h g hc with ⟨z, _⟩ | ⟨z, a, r, q⟩ | ⟨z, e, tt, b, r, q, hb⟩ | ⟨z, z6, z9, b, a, r, q, hj⟩
  · have e : evS w V c = stV w c :: V := by unfold evS; rw [if_pos z]
    have e2 : rkT w S t c = (upd S t.toNatClampNeg (stV w c), t + 1) := by unfold rkT; rw [if_pos z]
    rw [e, e2, toNat_is ht, iv_cs]
    exact ⟨RPs_pu hS, (t_add t 1 (V.length + 1) ht (by omega) (by rw [(by decide : (1 : Int32).toInt = 1)]; push_cast; omega) (by omega)).2⟩
  · subst z q
    rw [iv_cs] at ht hl
    have i1 := t_sub t 1 r.length ht (by omega) (by rw [(by decide : (1 : Int32).toInt = 1)]; push_cast; omega) (by omega)
    have e2 : rkT w S t 3006 = (upd S (t - 1).toNatClampNeg (1 - S (t - 1).toNatClampNeg), t) := by unfold rkT; rw [if_neg (by decide), if_pos rfl]
    have e : evS w (a :: r) 3006 = (1 - a) :: r := by unfold evS; rw [if_neg (by decide), if_pos rfl]
    rw [e, e2, i1.1, hS.1, iv_cs]
    exact ⟨RPs_pu hS.2, ht⟩
  · subst z q
    rw [iv_cs, iv_cs, iv_cs] at ht hl
    have n2 := t_add t (-2) (r.length + 1) ht (by omega) (by rw [(by decide : (-2 : Int32).toInt = -2)]; push_cast; omega) (by omega)
    have i1 := t_sub (t + (-2)) 1 r.length n2.2 (by omega) (by rw [(by decide : (1 : Int32).toInt = 1)]; push_cast; omega) (by omega)
    have i3 := t_add (t + (-2)) 1 (r.length + 2) n2.2 (by omega) (by rw [(by decide : (1 : Int32).toInt = 1)]; push_cast; omega) (by omega)
    have s1 : S (r.length + 2) = e := hS.1
    have s2 : S (r.length + 1) = tt := hS.2.1
    have s3 : S r.length = b := hS.2.2.1
    have e2 : rkT w S t 3009 = (upd S (t + (-2) - 1).toNatClampNeg (if S (t + (-2) - 1).toNatClampNeg = 1 then S (t + (-2)).toNatClampNeg else S (t + (-2) + 1).toNatClampNeg), t + (-2)) := by unfold rkT; rw [if_neg (by decide), if_neg (by decide), if_pos rfl]
    have e3 : evS w (e :: tt :: b :: r) 3009 = (if b = 1 then tt else e) :: r := by unfold evS; rw [if_neg (by decide), if_neg (by decide), if_pos rfl]
    rw [e3, e2, i1.1, n2.1, i3.1, s1, s2, s3, iv_cs]
    exact ⟨RPs_pu hS.2.2.2, n2.2⟩
  · subst q
    rw [iv_cs, iv_cs] at ht hl
    have e : evS w (b :: a :: r) c = btF c a b :: r := by unfold evS; rw [if_neg z, if_neg z6, if_neg z9]
    have e2 : rkT w S t c = (upd S (t + (-1) - 1).toNatClampNeg (btF c (S (t + (-1) - 1).toNatClampNeg) (S (t + (-1)).toNatClampNeg)), t + (-1)) := by unfold rkT; rw [if_neg z, if_neg z6, if_neg z9]
    have n1 := t_add t (-1) (r.length + 1) ht (by omega) (by rw [(by decide : (-1 : Int32).toInt = -1)]; push_cast; omega) (by omega)
    have i1 := t_sub (t + (-1)) 1 r.length n1.2 (by omega) (by rw [(by decide : (1 : Int32).toInt = 1)]; push_cast; omega) (by omega)
    have s1 : S (r.length + 1) = b := hS.1
    have s2 : S r.length = a := hS.2.1
    rw [e, e2]
    show RPs (upd S (t + (-1) - 1).toNatClampNeg (btF c (S (t + (-1) - 1).toNatClampNeg) (S (t + (-1)).toNatClampNeg))) (btF c a b :: r) ∧ (t + (-1)).toInt = ((btF c a b :: r).length : Int)
    rw [i1.1, n1.1, s1, s2, iv_cs]
    exact ⟨RPs_pu hS.2.2, n1.2⟩
/-- the class's step is the machine's -/
theorem cm_ev {nm S : Nat → Int32} {t c : Int32} {st st' : List Bool} {V : List Int32} (h : tcT st c = some st') (g : VT st V) (hS : RPs S V) (ht : t.toInt = (V.length : Int)) (hl : V.length ≤ 64) (hc : CR c) : ∃ S' t', cmT nm S t (cmF c) = some (S', t') ∧ RPs S' (evS nm V c) ∧ t'.toInt = ((evS nm V c).length : Int) := by
  refine ⟨(rkT nm S t c).1, (rkT nm S t c).2, ?_, rk_ev h g hS ht hl hc⟩
  rcases ev_c h g hc with ⟨z, l64⟩ | ⟨z, a, r, q⟩ | ⟨z, e, tt, b, r, q, hb⟩ | ⟨z, z6, z9, b, a, r, q, hj⟩
  · have z' := Int32.lt_iff_toInt_lt.mp z
    rw [(by decide : (3000 : Int32).toInt = 3000)] at z'
    have e2 : rkT nm S t c = (upd S t.toNatClampNeg (stV nm c), t + 1) := by unfold rkT; rw [if_pos z]
    have hc2 := hc.2.1
    rw [VT_len g] at l64
    rw [e2, cm_lt z]
    unfold cmT
    rw [if_pos (by omega), if_neg (by omega)]
    have : cvF nm c = stV nm c := by
      unfold cvF stV
      have k : (1000 : Int32).toInt = 1000 := by decide
      by_cases y : c < 1000
      · have y' := Int32.lt_iff_toInt_lt.mp y
        rw [k] at y'
        rw [if_pos y, if_pos y']
      · rw [if_neg y, if_neg (fun q => y (Int32.lt_iff_toInt_lt.mpr (by rw [k]; exact q)))]
    rw [this]
  · subst z q
    rw [iv_cs] at ht hl
    have ce : cmF 3006 = 1014 := by decide
    have e2 : rkT nm S t 3006 = (upd S (t - 1).toNatClampNeg (1 - S (t - 1).toNatClampNeg), t) := by unfold rkT; rw [if_neg (by decide), if_pos rfl]
    rw [ce, e2]
    unfold cmT
    rw [if_neg (by decide), if_pos ⟨by decide, by omega⟩]
  · subst z q
    rw [iv_cs, iv_cs, iv_cs] at ht hl
    have n2 := t_add t (-2) (r.length + 1) ht (by omega) (by rw [(by decide : (-2 : Int32).toInt = -2)]; push_cast; omega) (by omega)
    have i1 := t_sub (t + (-2)) 1 r.length n2.2 (by omega) (by rw [(by decide : (1 : Int32).toInt = 1)]; push_cast; omega) (by omega)
    have s3 : S r.length = b := hS.2.2.1
    have ce : cmF 3009 = 1015 := by decide
    have e2 : rkT nm S t 3009 = (upd S (t + (-2) - 1).toNatClampNeg (if S (t + (-2) - 1).toNatClampNeg = 1 then S (t + (-2)).toNatClampNeg else S (t + (-2) + 1).toNatClampNeg), t + (-2)) := by unfold rkT; rw [if_neg (by decide), if_neg (by decide), if_pos rfl]
    rw [ce, e2]
    unfold cmT
    rw [if_neg (by decide), if_neg (fun y => absurd y.1 (by decide)), if_pos ⟨by decide, by omega⟩, i1.1, s3]
    have e : (if b = 0 then S (t + (-2) + 1).toNatClampNeg else S (t + (-2)).toNatClampNeg) = (if b = 1 then S (t + (-2)).toNatClampNeg else S (t + (-2) + 1).toNatClampNeg) := by
      rcases hb with y | y
      · subst y; rw [if_pos rfl, if_neg (by decide)]
      · subst y; rw [if_neg (by decide), if_pos rfl]
    rw [e]
  · subst q
    rw [iv_cs, iv_cs] at ht hl
    have e2 : rkT nm S t c = (upd S (t + (-1) - 1).toNatClampNeg (btF c (S (t + (-1) - 1).toNatClampNeg) (S (t + (-1)).toNatClampNeg)), t + (-1)) := by unfold rkT; rw [if_neg z, if_neg z6, if_neg z9]
    have n1 := t_add t (-1) (r.length + 1) ht (by omega) (by rw [(by decide : (-1 : Int32).toInt = -1)]; push_cast; omega) (by omega)
    have i1 := t_sub (t + (-1)) 1 r.length n1.2 (by omega) (by rw [(by decide : (1 : Int32).toInt = 1)]; push_cast; omega) (by omega)
    have s1 : S (r.length + 1) = b := hS.1
    have s2 : S r.length = a := hS.2.1
    have cg : 1006 ≤ (cmF c).toInt ∧ (cmF c).toInt ≠ 1014 ∧ (cmF c).toInt ≠ 1015 := by
      unfold J2 at hj
      rcases hj with y | y | y | y | y | y | ⟨y | y, -, -⟩ <;> (subst y; decide)
    rw [e2]
    unfold cmT
    rw [if_neg (by omega), if_neg (fun y => cg.2.1 y.1), if_neg (fun y => cg.2.2 y.1), if_pos (by omega), i1.1, n1.1, s1, s2, jn_bt hj]

theorem tc_len {st st' : List Bool} {c : Int32} (h : tcT st c = some st') (hl : st.length ≤ 64) : st'.length ≤ 64 := by
  unfold tcT at h
  repeat' split at h
  all_goals first | (cases h; simp only [List.length_cons] at *; omega) | cases h
theorem evL_app {w : Nat → Int32} : ∀ (A B V : List Int32), evL w V (A ++ B) = evL w (evL w V A) B
  | [], _, _ => rfl
  | c :: A, B, V => evL_app A B (evS w V c)
theorem drop_c {L : List Int32} {k : Nat} (h : k < L.length) : L.drop k = L.getD k 0 :: L.drop (k + 1) ∧ L.take (k + 1) = L.take k ++ [L.getD k 0] := by
  have e : L.getD k 0 = L[k] := by rw [List.getD_eq_getElem?_getD, List.getElem?_eq_getElem h]; rfl
  rw [e]
  exact ⟨List.drop_eq_getElem_cons h, (List.take_append_getElem h).symm⟩
/-- where a row of codes stands behind k of them -/
def AT9 (w : Nat → Int32) (L : List Int32) (fin : List Bool) (S : Nat → Int32) (t : Int32) (k : Nat) : Prop := ∃ st, trT [] (L.take k) = some st ∧ trT st (L.drop k) = some fin ∧ VT st (evL w [] (L.take k)) ∧ RPs S (evL w [] (L.take k)) ∧ t.toInt = ((evL w [] (L.take k)).length : Int) ∧ st.length ≤ 64
theorem AT9_0 {w : Nat → Int32} {L : List Int32} {fin : List Bool} {S : Nat → Int32} (h : trT [] L = some fin) : AT9 w L fin S 0 0 := ⟨[], rfl, h, trivial, trivial, by show (0 : Int32).toInt = 0; decide, by decide⟩
theorem AT9_n {w : Nat → Int32} {L : List Int32} {fin : List Bool} {S : Nat → Int32} {t : Int32} {k : Nat} (hk : k < L.length) (h : AT9 w L fin S t k) : ∃ st st', tcT st (L.getD k 0) = some st' ∧ VT st (evL w [] (L.take k)) ∧ RPs S (evL w [] (L.take k)) ∧ t.toInt = ((evL w [] (L.take k)).length : Int) ∧ (evL w [] (L.take k)).length ≤ 64 ∧ ∀ (S' : Nat → Int32) (t' : Int32), RPs S' (evS w (evL w [] (L.take k)) (L.getD k 0)) → t'.toInt = ((evS w (evL w [] (L.take k)) (L.getD k 0)).length : Int) → AT9 w L fin S' t' (k + 1) := by
  obtain ⟨st, h1, h2, h3, h4, h5, h6⟩ := h
  obtain ⟨d1, d2⟩ := drop_c hk
  rw [d1] at h2
  have h2 : (tcT st (L.getD k 0)).bind (fun s => trT s (L.drop (k + 1))) = some fin := h2
  cases e : tcT st (L.getD k 0) with
  | none => rw [e] at h2; cases h2
  | some st' =>
    rw [e] at h2
    have ev : evL w [] (L.take (k + 1)) = evS w (evL w [] (L.take k)) (L.getD k 0) := by rw [d2, evL_app]; rfl
    refine ⟨st, st', e, h3, h4, h5, by rw [← VT_len h3]; exact h6, fun S' t' g1 g2 => ⟨st', ?_, h2, ?_, ?_, ?_, tc_len e h6⟩⟩
    · rw [d2, trT_app, h1]
      show (tcT st (L.getD k 0)).bind (fun s => trT s []) = _
      rw [e]; rfl
    · rw [ev]; exact ev_ty e h3
    · rw [ev]; exact g1
    · rw [ev]; exact g2
theorem AT9_e {w : Nat → Int32} {L : List Int32} {b : Bool} {S : Nat → Int32} {t : Int32} (h : AT9 w L [b] S t L.length) : evL w [] L = [S 0] ∧ (b = true → S 0 = 0 ∨ S 0 = 1) := by
  obtain ⟨st, h1, h2, h3, h4, h5, h6⟩ := h
  rw [List.take_length] at h1 h3 h4
  rw [List.drop_length] at h2
  have h2 : some st = some [b] := h2
  cases h2
  obtain ⟨v, r, e, v1, v2⟩ := VT_1 h3
  cases r with
  | cons x r => exact v2.elim
  | nil =>
    rw [e] at h4 ⊢
    have h4' : S 0 = v := h4.1
    exact ⟨by rw [h4'], by rw [h4']; exact v1⟩
theorem cm_run {nm sf S0 : Nat → Int32} {b : Nat} {L : List Int32} {fin : List Bool} (ht : trT [] L = some fin) (hsf : ∀ j : Nat, j < L.length → sf (b + j) = cmF (L.getD j 0)) (hc : ∀ j : Nat, j < L.length → CR (L.getD j 0)) : ∀ k : Nat, k ≤ L.length → ∃ S t, cmR nm sf b S0 k = some (S, t) ∧ AT9 nm L fin S t k := by
  intro k
  induction k with
  | zero => intro _; exact ⟨S0, 0, rfl, AT9_0 ht⟩
  | succ k ih =>
    intro hk
    obtain ⟨S, t, e, h⟩ := ih (by omega)
    obtain ⟨st, st', h1, h2, h3, h4, h5, h6⟩ := AT9_n (by omega) h
    obtain ⟨S', t', g1, g2, g3⟩ := cm_ev h1 h2 h3 h4 h5 (hc k (by omega))
    refine ⟨S', t', ?_, h6 S' t' g2 g3⟩
    show cmS nm (cmR nm sf b S0 k) (sf (b + k)) = _
    rw [e, hsf k (by omega)]; exact g1
/-- the class's law tells what the machine does, whatever waits ahead -/
theorem wk_ev {nm sf S0 : Nat → Int32} {b e : Int32} {L : List Int32} {ty : Bool} (hl : e.toInt - b.toInt = (L.length : Int)) (ht : trT [] L = some [ty]) (hsf : ∀ j : Nat, j < L.length → sf (b.toNatClampNeg + j) = cmF (L.getD j 0)) (hc : ∀ j : Nat, j < L.length → CR (L.getD j 0)) : evL nm [] L = [wkV nm sf b e S0] ∧ (ty = true → wkV nm sf b e S0 = 0 ∨ wkV nm sf b e S0 = 1) := by
  obtain ⟨S, t, e1, h⟩ := cm_run (nm := nm) (S0 := S0) ht hsf hc L.length (Nat.le_refl _)
  have k : (e.toInt - b.toInt).toNat = L.length := by omega
  have v : wkV nm sf b e S0 = S 0 := by unfold wkV; rw [k, e1]; rfl
  rw [v]; exact AT9_e h

theorem scF_1 {P : Int32 → Bool} {n : Int} (hP : ∀ j, P j = true → j.toInt < n) (hn : n ≤ 900) {e : Int32} (h0 : 0 ≤ e.toInt) (h : P e = true) : e.toInt < (scF P 901 e).toInt := by
  have h1 := hP e h
  have e1 := inc_toInt (c := e) (c' := e + 1) (a := 0) (b := 900) rfl ⟨h0, by omega⟩ (by decide)
  have e2 : scF P 901 e = scF P 900 (e + 1) := by
    show (if P e = true then scF P 900 (e + 1) else e) = _
    rw [if_pos h]
  have := scF_bd hP hn 900 (e + 1) (by omega) (by omega)
  rw [e2]; omega
/-- tokens go on; their numbers -/
def HX (X : TX) (n : Int) : Prop := ∀ e : Int32, 0 ≤ e.toInt → e.toInt ≤ n → e.toInt ≤ (X e).2.1.toInt ∧ (X e).2.1.toInt ≤ n ∧ (¬ (X e).2.2.1 = 24 → e.toInt < (X e).2.1.toInt)
theorem HX_t {T : Nat → Int32} {n : Int32} (hn : n.toInt ≤ 900) : HX (tkX T n) n.toInt := fun e h0 h1 => by
  rw [tkX_in ⟨h0, h1⟩]
  have p := tkP_bd (T := T) hn ⟨h0, h1⟩
  have q := tkE_bd (T := T) hn ⟨h0, h1⟩
  refine ⟨by show e.toInt ≤ (tkE T n e).toInt; omega, q.2, fun hk => ?_⟩
  have hk : ¬ tkK T n e = 24 := hk
  show e.toInt < (tkE T n e).toInt
  by_cases z : tkP T n e < n
  · have z' := Int32.lt_iff_toInt_lt.mp z
    unfold tkE
    rw [if_pos z]
    by_cases a : 97 ≤ tkC T n e ∧ tkC T n e ≤ 122
    · rw [if_pos a]
      have := scF_1 (P := ltB T n 97 122) (n := n.toInt) (fun _ y => ltB_lt y) hn (e := tkP T n e) (by omega) (ltB_1 z rfl a.1 a.2)
      omega
    · rw [if_neg a]
      by_cases b : 48 ≤ tkC T n e ∧ tkC T n e ≤ 57
      · rw [if_pos b]
        have := scF_1 (P := ltB T n 48 57) (n := n.toInt) (fun _ y => ltB_lt y) hn (e := tkP T n e) (by omega) (ltB_1 z rfl b.1 b.2)
        omega
      · rw [if_neg b]
        have e1 := inc_toInt (c := tkP T n e) (c' := tkP T n e + 1) (a := 0) (b := 900) rfl ⟨by omega, by omega⟩ (by decide)
        omega
  · exact absurd (by unfold tkK; rw [if_neg z]) hk
/-- so much more of the text than of codes -/
def SK9 (n k : Int) (q q' : Sg) : Prop := (q'.1 = 0 → q.1 = 0) ∧ (q'.1 = 0 → 0 ≤ q.2.2.1.toInt → q.2.2.1.toInt ≤ n → (q'.2.2.2.length : Int) + k + q.2.2.1.toInt ≤ (q.2.2.2.length : Int) + q'.2.2.1.toInt ∧ 0 ≤ q'.2.2.1.toInt ∧ q'.2.2.1.toInt ≤ n)
theorem SK9_r {n : Int} (q : Sg) : SK9 n 0 q q := ⟨fun h => h, fun _ h0 h1 => ⟨by omega, h0, h1⟩⟩
theorem SK9_t {n k j : Int} {q q1 q2 : Sg} (h : SK9 n k q q1) (g : SK9 n j q1 q2) : SK9 n (k + j) q q2 := ⟨fun w => h.1 (g.1 w), fun w h0 h1 => by
  have a := h.2 (g.1 w) h0 h1
  have b := g.2 w a.2.1 a.2.2
  exact ⟨by omega, b.2⟩⟩
theorem SK9_w {n k j : Int} {q q1 : Sg} (h : SK9 n k q q1) (g : j ≤ k) : SK9 n j q q1 := ⟨h.1, fun w h0 h1 => by
  have a := h.2 w h0 h1
  exact ⟨by omega, a.2⟩⟩
theorem SK9_n {n : Int} {X : TX} (hX : HX X n) {q : Sg} {K : Int32} (b : isQ X q K = true) (hK : ¬ K = 24) : SK9 n 1 q (nxP X q) := by
  obtain ⟨w, k⟩ := isQ_iff.mp b
  refine ⟨fun _ => w, fun h h0 h1 => ?_⟩
  have t := hX _ h0 h1
  have t3 := t.2.2 (by rw [k]; exact hK)
  unfold nxP at h ⊢
  rw [if_pos w] at h ⊢
  by_cases z : (X (X q.2.2.1).2.1).2.2.1 = 25
  · rw [if_pos z] at h; exact absurd (show (1 : Int32) = 0 from h) (by decide)
  · rw [if_neg z]
    exact ⟨by show (q.2.2.2.length : Int) + 1 + _ ≤ (q.2.2.2.length : Int) + (X q.2.2.1).2.1.toInt; omega, by show 0 ≤ (X q.2.2.1).2.1.toInt; omega, t.2.1⟩
theorem SK9_f {n k : Int} {X : TX} {a : Int32} (ha : ¬ a = 0) (q : Sg) : SK9 n k q (flP X a q) := by
  have d : ¬ (flP X a q).1 = 0 := by
    unfold flP
    split
    · exact ha
    · next w => exact w
  exact ⟨fun h => absurd h d, fun h => absurd h d⟩
theorem SK9_n0 {n : Int} {X : TX} (hX : HX X n) (q : Sg) : SK9 n 0 q (nxP X q) := by
  by_cases w : q.1 = 0
  · refine ⟨fun _ => w, fun h h0 h1 => ?_⟩
    have t := hX _ h0 h1
    unfold nxP at h ⊢
    rw [if_pos w] at h ⊢
    by_cases z : (X (X q.2.2.1).2.1).2.2.1 = 25
    · rw [if_pos z] at h; exact absurd (show (1 : Int32) = 0 from h) (by decide)
    · rw [if_neg z]
      exact ⟨by show (q.2.2.2.length : Int) + 0 + _ ≤ (q.2.2.2.length : Int) + (X q.2.2.1).2.1.toInt; omega, by show 0 ≤ (X q.2.2.1).2.1.toInt; omega, t.2.1⟩
  · have e : nxP X q = q := by unfold nxP; rw [if_neg w]
    rw [e]; exact SK9_r q
theorem fl_n0 {X : TX} {a : Int32} (ha : ¬ a = 0) (q : Sg) : ¬ (flP X a q).1 = 0 := by
  unfold flP
  split
  · exact ha
  · next w => exact w
theorem nv_c {v z : Int32} (e : v = z) (i : iv 0 999 v) : v = cmF z := by
  rw [← e, cm_lt (Int32.lt_iff_toInt_lt.mpr (by have := i.2; rw [(by decide : (3000 : Int32).toInt = 3000)]; omega))]
theorem SK9_p {n : Int} (c : Int32) (q : Sg) : SK9 n (-1) q (puP c q) := by
  refine ⟨fun h => ?_, fun h h0 h1 => ?_⟩
  · unfold puP at h
    split at h
    · exact h
    · exact h
  · unfold puP at h ⊢
    split
    · refine ⟨?_, h0, h1⟩
      show ((q.2.2.2 ++ [c]).length : Int) + -1 + q.2.2.1.toInt ≤ (q.2.2.2.length : Int) + q.2.2.1.toInt
      rw [List.length_append, List.length_singleton]; push_cast; omega
    · exact ⟨by omega, h0, h1⟩
theorem SK9_e {n : Int} {X : TX} (hX : HX X n) {K : Int32} (hK : ¬ K = 24) (q : Sg) : SK9 n 1 q (exP X K q) := by
  unfold exP
  by_cases b : isQ X q K = true
  · rw [if_pos b]; exact SK9_n hX b hK
  · rw [if_neg b]; exact SK9_f (by decide) q
theorem isQ_pu {X : TX} {q : Sg} {K c : Int32} (h : isQ X q K = true) : isQ X (puP c q) K = true := by
  obtain ⟨w, k⟩ := isQ_iff.mp h
  refine isQ_iff.mpr ?_
  unfold puP; rw [if_pos w]; exact ⟨w, k⟩
theorem SK9_u {n : Int} {X : TX} (hX : HX X n) {most : Int32} (q : Sg) : SK9 n 1 q (nuP X most q) := by
  unfold nuP
  by_cases b : isQ X q 23 = true
  · rw [if_pos b]
    split
    · exact SK9_n hX b (by decide)
    · exact SK9_f (by decide) q
  · rw [if_neg b]; exact SK9_f (by decide) q
theorem SK9_pn {n : Int} {X : TX} (hX : HX X n) {q : Sg} {K c : Int32} (b : isQ X q K = true) (hK : ¬ K = 24) : SK9 n 0 q (nxP X (puP c q)) := SK9_t (SK9_p c q) (SK9_n hX (isQ_pu b) hK)
theorem SK9_na {n : Int} {X : TX} (hX : HX X n) (q : Sg) : SK9 n 0 q (naP X q) := by
  unfold naP
  by_cases b2 : isQ X q 2 = true
  · rw [if_pos b2]; exact SK9_pn hX b2 (by decide)
  · rw [if_neg b2]
    by_cases b3 : isQ X q 3 = true
    · rw [if_pos b3]; exact SK9_pn hX b3 (by decide)
    · rw [if_neg b3]
      by_cases b17 : isQ X q 17 = true
      · rw [if_pos b17]; exact SK9_pn hX b17 (by decide)
      · rw [if_neg b17]
        by_cases b18 : isQ X q 18 = true
        · rw [if_pos b18]; exact SK9_pn hX b18 (by decide)
        · rw [if_neg b18]
          by_cases b4 : isQ X q 4 = true
          · rw [if_pos b4]; exact SK9_pn hX b4 (by decide)
          · rw [if_neg b4]
            by_cases b1 : isQ X q 1 = true
            · rw [if_pos b1]; exact SK9_pn hX b1 (by decide)
            · rw [if_neg b1]; exact SK9_f (by decide) q
theorem SK9_ao {n : Int} {X : TX} (hX : HX X n) {tr sm : Sg → Sg} (ht : ∀ q, SK9 n 0 q (tr q)) (hs : ∀ q, SK9 n 0 q (sm q)) (full : Bool) (q : Sg) : SK9 n 0 q (aoP X tr sm full q) := by
  unfold aoP
  by_cases b23 : isQ X q 23 = true
  · rw [if_pos b23]; exact SK9_pn hX b23 (by decide)
  · rw [if_neg b23]
    by_cases b13 : isQ X q 13 = true
    · rw [if_pos b13]
      split
      · exact SK9_f (by decide) q
      · exact SK9_w (SK9_t (SK9_t (SK9_t (SK9_t (SK9_t (SK9_t (SK9_t (SK9_n hX b13 (by decide)) (ht _)) (SK9_e hX (by decide) _)) (hs _)) (SK9_e hX (by decide) _)) (hs _)) (SK9_e hX (by decide) _)) (SK9_p _ _)) (by decide)
    · rw [if_neg b13]
      by_cases b35 : isQ X q 35 = true
      · rw [if_pos b35]
        split
        · exact SK9_f (by decide) q
        · exact SK9_w (SK9_t (SK9_t (SK9_n hX b35 (by decide)) (hs _)) (SK9_e hX (by decide) _)) (by decide)
      · rw [if_neg b35]; exact SK9_na hX q
theorem SK9_wh {n : Int} {X : TX} (hX : HX X n) {k c : Int32} (hk : ¬ k = 24) {F : Sg → Sg} (hF : ∀ q, SK9 n 0 q (F q)) : ∀ (m : Nat) (q0 q : Sg), SK9 n 0 q0 q → SK9 n 0 q0 (whP X k (fun q => puP c (F q)) m q)
  | 0, _, _, h => h
  | m + 1, q0, q, h => by
    by_cases z : isQ X q k = true
    · rw [whP_1 z]
      exact SK9_wh hX hk hF m q0 _ (SK9_w (SK9_t (SK9_t (SK9_t h (SK9_n hX z hk)) (hF _)) (SK9_p c _)) (by decide))
    · rw [whP_0 (Bool.eq_false_iff.mpr z)]; exact h
theorem SK9_su {n : Int} {X : TX} (hX : HX X n) {F : Sg → Sg} (hF : ∀ q, SK9 n 0 q (F q)) : ∀ (m : Nat) (q0 q : Sg), SK9 n 0 q0 q → SK9 n 0 q0 (suP X F m q)
  | 0, _, _, h => h
  | m + 1, q0, q, h => by
    by_cases z : isQ X q 32 = true
    · rw [suP_1 z]
      exact SK9_su hX hF m q0 _ (SK9_w (SK9_t (SK9_t (SK9_t h (SK9_n hX z (by decide))) (hF _)) (SK9_p _ _)) (by decide))
    · by_cases y : isQ X q 33 = true
      · rw [suP_2 y]
        exact SK9_su hX hF m q0 _ (SK9_w (SK9_t (SK9_t (SK9_t h (SK9_n hX y (by decide))) (hF _)) (SK9_p _ _)) (by decide))
      · rw [suP_0 (Bool.eq_false_iff.mpr z) (Bool.eq_false_iff.mpr y)]; exact h
theorem SK9_ct {n : Int} {X : TX} (hX : HX X n) {sm : Sg → Sg} (h : ∀ q, SK9 n 0 q (sm q)) (q : Sg) : SK9 n 0 q (ctP X sm (sm q)) := by
  unfold ctP
  by_cases a : isQ X (sm q) 39 = true
  · rw [if_pos a]; exact SK9_w (SK9_t (SK9_t (SK9_t (h q) (SK9_n hX a (by decide))) (h _)) (SK9_p _ _)) (by decide)
  · rw [if_neg a]
    by_cases b : isQ X (sm q) 40 = true
    · rw [if_pos b]; exact SK9_w (SK9_t (SK9_t (SK9_t (h q) (SK9_n hX b (by decide))) (h _)) (SK9_p _ _)) (by decide)
    · rw [if_neg b]; exact SK9_w (SK9_t (SK9_t (SK9_t (h q) (SK9_e hX (by decide) _)) (h _)) (SK9_p _ _)) (by decide)
theorem SK9_un {n : Int} {X : TX} (hX : HX X n) {un tr sm : Sg → Sg} (hu : ∀ q, SK9 n 0 q (un q)) (ht : ∀ q, SK9 n 0 q (tr q)) (hs : ∀ q, SK9 n 0 q (sm q)) (full : Bool) (q : Sg) : SK9 n 0 q (unP X un tr sm full q) := by
  unfold unP
  by_cases a : isQ X q 21 = true
  · rw [if_pos a]
    split
    · exact SK9_f (by decide) q
    · exact SK9_w (SK9_t (SK9_t (SK9_n hX a (by decide)) (hu _)) (SK9_p _ _)) (by decide)
  · rw [if_neg a]
    by_cases b : isQ X q 37 = true
    · rw [if_pos b]
      split
      · exact SK9_f (by decide) q
      · exact SK9_w (SK9_t (SK9_t (SK9_n hX b (by decide)) (ht _)) (SK9_e hX (by decide) _)) (by decide)
    · rw [if_neg b]; exact SK9_ct hX hs q
theorem SK9_id {n : Int} (q : Sg) : SK9 n 0 q (id q) := SK9_r q
theorem SK9_all {n : Int} {X : TX} (hX : HX X n) : ∀ r : Nat, (∀ q, SK9 n 0 q (aoD X r q)) ∧ (∀ q, SK9 n 0 q (teD X r q)) ∧ (∀ q, SK9 n 0 q (suD X r q)) ∧ (∀ q, SK9 n 0 q (unD X r q)) ∧ (∀ q, SK9 n 0 q (boD X r q)) ∧ (∀ q, SK9 n 0 q (trD X r q)) := by
  have up : ∀ r : Nat, (∀ q, SK9 n 0 q (aoD X r q)) → ((∀ q, SK9 n 0 q (suD X r q)) → ∀ q, SK9 n 0 q (unD X r q)) → (∀ q, SK9 n 0 q (aoD X r q)) ∧ (∀ q, SK9 n 0 q (teD X r q)) ∧ (∀ q, SK9 n 0 q (suD X r q)) ∧ (∀ q, SK9 n 0 q (unD X r q)) ∧ (∀ q, SK9 n 0 q (boD X r q)) ∧ (∀ q, SK9 n 0 q (trD X r q)) := fun r ha hu => by
    have te : ∀ q, SK9 n 0 q (teD X r q) := fun q => SK9_wh hX (by decide) ha 900 q _ (ha q)
    have su : ∀ q, SK9 n 0 q (suD X r q) := fun q => SK9_su hX te 900 q _ (te q)
    have un := hu su
    have bo : ∀ q, SK9 n 0 q (boD X r q) := fun q => SK9_wh hX (by decide) un 900 q _ (un q)
    refine ⟨ha, te, su, un, bo, fun q => ?_⟩
    rw [trD_g]; exact SK9_wh hX (by decide) bo 900 q _ (bo q)
  intro r
  induction r with
  | zero => exact up 0 (fun q => SK9_ao hX SK9_id SK9_id true q) (fun su q => SK9_un hX SK9_id SK9_id su true q)
  | succ r ih =>
    obtain ⟨_, _, s0, u0, _, t0⟩ := ih
    exact up (r + 1) (fun q => by rw [aoD_s]; exact SK9_ao hX t0 s0 false q) (fun su q => by rw [unD_s]; exact SK9_un hX u0 t0 su false q)
/-- enough of the text ahead of the codes -/
def BD (n : Int) (q : Sg) : Prop := q.1 = 0 → 0 ≤ q.2.2.1.toInt ∧ q.2.2.1.toInt ≤ n ∧ (q.2.2.2.length : Int) + 2 ≤ q.2.2.1.toInt
theorem BD_l {n k : Int} {q q' : Sg} (hb : BD n q) (hs : SK9 n k q q') (hk : -1 ≤ k) (hn : n ≤ 900) (w : q'.1 = 0) : q'.2.2.2.length < 900 := by
  obtain ⟨b0, b1, b2⟩ := hb (hs.1 w)
  have := hs.2 w b0 b1
  omega
theorem BD_t {n : Int} {q q' : Sg} (hb : BD n q) (hs : SK9 n 0 q q') : BD n q' := fun w => by
  obtain ⟨b0, b1, b2⟩ := hb (hs.1 w)
  have := hs.2 w b0 b1
  exact ⟨this.2.1, this.2.2, by omega⟩
/-- the class's row of steps -/
def CDc (q : Sg) (sc : Int32) (st : Nat → Int32) : Prop := q.1 = 0 → sc = nI q.2.2.2.length ∧ ∀ j : Nat, j < q.2.2.2.length → st j = cmF (q.2.2.2.getD j 0)
def PU (fa sc : Int32) (st : Nat → Int32) (c sc' : Int32) (st' : Nat → Int32) : Prop := fa = 0 → sc.toInt < 900 → sc' = sc + 1 ∧ st' = upd st sc.toNatClampNeg c
theorem CDc_cg {q q' : Sg} {sc : Int32} {st : Nat → Int32} (e : q' = q) (h : CDc q sc st) : CDc q' sc st := by rw [e]; exact h
/-- what puts no code -/
theorem PZc {q q' : Sg} {sc : Int32} {st : Nat → Int32} (p : PZ q q') (h : CDc q sc st) : CDc q' sc st := fun w => by
  obtain ⟨w0, e⟩ := p w
  rw [e]; exact h w0
theorem PZ_u (X : TX) (most : Int32) (q : Sg) : PZ q (nuP X most q) := fun h => by
  unfold nuP at h ⊢
  by_cases b : isQ X q 23 = true
  · rw [if_pos b] at h ⊢
    by_cases g : (X q.2.2.1).2.2.2 ≤ most
    · rw [if_pos g] at h ⊢; exact PZ_n X q h
    · rw [if_neg g] at h ⊢; exact PZ_f X (by decide) q h
  · rw [if_neg b] at h ⊢; exact PZ_f X (by decide) q h
theorem getD_a {L : List Int32} {c : Int32} {j : Nat} : (L ++ [c]).getD j 0 = if j < L.length then L.getD j 0 else if j = L.length then c else 0 := by
  rw [List.getD_eq_getElem?_getD, List.getD_eq_getElem?_getD]
  by_cases h : j < L.length
  · rw [if_pos h, List.getElem?_append_left h]
  · rw [if_neg h, List.getElem?_append_right (by omega)]
    by_cases e : j = L.length
    · rw [if_pos e, e, Nat.sub_self]; rfl
    · rw [if_neg e, List.getElem?_eq_none (by rw [List.length_singleton]; omega)]; rfl
theorem CDc_pu {n k : Int} {f : Nat → Int32} {m : Int32} {q0 q : Sg} {fa fp ki pl en va sc sc' c cz : Int32} {st st' : Nat → Int32} (h : RC f m q fa fp ki pl en va) (hc : CDc q sc st) (p : PU fa sc st c sc' st') (e : c = cmF cz) (hb : BD n q0) (hs : SK9 n k q0 q) (hk : -1 ≤ k) (hn : n ≤ 900) : CDc (puP cz q) sc' st' := fun w => by
  have w0 : q.1 = 0 := (SK9_p (n := n) cz q).1 w
  obtain ⟨c1, c2⟩ := hc w0
  have l := BD_l hb hs hk hn w0
  have fa0 : fa = 0 := h.1.trans w0
  obtain ⟨p1, p2⟩ := p fa0 (by rw [c1, nI_toInt (by omega)]; omega)
  have pe : (puP cz q).2.2.2 = q.2.2.2 ++ [cz] := by unfold puP; rw [if_pos w0]
  rw [pe, List.length_append, List.length_singleton]
  refine ⟨by rw [p1, c1]; exact nI_add _ 1, fun j hj => ?_⟩
  have ix : sc.toNatClampNeg = q.2.2.2.length := by rw [c1, nI_clamp (by omega)]
  rw [p2, ix, getD_a]
  by_cases y : j < q.2.2.2.length
  · rw [upd_ne (by omega), if_pos y]; exact c2 j y
  · have y2 : j = q.2.2.2.length := by omega
    rw [if_neg y, if_pos y2, y2, upd_at]; exact e
/-- the reference's row of codes -/
def CDz (q : Sg) (f : Nat → Int32) : Prop := q.1 = 0 → f 124 = nI q.2.2.2.length ∧ q.2.2.2.length ≤ 900 ∧ ∀ j : Nat, j < q.2.2.2.length → f (125 + j) = q.2.2.2.getD j 0
theorem CDz_cg {q q' : Sg} {f : Nat → Int32} (e : q' = q) (h : CDz q f) : CDz q' f := by rw [e]; exact h
theorem PZc_z {q q' : Sg} {f : Nat → Int32} (p : PZ q q') (h : CDz q f) : CDz q' f := fun w => by
  obtain ⟨w0, e⟩ := p w
  rw [e]; exact h w0

/-- gap and took of a hill, as they are told last -/
def ghR (X : TX) : Nat → Sg → Int32 → Int32 → Sg × Int32 × Int32
  | 0, q, g, t => (q, g, t)
  | m + 1, q, g, t => if isQ X q 6 = true then ghR X m (nxP X q) g 1 else if isQ X q 5 = true then ghR X m (nuP X 9 (nxP X q)) (X (nxP X q).2.2.1).2.2.2 t else (q, g, t)
theorem ghR_0 {X : TX} {q : Sg} (h : isQ X q 5 = false) (g : isQ X q 6 = false) {a b : Int32} : ∀ m, ghR X m q a b = (q, a, b) := by
  intro m; cases m with
  | zero => rfl
  | succ m => show (if isQ X q 6 = true then _ else if isQ X q 5 = true then _ else (q, a, b)) = (q, a, b); rw [if_neg (ntB _ g), if_neg (ntB _ h)]
theorem ghR_6 {X : TX} {q : Sg} (h : isQ X q 6 = true) {m : Nat} {a b : Int32} : ghR X (m + 1) q a b = ghR X m (nxP X q) a 1 := by
  show (if isQ X q 6 = true then _ else if isQ X q 5 = true then _ else (q, a, b)) = _; rw [if_pos h]
theorem ghR_5 {X : TX} {q : Sg} (g : isQ X q 6 = false) (h : isQ X q 5 = true) {m : Nat} {a b : Int32} : ghR X (m + 1) q a b = ghR X m (nuP X 9 (nxP X q)) (X (nxP X q).2.2.1).2.2.2 b := by
  show (if isQ X q 6 = true then _ else if isQ X q 5 = true then _ else (q, a, b)) = _; rw [if_neg (ntB _ g), if_pos h]
def h2P (X : TX) (q : Sg) : Sg := exP X 3 (nxP X q)
def h4P (X : TX) (q : Sg) : Sg := exP X 4 (nuP X 4 (exP X 3 (nxP X q)))
def hlG (X : TX) (q : Sg) : Sg × Int32 × Int32 := ghR X 900 (nuP X 9 (exP X 4 (nuP X 4 (exP X 3 (nxP X q))))) 1 0
/-- the row behind a hill's line -/
def hlR (X : TX) (q : Sg) (d : Nat → Int32) : Nat → Int32 := upd (upd (upd (upd (upd (upd d ((46 : Int32) + d 1).toNatClampNeg (X (h2P X q).2.2.1).2.2.2) ((10 : Int32) + d 1).toNatClampNeg (X (h4P X q).2.2.1).2.2.2) ((14 : Int32) + d 1).toNatClampNeg (hlG X q).2.1) 50 (if (hlG X q).2.2 = 1 then d 50 ||| ((1 : Int32) <<< (d 1 &&& 31)) else d 50)) (2000 + (d 1).toNatClampNeg) (hlG X q).2.2) 1 (d 1 + 1)
def viR (X : TX) (q : Sg) (d : Nat → Int32) : Nat → Int32 := upd (upd d ((18 : Int32) + d 2).toNatClampNeg (X (exP X 8 (nxP X q)).2.2.1).2.2.2) 2 (d 2 + 1)
def roR (X : TX) (q : Sg) (d : Nat → Int32) : Nat → Int32 := upd (upd (upd (upd d ((22 : Int32) + 3 * d 3).toNatClampNeg (X (nxP X q).2.2.1).2.2.2) ((22 : Int32) + 3 * d 3 + 1).toNatClampNeg (X (nuP X (d 1 - 1) (nxP X q)).2.2.1).2.2.2) ((22 : Int32) + 3 * d 3 + 2).toNatClampNeg (X (exP X 10 (nuP X (d 2 - 1) (nuP X (d 1 - 1) (nxP X q)))).2.2.1).2.2.2) 3 (d 3 + 1)
def tkR (X : TX) (q : Sg) (d : Nat → Int32) : Nat → Int32 := upd (upd (upd d 4 1) 6 (nI (exP X 31 (nxP X q)).2.2.2.length)) 8 (nI (trD X 6 (exP X 31 (nxP X q))).2.2.2.length - nI (exP X 31 (nxP X q)).2.2.2.length)
def adR (X : TX) (q : Sg) (d : Nat → Int32) : Nat → Int32 := upd (upd (upd d 5 1) 7 (nI (exP X 31 (nxP X q)).2.2.2.length)) 9 (nI (suD X 6 (exP X 31 (nxP X q))).2.2.2.length - nI (exP X 31 (nxP X q)).2.2.2.length)
def lnR (X : TX) (q : Sg) (d : Nat → Int32) : Nat → Int32 := if isQ X q 2 = true then hlR X q d else if isQ X q 7 = true then viR X q d else if isQ X q 9 = true then roR X q d else if isQ X q 11 = true then tkR X q d else if isQ X q 12 = true then adR X q d else d
def lpR (X : TX) : Nat → Sg → (Nat → Int32) → Sg × (Nat → Int32)
  | 0, q, d => (q, d)
  | m + 1, q, d => if q.1 = 0 ∧ ¬ (X q.2.2.1).2.2.1 = 24 then lpR X m (exP X 30 (lnP X (q, d)).1) (upd (lnR X q d) 0 (d 0 + 1)) else (q, d)
theorem lpR_0 {X : TX} {q : Sg} {d : Nat → Int32} (h : ¬ (q.1 = 0 ∧ ¬ (X q.2.2.1).2.2.1 = 24)) : ∀ m, lpR X m q d = (q, d) := by
  intro m; cases m with
  | zero => rfl
  | succ m => show (if q.1 = 0 ∧ ¬ (X q.2.2.1).2.2.1 = 24 then _ else (q, d)) = (q, d); rw [if_neg h]
theorem lpR_1 {X : TX} {q : Sg} {d : Nat → Int32} (h : q.1 = 0 ∧ ¬ (X q.2.2.1).2.2.1 = 24) {m : Nat} : lpR X (m + 1) q d = lpR X m (exP X 30 (lnP X (q, d)).1) (upd (lnR X q d) 0 (d 0 + 1)) := by
  show (if q.1 = 0 ∧ ¬ (X q.2.2.1).2.2.1 = 24 then _ else (q, d)) = _; rw [if_pos h]
/-- a text read: the parser's end, the row -/
def txR (X : TX) : Sg × (Nat → Int32) := lpR X 900 (exP X 30 (nuP X 9 (exP X 1 (exP X 0 (q0P X))))) (upd D1 51 (X (exP X 1 (exP X 0 (q0P X))).2.2.1).2.2.2)
-- how far the lines go, and that hills, villages and roads put no code
theorem SK9_gh {n : Int} {X : TX} (hX : HX X n) : ∀ (m : Nat) (q : Sg), SK9 n 0 q (ghP X m q)
  | 0, q => SK9_r q
  | m + 1, q => by
    by_cases b : isQ X q 6 = true
    · rw [ghP_6 b]; exact SK9_w (SK9_t (SK9_n hX b (by decide)) (SK9_gh hX m _)) (by decide)
    · by_cases c : isQ X q 5 = true
      · rw [ghP_5 c]; exact SK9_w (SK9_t (SK9_t (SK9_n hX c (by decide)) (SK9_u hX _)) (SK9_gh hX m _)) (by decide)
      · rw [ghP_0 (Bool.eq_false_iff.mpr c) (Bool.eq_false_iff.mpr b)]; exact SK9_r q
theorem SK9_h4 {n : Int} {X : TX} (hX : HX X n) (q : Sg) : SK9 n 0 q (nuP X 9 (exP X 4 (nuP X 4 (exP X 3 (nxP X q))))) := SK9_w (SK9_t (SK9_t (SK9_t (SK9_t (SK9_n0 hX q) (SK9_e hX (by decide) _)) (SK9_u hX _)) (SK9_e hX (by decide) _)) (SK9_u hX _)) (by decide)
theorem SK9_hl {n : Int} {X : TX} (hX : HX X n) (q : Sg) (d : Nat → Int32) : SK9 n 0 q (hlP X (q, d)).1 := by
  by_cases c : d 1 < 4
  · rw [hlP_11 c]; exact SK9_w (SK9_t (SK9_h4 hX q) (SK9_gh hX 900 _)) (by decide)
  · rw [hlP_4 c]; exact SK9_f (by decide) q
theorem SK9_vi {n : Int} {X : TX} (hX : HX X n) (q : Sg) (d : Nat → Int32) : SK9 n 0 q (viP X (q, d)).1 := by
  by_cases c : d 2 < 4
  · rw [viP_1 c]; exact SK9_w (SK9_t (SK9_t (SK9_n0 hX q) (SK9_e hX (by decide) _)) (SK9_u hX _)) (by decide)
  · rw [viP_4 c]; exact SK9_f (by decide) q
theorem SK9_ro {n : Int} {X : TX} (hX : HX X n) (q : Sg) (d : Nat → Int32) : SK9 n 0 q (roP X (q, d)).1 := by
  by_cases c : d 3 < 8
  · rw [roP_1 c]; exact SK9_w (SK9_t (SK9_t (SK9_t (SK9_t (SK9_n0 hX q) (SK9_u hX _)) (SK9_u hX _)) (SK9_e hX (by decide) _)) (SK9_u hX _)) (by decide)
  · rw [roP_4 c]; exact SK9_f (by decide) q
theorem fst_e {a : Sd} {s : Sg} {d : Nat → Int32} (h : a = (s, d)) : a.1 = s := by rw [h]
theorem SK9_ln {n : Int} {X : TX} (hX : HX X n) (q : Sg) (d : Nat → Int32) : SK9 n 0 q (lnP X (q, d)).1 := by
  by_cases b2 : isQ X q 2 = true
  · have E : lnP X (q, d) = hlP X (q, d) := by unfold lnP; rw [if_pos b2]
    rw [E]; exact SK9_hl hX q d
  by_cases b7 : isQ X q 7 = true
  · have E : lnP X (q, d) = viP X (q, d) := by unfold lnP; rw [if_neg b2, if_pos b7]
    rw [E]; exact SK9_vi hX q d
  by_cases b9 : isQ X q 9 = true
  · have E : lnP X (q, d) = roP X (q, d) := by unfold lnP; rw [if_neg b2, if_neg b7, if_pos b9]
    rw [E]; exact SK9_ro hX q d
  by_cases b11 : isQ X q 11 = true
  · have E : lnP X (q, d) = (trD X 6 (exP X 31 (nxP X q)), d) := by unfold lnP; rw [if_neg b2, if_neg b7, if_neg b9, if_pos b11]
    have E1 : (lnP X (q, d)).1 = trD X 6 (exP X 31 (nxP X q)) := fst_e E
    rw [E1]
    have a := (SK9_all hX 6).2.2.2.2.2 (exP X 31 (nxP X q))
    exact SK9_w (SK9_t (SK9_t (SK9_n0 hX q) (SK9_e (K := 31) hX (by decide) (nxP X q))) a) (by decide)
  by_cases b12 : isQ X q 12 = true
  · have E : lnP X (q, d) = (suD X 6 (exP X 31 (nxP X q)), d) := by unfold lnP; rw [if_neg b2, if_neg b7, if_neg b9, if_neg b11, if_pos b12]
    have E1 : (lnP X (q, d)).1 = suD X 6 (exP X 31 (nxP X q)) := fst_e E
    rw [E1]
    have a := (SK9_all hX 6).2.2.1 (exP X 31 (nxP X q))
    exact SK9_w (SK9_t (SK9_t (SK9_n0 hX q) (SK9_e (K := 31) hX (by decide) (nxP X q))) a) (by decide)
  · have E : lnP X (q, d) = (flP X 2 q, d) := by unfold lnP; rw [if_neg b2, if_neg b7, if_neg b9, if_neg b11, if_neg b12]
    have E1 : (lnP X (q, d)).1 = flP X 2 q := fst_e E
    rw [E1]; exact SK9_f (by decide) q
theorem PZ_r (q : Sg) : PZ q q := fun h => ⟨h, rfl⟩
theorem PZ_tr {q q1 q2 : Sg} (a : PZ q q1) (b : PZ q1 q2) : PZ q q2 := fun h => by
  obtain ⟨b0, b1⟩ := b h
  obtain ⟨a0, a1⟩ := a b0
  exact ⟨a0, b1.trans a1⟩
theorem PZ_gh {X : TX} : ∀ (m : Nat) (q : Sg), PZ q (ghP X m q)
  | 0, q => PZ_r q
  | m + 1, q => by
    by_cases b : isQ X q 6 = true
    · rw [ghP_6 b]; exact PZ_tr (PZ_n X q) (PZ_gh m _)
    · by_cases c : isQ X q 5 = true
      · rw [ghP_5 c]; exact PZ_tr (PZ_tr (PZ_n X q) (PZ_u X 9 _)) (PZ_gh m _)
      · rw [ghP_0 (Bool.eq_false_iff.mpr c) (Bool.eq_false_iff.mpr b)]; exact PZ_r q
theorem PZ_hl (X : TX) (q : Sg) (d : Nat → Int32) : PZ q (hlP X (q, d)).1 := by
  by_cases c : d 1 < 4
  · rw [hlP_11 c]; exact PZ_tr (PZ_tr (PZ_tr (PZ_tr (PZ_tr (PZ_n X q) (PZ_e X 3 _)) (PZ_u X 4 _)) (PZ_e X 4 _)) (PZ_u X 9 _)) (PZ_gh 900 _)
  · rw [hlP_4 c]; exact PZ_f X (by decide) q
theorem PZ_vi (X : TX) (q : Sg) (d : Nat → Int32) : PZ q (viP X (q, d)).1 := by
  by_cases c : d 2 < 4
  · rw [viP_1 c]; exact PZ_tr (PZ_tr (PZ_n X q) (PZ_e X 8 _)) (PZ_u X 9 _)
  · rw [viP_4 c]; exact PZ_f X (by decide) q
theorem PZ_ro (X : TX) (q : Sg) (d : Nat → Int32) : PZ q (roP X (q, d)).1 := by
  by_cases c : d 3 < 8
  · rw [roP_1 c]; exact PZ_tr (PZ_tr (PZ_tr (PZ_tr (PZ_n X q) (PZ_u X _ _)) (PZ_u X _ _)) (PZ_e X 10 _)) (PZ_u X 9 _)
  · rw [roP_4 c]; exact PZ_f X (by decide) q
-- where nothing is wrong behind, nothing was wrong ahead
theorem hl_z {X : TX} {q : Sg} {d : Nat → Int32} (c : d 1 < 4) (z : (hlP X (q, d)).1.1 = 0) : (ghP X 900 (nuP X 9 (exP X 4 (nuP X 4 (exP X 3 (nxP X q)))))).1 = 0 := by rw [hlP_11 c] at z; exact z
theorem hl_s {n : Int} {X : TX} (hX : HX X n) {q : Sg} {d : Nat → Int32} (c : d 1 < 4) (z : (hlP X (q, d)).1.1 = 0) : (nuP X 4 (exP X 3 (nxP X q))).1 = 0 ∧ (nuP X 9 (exP X 4 (nuP X 4 (exP X 3 (nxP X q))))).1 = 0 := by
  have a := (SK9_gh hX 900 _).1 (hl_z c z)
  exact ⟨exP_z ((SK9_u hX (exP X 4 (nuP X 4 (exP X 3 (nxP X q))))).1 a), a⟩
theorem nu_z {X : TX} {m : Int32} {q : Sg} (h : (nuP X m q).1 = 0) : q.1 = 0 := (PZ_u X m q h).1
theorem ro_s {X : TX} {a b : Int32} {q : Sg} (z : (nuP X 9 (exP X 10 (nuP X b (nuP X a (nxP X q))))).1 = 0) : (nuP X a (nxP X q)).1 = 0 ∧ (nuP X b (nuP X a (nxP X q))).1 = 0 := by
  have a1 := exP_z (nu_z z)
  exact ⟨nu_z a1, a1⟩
-- the class's rows
def fsF (d : Nat → Int32) : Nat → Int32
  | 0 => 0
  | k + 1 => fsF d k + (d (46 + k) * 2 + d (2000 + k)) * pw k
def RWc (d : Nat → Int32) (fs : Int32) (fe ga ne rf rt ca : Nat → Int32) : Prop :=
  fs = fsF d (d 1).toNatClampNeg ∧ (∀ j : Nat, (j : Int) < (d 1).toInt → fe j = d (10 + j) ∧ ga j = d (14 + j)) ∧ (∀ j : Nat, (j : Int) < (d 2).toInt → ne j = d (18 + j)) ∧ (∀ j : Nat, (j : Int) < (d 3).toInt → rf j = d (22 + 3 * j) ∧ rt j = d (23 + 3 * j) ∧ ca j = d (24 + 3 * j))
def LWc (d : Nat → Int32) (tb te ab ae fw : Int32) : Prop := (d 4 = 0 ∧ tb = 0 ∧ te = 0 ∨ d 4 = 1 ∧ tb = d 6 ∧ te = d 6 + d 8) ∧ (d 5 = 0 ∧ ab = 0 ∧ ae = 0 ∨ d 5 = 1 ∧ ab = d 7 ∧ ae = d 7 + d 9) ∧ fw = d 51
theorem fsF_c {d d' : Nat → Int32} : ∀ k : Nat, (∀ j : Nat, j < k → d' (46 + j) = d (46 + j) ∧ d' (2000 + j) = d (2000 + j)) → fsF d' k = fsF d k
  | 0, _ => rfl
  | k + 1, h => by
    show fsF d' k + (d' (46 + k) * 2 + d' (2000 + k)) * pw k = fsF d k + (d (46 + k) * 2 + d (2000 + k)) * pw k
    rw [fsF_c k (fun j hj => h j (by omega)), (h k (by omega)).1, (h k (by omega)).2]
theorem ixA {c x : Int32} {n : Nat} {a b : Int} (hc : c.toNatClampNeg = n ∧ 0 ≤ c.toInt ∧ c.toInt ≤ 1000) (h : iv a b x) (g : 0 ≤ a ∧ b ≤ 1000) : (c + x).toNatClampNeg = n + x.toNatClampNeg := by
  obtain ⟨c0, c1, c2⟩ := hc
  unfold iv at h
  have e : (c + x).toInt = c.toInt + x.toInt := by rw [Int32.toInt_add, iv_bm (by omega) (by omega)]
  have k1 := clampNat (x := c + x) (by omega)
  have k2 := clampNat (x := c) (by omega)
  have k3 := clampNat (x := x) (by omega)
  omega
theorem in1 {x : Int32} {a b : Int} (h : iv a b x) (g : 0 ≤ a ∧ b ≤ 1000) : (x + 1).toInt = x.toInt + 1 ∧ (x + 1).toNatClampNeg = x.toNatClampNeg + 1 := by
  have e := inc_toInt (c := x) (c' := x + 1) rfl h (by omega)
  unfold iv at h
  have k1 := clampNat (x := x + 1) (by omega)
  have k3 := clampNat (x := x) (by omega)
  exact ⟨e, by omega⟩
theorem hlR_v {X : TX} {q : Sg} {d : Nat → Int32} (h : iv 0 3 (d 1)) (i : Nat) : hlR X q d i = if i = 1 then d 1 + 1 else if i = 2000 + (d 1).toNatClampNeg then (hlG X q).2.2 else if i = 50 then (if (hlG X q).2.2 = 1 then d 50 ||| ((1 : Int32) <<< (d 1 &&& 31)) else d 50) else if i = 14 + (d 1).toNatClampNeg then (hlG X q).2.1 else if i = 10 + (d 1).toNatClampNeg then (X (h4P X q).2.2.1).2.2.2 else if i = 46 + (d 1).toNatClampNeg then (X (h2P X q).2.2.1).2.2.2 else d i := by
  unfold hlR
  rw [ixA (c := 46) (n := 46) (by decide) h (by decide), ixA (c := 10) (n := 10) (by decide) h (by decide), ixA (c := 14) (n := 14) (by decide) h (by decide)]
  rfl
theorem iv_of3 {x h : Int32} (e : h = x) (i : iv 0 4 h) (c : x < 4) : iv 0 3 x := by
  rw [← e] at c ⊢
  have := Int32.lt_iff_toInt_lt.mp c
  rw [(by decide : (4 : Int32).toInt = 4)] at this
  exact ⟨i.1, by omega⟩
theorem RWc_h {X : TX} {q q8 : Sg} {d : Nat → Int32} {ln hn vn rn fs fs' m a p x st tk v5 gv h' : Int32} {fe fe' ga ga' ne rf rt ca : Nat → Int32} (g : RD q.1 d ln hn vn rn) (w : q.1 = 0) (r : RWc d fs fe ga ne rf rt ca) (c : d 1 < 4) (i1 : iv 0 4 hn) (i2 : iv 0 4 vn) (i3 : iv 0 8 rn) (e2 : st = (X (exP X 3 (nxP X q)).2.2.1).2.2.2) (e4 : v5 = (X (exP X 4 (nuP X 4 (exP X 3 (nxP X q)))).2.2.1).2.2.2) (eg : ghR X 900 (nuP X 9 (exP X 4 (nuP X 4 (exP X 3 (nxP X q))))) 1 0 = (q8, gv, tk)) (em : m = st * 2) (ea : a = m + tk) (ep : p = pw hn.toNatClampNeg) (ex : x = a * p) (ef : fs' = fs + x) (eu : fe' = upd fe hn.toNatClampNeg v5) (hg : ∀ j : Nat, ¬ j = hn.toNatClampNeg → ga' j = ga j) (hv : ga' hn.toNatClampNeg = gv) : RWc (hlR X q d) fs' fe' ga' ne rf rt ca := by
  obtain ⟨_, g1, g2, g3⟩ := g w
  obtain ⟨r0, r1, r2, r3⟩ := r
  have h3 := iv_of3 g1 i1 c
  have v := hlR_v (X := X) (q := q) h3
  have G : hlG X q = (q8, gv, tk) := eg
  rw [G] at v
  have k := clampNat (x := d 1) h3.1
  have hb := h3.2
  rw [g2] at i2
  rw [g3] at i3
  have i2b := i2.2
  have i3b := i3.2
  rw [g1] at ep eu hg hv
  have v1 : hlR X q d 1 = d 1 + 1 := by rw [v, if_pos rfl]
  have v2 : hlR X q d 2 = d 2 := by rw [v, if_neg (by omega), if_neg (by omega), if_neg (by omega), if_neg (by omega), if_neg (by omega), if_neg (by omega)]
  have v3 : hlR X q d 3 = d 3 := by rw [v, if_neg (by omega), if_neg (by omega), if_neg (by omega), if_neg (by omega), if_neg (by omega), if_neg (by omega)]
  obtain ⟨n1, n2⟩ := in1 h3 (by decide)
  refine ⟨?_, fun j hj => ?_, fun j hj => ?_, fun j hj => ?_⟩
  · rw [v1, n2]
    show fs' = fsF (hlR X q d) (d 1).toNatClampNeg + (hlR X q d (46 + (d 1).toNatClampNeg) * 2 + hlR X q d (2000 + (d 1).toNatClampNeg)) * pw (d 1).toNatClampNeg
    rw [fsF_c (d := d) (d' := hlR X q d) _ (fun j hj => ⟨by rw [v, if_neg (by omega), if_neg (by omega), if_neg (by omega), if_neg (by omega), if_neg (by omega), if_neg (by omega)], by rw [v, if_neg (by omega), if_neg (by omega), if_neg (by omega), if_neg (by omega), if_neg (by omega), if_neg (by omega)]⟩)]
    rw [v (46 + (d 1).toNatClampNeg), v (2000 + (d 1).toNatClampNeg), if_neg (by omega), if_neg (by omega), if_neg (by omega), if_neg (by omega), if_neg (by omega), if_pos rfl, if_neg (by omega), if_pos rfl]
    rw [ef, ex, ea, em, ep, r0, e2]; rfl
  · rw [v1, n1] at hj
    by_cases y : j = (d 1).toNatClampNeg
    · refine ⟨?_, ?_⟩
      · rw [v (10 + j), if_neg (by omega), if_neg (by omega), if_neg (by omega), if_neg (by omega), if_pos (by omega), eu, y, upd_at]; exact e4
      · rw [v (14 + j), if_neg (by omega), if_neg (by omega), if_neg (by omega), if_pos (by omega), y]; exact hv
    · refine ⟨?_, ?_⟩
      · rw [v (10 + j), if_neg (by omega), if_neg (by omega), if_neg (by omega), if_neg (by omega), if_neg (by omega), if_neg (by omega), eu, upd_ne y]; exact (r1 j (by omega)).1
      · rw [v (14 + j), if_neg (by omega), if_neg (by omega), if_neg (by omega), if_neg (by omega), if_neg (by omega), if_neg (by omega), hg j y]; exact (r1 j (by omega)).2
  · rw [v2] at hj
    rw [v (18 + j), if_neg (by omega), if_neg (by omega), if_neg (by omega), if_neg (by omega), if_neg (by omega), if_neg (by omega)]
    exact r2 j hj
  · rw [v3] at hj
    rw [v (22 + 3 * j), v (23 + 3 * j), v (24 + 3 * j)]
    refine ⟨?_, ?_, ?_⟩ <;> (rw [if_neg (by omega), if_neg (by omega), if_neg (by omega), if_neg (by omega), if_neg (by omega), if_neg (by omega)])
    · exact (r3 j hj).1
    · exact (r3 j hj).2.1
    · exact (r3 j hj).2.2
theorem viR_v {X : TX} {q : Sg} {d : Nat → Int32} (h : iv 0 3 (d 2)) (i : Nat) : viR X q d i = if i = 2 then d 2 + 1 else if i = 18 + (d 2).toNatClampNeg then (X (exP X 8 (nxP X q)).2.2.1).2.2.2 else d i := by
  unfold viR
  rw [ixA (c := 18) (n := 18) (by decide) h (by decide)]
  rfl
theorem RWc_v {X : TX} {q : Sg} {d : Nat → Int32} {ln hn vn rn fs v5 v' : Int32} {fe ga ne ne' rf rt ca : Nat → Int32} (g : RD q.1 d ln hn vn rn) (w : q.1 = 0) (r : RWc d fs fe ga ne rf rt ca) (c : d 2 < 4) (i1 : iv 0 4 hn) (i2 : iv 0 4 vn) (i3 : iv 0 8 rn) (e : v5 = (X (exP X 8 (nxP X q)).2.2.1).2.2.2) (eu : ne' = upd ne vn.toNatClampNeg v5) (_ : v' = vn + 1) : RWc (viR X q d) fs fe ga ne' rf rt ca := by
  obtain ⟨_, g1, g2, g3⟩ := g w
  obtain ⟨r0, r1, r2, r3⟩ := r
  have h3 := iv_of3 g2 i2 c
  have v := viR_v (X := X) (q := q) h3
  have k := clampNat (x := d 2) h3.1
  have hb := h3.2
  rw [g1] at i1
  rw [g3] at i3
  have i1b := i1.2
  have i10 := i1.1
  have i3b := i3.2
  have k1 := clampNat (x := d 1) i10
  rw [g2] at eu
  have v1 : viR X q d 1 = d 1 := by rw [v, if_neg (by omega), if_neg (by omega)]
  have v2 : viR X q d 2 = d 2 + 1 := by rw [v, if_pos rfl]
  have v3 : viR X q d 3 = d 3 := by rw [v, if_neg (by omega), if_neg (by omega)]
  obtain ⟨n1, n2⟩ := in1 h3 (by decide)
  refine ⟨?_, fun j hj => ?_, fun j hj => ?_, fun j hj => ?_⟩
  · rw [v1, fsF_c (d := d) (d' := viR X q d) _ (fun j hj => ⟨by rw [v, if_neg (by omega), if_neg (by omega)], by rw [v, if_neg (by omega), if_neg (by omega)]⟩)]; exact r0
  · rw [v1] at hj
    refine ⟨?_, ?_⟩
    · rw [v (10 + j), if_neg (by omega), if_neg (by omega)]; exact (r1 j hj).1
    · rw [v (14 + j), if_neg (by omega), if_neg (by omega)]; exact (r1 j hj).2
  · rw [v2, n1] at hj
    by_cases y : j = (d 2).toNatClampNeg
    · rw [v (18 + j), if_neg (by omega), if_pos (by omega), eu, y, upd_at]; exact e
    · rw [v (18 + j), if_neg (by omega), if_neg (by omega), eu, upd_ne y]; exact r2 j (by omega)
  · rw [v3] at hj
    refine ⟨?_, ?_, ?_⟩
    · rw [v (22 + 3 * j), if_neg (by omega), if_neg (by omega)]; exact (r3 j hj).1
    · rw [v (23 + 3 * j), if_neg (by omega), if_neg (by omega)]; exact (r3 j hj).2.1
    · rw [v (24 + 3 * j), if_neg (by omega), if_neg (by omega)]; exact (r3 j hj).2.2
theorem ix3 {x : Int32} (h : iv 0 7 x) : ((22 : Int32) + 3 * x).toNatClampNeg = 22 + 3 * x.toNatClampNeg ∧ ((22 : Int32) + 3 * x + 1).toNatClampNeg = 23 + 3 * x.toNatClampNeg ∧ ((22 : Int32) + 3 * x + 2).toNatClampNeg = 24 + 3 * x.toNatClampNeg := by
  unfold iv at h
  have k : (x = 0 ∨ x = 1 ∨ x = 2 ∨ x = 3 ∨ x = 4 ∨ x = 5 ∨ x = 6 ∨ x = 7) := by
    have : x.toInt = 0 ∨ x.toInt = 1 ∨ x.toInt = 2 ∨ x.toInt = 3 ∨ x.toInt = 4 ∨ x.toInt = 5 ∨ x.toInt = 6 ∨ x.toInt = 7 := by omega
    rcases this with e | e | e | e | e | e | e | e
    · exact Or.inl (Int32.toInt_inj.mp (e.trans (by decide)))
    · exact Or.inr (Or.inl (Int32.toInt_inj.mp (e.trans (by decide))))
    · exact Or.inr (Or.inr (Or.inl (Int32.toInt_inj.mp (e.trans (by decide)))))
    · exact Or.inr (Or.inr (Or.inr (Or.inl (Int32.toInt_inj.mp (e.trans (by decide))))))
    · exact Or.inr (Or.inr (Or.inr (Or.inr (Or.inl (Int32.toInt_inj.mp (e.trans (by decide)))))))
    · exact Or.inr (Or.inr (Or.inr (Or.inr (Or.inr (Or.inl (Int32.toInt_inj.mp (e.trans (by decide))))))))
    · exact Or.inr (Or.inr (Or.inr (Or.inr (Or.inr (Or.inr (Or.inl (Int32.toInt_inj.mp (e.trans (by decide)))))))))
    · exact Or.inr (Or.inr (Or.inr (Or.inr (Or.inr (Or.inr (Or.inr (Int32.toInt_inj.mp (e.trans (by decide)))))))))
  rcases k with rfl | rfl | rfl | rfl | rfl | rfl | rfl | rfl <;> decide
theorem iv_of7 {x h : Int32} (e : h = x) (i : iv 0 8 h) (c : x < 8) : iv 0 7 x := by
  rw [← e] at c ⊢
  have := Int32.lt_iff_toInt_lt.mp c
  rw [(by decide : (8 : Int32).toInt = 8)] at this
  exact ⟨i.1, by omega⟩
theorem roR_v {X : TX} {q : Sg} {d : Nat → Int32} (h : iv 0 7 (d 3)) (i : Nat) : roR X q d i = if i = 3 then d 3 + 1 else if i = 24 + 3 * (d 3).toNatClampNeg then (X (exP X 10 (nuP X (d 2 - 1) (nuP X (d 1 - 1) (nxP X q)))).2.2.1).2.2.2 else if i = 23 + 3 * (d 3).toNatClampNeg then (X (nuP X (d 1 - 1) (nxP X q)).2.2.1).2.2.2 else if i = 22 + 3 * (d 3).toNatClampNeg then (X (nxP X q).2.2.1).2.2.2 else d i := by
  unfold roR
  rw [(ix3 h).1, (ix3 h).2.1, (ix3 h).2.2]
  rfl
theorem RWc_r {X : TX} {q : Sg} {d : Nat → Int32} {ln hn vn rn fs x1 x2 x3 r' : Int32} {fe ga ne rf rt ca rf' rt' ca' : Nat → Int32} (g : RD q.1 d ln hn vn rn) (w : q.1 = 0) (r : RWc d fs fe ga ne rf rt ca) (c : d 3 < 8) (i1 : iv 0 4 hn) (i2 : iv 0 4 vn) (i3 : iv 0 8 rn) (e1 : x1 = (X (nxP X q).2.2.1).2.2.2) (e2 : x2 = (X (nuP X (d 1 - 1) (nxP X q)).2.2.1).2.2.2) (e3 : x3 = (X (exP X 10 (nuP X (d 2 - 1) (nuP X (d 1 - 1) (nxP X q)))).2.2.1).2.2.2) (u1 : rf' = upd rf rn.toNatClampNeg x1) (u2 : rt' = upd rt rn.toNatClampNeg x2) (u3 : ca' = upd ca rn.toNatClampNeg x3) (_ : r' = rn + 1) : RWc (roR X q d) fs fe ga ne rf' rt' ca' := by
  obtain ⟨_, g1, g2, g3⟩ := g w
  obtain ⟨r0, r1, r2, r3⟩ := r
  have h3 := iv_of7 g3 i3 c
  have v := roR_v (X := X) (q := q) h3
  have k := clampNat (x := d 3) h3.1
  have hb := h3.2
  rw [g1] at i1
  rw [g2] at i2
  have i1b := i1.2
  have i10 := i1.1
  have i2b := i2.2
  have k1 := clampNat (x := d 1) i10
  rw [g3] at u1 u2 u3
  have v1 : roR X q d 1 = d 1 := by rw [v, if_neg (by omega), if_neg (by omega), if_neg (by omega), if_neg (by omega)]
  have v2 : roR X q d 2 = d 2 := by rw [v, if_neg (by omega), if_neg (by omega), if_neg (by omega), if_neg (by omega)]
  have v3 : roR X q d 3 = d 3 + 1 := by rw [v, if_pos rfl]
  obtain ⟨n1, n2⟩ := in1 h3 (by decide)
  refine ⟨?_, fun j hj => ?_, fun j hj => ?_, fun j hj => ?_⟩
  · rw [v1, fsF_c (d := d) (d' := roR X q d) _ (fun j hj => ⟨by rw [v, if_neg (by omega), if_neg (by omega), if_neg (by omega), if_neg (by omega)], by rw [v, if_neg (by omega), if_neg (by omega), if_neg (by omega), if_neg (by omega)]⟩)]; exact r0
  · rw [v1] at hj
    refine ⟨?_, ?_⟩
    · rw [v (10 + j), if_neg (by omega), if_neg (by omega), if_neg (by omega), if_neg (by omega)]; exact (r1 j hj).1
    · rw [v (14 + j), if_neg (by omega), if_neg (by omega), if_neg (by omega), if_neg (by omega)]; exact (r1 j hj).2
  · rw [v2] at hj
    rw [v (18 + j), if_neg (by omega), if_neg (by omega), if_neg (by omega), if_neg (by omega)]; exact r2 j hj
  · rw [v3, n1] at hj
    by_cases y : j = (d 3).toNatClampNeg
    · refine ⟨?_, ?_, ?_⟩
      · rw [v (22 + 3 * j), if_neg (by omega), if_neg (by omega), if_neg (by omega), if_pos (by omega), u1, y, upd_at]; exact e1
      · rw [v (23 + 3 * j), if_neg (by omega), if_neg (by omega), if_pos (by omega), u2, y, upd_at]; exact e2
      · rw [v (24 + 3 * j), if_neg (by omega), if_pos (by omega), u3, y, upd_at]; exact e3
    · refine ⟨?_, ?_, ?_⟩
      · rw [v (22 + 3 * j), if_neg (by omega), if_neg (by omega), if_neg (by omega), if_neg (by omega), u1, upd_ne y]; exact (r3 j (by omega)).1
      · rw [v (23 + 3 * j), if_neg (by omega), if_neg (by omega), if_neg (by omega), if_neg (by omega), u2, upd_ne y]; exact (r3 j (by omega)).2.1
      · rw [v (24 + 3 * j), if_neg (by omega), if_neg (by omega), if_neg (by omega), if_neg (by omega), u3, upd_ne y]; exact (r3 j (by omega)).2.2
/-- what touches none of the rows -/
theorem RWc_same {d d' : Nat → Int32} {fs : Int32} {fe ga ne rf rt ca : Nat → Int32} (h : ∀ j : Nat, (1 ≤ j ∧ j ≤ 3) ∨ 10 ≤ j → d' j = d j) (r : RWc d fs fe ga ne rf rt ca) : RWc d' fs fe ga ne rf rt ca := by
  obtain ⟨r0, r1, r2, r3⟩ := r
  have e1 := h 1 (by omega)
  have e2 := h 2 (by omega)
  have e3 := h 3 (by omega)
  refine ⟨?_, fun j hj => ?_, fun j hj => ?_, fun j hj => ?_⟩
  · rw [e1, fsF_c (d := d) (d' := d') _ (fun j hj => ⟨h _ (by omega), h _ (by omega)⟩)]; exact r0
  · rw [e1] at hj; rw [h (10 + j) (by omega), h (14 + j) (by omega)]; exact r1 j hj
  · rw [e2] at hj; rw [h (18 + j) (by omega)]; exact r2 j hj
  · rw [e3] at hj; rw [h (22 + 3 * j) (by omega), h (23 + 3 * j) (by omega), h (24 + 3 * j) (by omega)]; exact r3 j hj
theorem tkR_v {X : TX} {q : Sg} {d : Nat → Int32} (i : Nat) : tkR X q d i = if i = 8 then nI (trD X 6 (exP X 31 (nxP X q))).2.2.2.length - nI (exP X 31 (nxP X q)).2.2.2.length else if i = 6 then nI (exP X 31 (nxP X q)).2.2.2.length else if i = 4 then 1 else d i := by
  unfold tkR; rfl
theorem adR_v {X : TX} {q : Sg} {d : Nat → Int32} (i : Nat) : adR X q d i = if i = 9 then nI (suD X 6 (exP X 31 (nxP X q))).2.2.2.length - nI (exP X 31 (nxP X q)).2.2.2.length else if i = 7 then nI (exP X 31 (nxP X q)).2.2.2.length else if i = 5 then 1 else d i := by
  unfold adR; rfl
theorem RWc_tk {X : TX} {q : Sg} {d : Nat → Int32} {fs : Int32} {fe ga ne rf rt ca : Nat → Int32} (r : RWc d fs fe ga ne rf rt ca) : RWc (tkR X q d) fs fe ga ne rf rt ca := RWc_same (fun j hj => by rw [tkR_v, if_neg (by omega), if_neg (by omega), if_neg (by omega)]) r
theorem RWc_ad {X : TX} {q : Sg} {d : Nat → Int32} {fs : Int32} {fe ga ne rf rt ca : Nat → Int32} (r : RWc d fs fe ga ne rf rt ca) : RWc (adR X q d) fs fe ga ne rf rt ca := RWc_same (fun j hj => by rw [adR_v, if_neg (by omega), if_neg (by omega), if_neg (by omega)]) r
theorem ad_sb (a b : Int32) : b = a + (b - a) := by rw [Int32.add_comm, Int32.sub_add_cancel]
theorem LWc_t {X : TX} {q : Sg} {d : Nat → Int32} {tb te ab ae fw sc sc' : Int32} {st st' : Nat → Int32} (c1 : CDc (exP X 31 (nxP X q)) sc st) (c2 : CDc (trD X 6 (exP X 31 (nxP X q))) sc' st') (l : LWc d tb te ab ae fw) (z : (trD X 6 (exP X 31 (nxP X q))).1 = 0) (z1 : (exP X 31 (nxP X q)).1 = 0) : LWc (tkR X q d) sc sc' ab ae fw := by
  obtain ⟨_, l2, l3⟩ := l
  refine ⟨Or.inr ⟨?_, ?_, ?_⟩, ?_, ?_⟩
  · rw [tkR_v, if_neg (by decide), if_neg (by decide), if_pos rfl]
  · rw [tkR_v, if_neg (by decide), if_pos rfl]; exact (c1 z1).1
  · rw [tkR_v, if_neg (by decide), if_pos rfl, tkR_v, if_pos rfl]; exact (c2 z).1.trans (ad_sb _ _)
  · rw [tkR_v 5, tkR_v 7, tkR_v 9]
    rw [if_neg (by decide), if_neg (by decide), if_neg (by decide), if_neg (by decide), if_neg (by decide), if_neg (by decide), if_neg (by decide), if_neg (by decide), if_neg (by decide)]; exact l2
  · rw [tkR_v, if_neg (by decide), if_neg (by decide), if_neg (by decide)]; exact l3
theorem LWc_a {X : TX} {q : Sg} {d : Nat → Int32} {tb te ab ae fw sc sc' : Int32} {st st' : Nat → Int32} (c1 : CDc (exP X 31 (nxP X q)) sc st) (c2 : CDc (suD X 6 (exP X 31 (nxP X q))) sc' st') (l : LWc d tb te ab ae fw) (z : (suD X 6 (exP X 31 (nxP X q))).1 = 0) (z1 : (exP X 31 (nxP X q)).1 = 0) : LWc (adR X q d) tb te sc sc' fw := by
  obtain ⟨l2, _, l3⟩ := l
  refine ⟨?_, Or.inr ⟨?_, ?_, ?_⟩, ?_⟩
  · rw [adR_v 4, adR_v 6, adR_v 8]
    rw [if_neg (by decide), if_neg (by decide), if_neg (by decide), if_neg (by decide), if_neg (by decide), if_neg (by decide), if_neg (by decide), if_neg (by decide), if_neg (by decide)]; exact l2
  · rw [adR_v, if_neg (by decide), if_neg (by decide), if_pos rfl]
  · rw [adR_v, if_neg (by decide), if_pos rfl]; exact (c1 z1).1
  · rw [adR_v, if_neg (by decide), if_pos rfl, adR_v, if_pos rfl]; exact (c2 z).1.trans (ad_sb _ _)
  · rw [adR_v, if_neg (by decide), if_neg (by decide), if_neg (by decide)]; exact l3
theorem LWc_same {d d' : Nat → Int32} {tb te ab ae fw : Int32} (h : ∀ j : Nat, (4 ≤ j ∧ j ≤ 9) ∨ j = 51 → d' j = d j) (l : LWc d tb te ab ae fw) : LWc d' tb te ab ae fw := by
  unfold LWc
  rw [h 4 (by omega), h 5 (by omega), h 6 (by omega), h 7 (by omega), h 8 (by omega), h 9 (by omega), h 51 (by omega)]; exact l
theorem fl_zn {X : TX} {a : Int32} {q : Sg} {P : Prop} (ha : ¬ a = 0) (z : (flP X a q).1 = 0) : P := absurd z (fl_n0 ha q)
theorem LWc_hl {X : TX} {q : Sg} {d : Nat → Int32} {ln hn vn rn tb te ab ae fw : Int32} (g : RD q.1 d ln hn vn rn) (w : q.1 = 0) (i1 : iv 0 4 hn) (_ : iv 0 4 vn) (_ : iv 0 8 rn) (z : (hlP X (q, d)).1.1 = 0) (l : LWc d tb te ab ae fw) : LWc (hlR X q d) tb te ab ae fw := by
  obtain ⟨_, g1, g2, g3⟩ := g w
  by_cases c : d 1 < 4
  · have h3 := iv_of3 g1 i1 c
    have k := clampNat (x := d 1) h3.1
    have hb := h3.2
    exact LWc_same (fun j hj => by rw [hlR_v h3, if_neg (by omega), if_neg (by omega), if_neg (by omega), if_neg (by omega), if_neg (by omega), if_neg (by omega)]) l
  · rw [hlP_4 c] at z; exact fl_zn (by decide) z
theorem LWc_vi {X : TX} {q : Sg} {d : Nat → Int32} {ln hn vn rn tb te ab ae fw : Int32} (g : RD q.1 d ln hn vn rn) (w : q.1 = 0) (_ : iv 0 4 hn) (i2 : iv 0 4 vn) (_ : iv 0 8 rn) (z : (viP X (q, d)).1.1 = 0) (l : LWc d tb te ab ae fw) : LWc (viR X q d) tb te ab ae fw := by
  obtain ⟨_, g1, g2, g3⟩ := g w
  by_cases c : d 2 < 4
  · have h3 := iv_of3 g2 i2 c
    have k := clampNat (x := d 2) h3.1
    have hb := h3.2
    exact LWc_same (fun j hj => by rw [viR_v h3, if_neg (by omega), if_neg (by omega)]) l
  · rw [viP_4 c] at z; exact fl_zn (by decide) z
theorem LWc_ro {X : TX} {q : Sg} {d : Nat → Int32} {ln hn vn rn tb te ab ae fw : Int32} (g : RD q.1 d ln hn vn rn) (w : q.1 = 0) (_ : iv 0 4 hn) (_ : iv 0 4 vn) (i3 : iv 0 8 rn) (z : (roP X (q, d)).1.1 = 0) (l : LWc d tb te ab ae fw) : LWc (roR X q d) tb te ab ae fw := by
  obtain ⟨_, g1, g2, g3⟩ := g w
  by_cases c : d 3 < 8
  · have h3 := iv_of7 g3 i3 c
    have k := clampNat (x := d 3) h3.1
    have hb := h3.2
    exact LWc_same (fun j hj => by rw [roR_v h3, if_neg (by omega), if_neg (by omega), if_neg (by omega), if_neg (by omega)]) l
  · rw [roP_4 c] at z; exact fl_zn (by decide) z
-- at the start of a text
theorem RWc_0 {w hn vn rn fs : Int32} {fe ga ne rf rt ca : Nat → Int32} (_ : hn = 0) (_ : vn = 0) (_ : rn = 0) (e : fs = 0) : RWc (upd D1 51 w) fs fe ga ne rf rt ca := by
  have z : ∀ j : Nat, 1 ≤ j ∧ j ≤ 3 → upd D1 51 w j = 0 := fun j hj => by rw [upd_ne (by omega)]; unfold D1; rw [upd_ne (by omega)]
  have t0 : (0 : Int32).toInt = 0 := by decide
  refine ⟨?_, fun j hj => ?_, fun j hj => ?_, fun j hj => ?_⟩
  · rw [z 1 (by omega), e]; rfl
  · rw [z 1 (by omega), t0] at hj; omega
  · rw [z 2 (by omega), t0] at hj; omega
  · rw [z 3 (by omega), t0] at hj; omega
theorem LWc_0 {tb te ab ae fw w : Int32} (e1 : tb = 0) (e2 : te = 0) (e3 : ab = 0) (e4 : ae = 0) (e : fw = w) : LWc (upd D1 51 w) tb te ab ae fw := by
  have z : ∀ j : Nat, 1 ≤ j ∧ j ≤ 9 → upd D1 51 w j = 0 := fun j hj => by rw [upd_ne (by omega)]; unfold D1; rw [upd_ne (by omega)]
  exact ⟨Or.inl ⟨z 4 (by omega), e1, e2⟩, Or.inl ⟨z 5 (by omega), e3, e4⟩, e.trans upd_at.symm⟩
theorem RD_00 {w : Int32} {ln hn vn rn : Int32} (e0 : ln = 1) (e1 : hn = 0) (e2 : vn = 0) (e3 : rn = 0) : ln = upd D1 51 w 0 ∧ hn = upd D1 51 w 1 ∧ vn = upd D1 51 w 2 ∧ rn = upd D1 51 w 3 := by
  refine ⟨?_, ?_, ?_, ?_⟩ <;> (rw [upd_ne (by decide)]; unfold D1)
  · rw [upd_at, e0]; decide
  · rw [upd_ne (by decide), e1]
  · rw [upd_ne (by decide), e2]
  · rw [upd_ne (by decide), e3]
theorem q0_e (X : TX) : (q0P X).2.2.1 = 0 ∧ (q0P X).2.2.2 = [] := by
  unfold q0P; split <;> exact ⟨rfl, rfl⟩
theorem BD_0 {n k : Int} {X : TX} {q : Sg} (h : SK9 n k (q0P X) q) (hk : 2 ≤ k) (hn : 0 ≤ n) : BD n q := fun w => by
  obtain ⟨e1, e2⟩ := q0_e X
  have t := h.2 w (by rw [e1]; decide) (by rw [e1]; exact hn)
  rw [e1, e2, (by decide : (0 : Int32).toInt = 0)] at t
  have : (([] : List Int32).length : Int) = 0 := rfl
  exact ⟨t.2.1, t.2.2, by omega⟩
theorem CDc_0 {X : TX} {sc : Int32} {st : Nat → Int32} (e : sc = 0) : CDc (q0P X) sc st := fun _ => by
  rw [(q0_e X).2]
  exact ⟨e, fun j hj => absurd hj (Nat.not_lt_zero _)⟩
/-- the row goes as the counts go -/
theorem ln_a {X : TX} {q : Sg} {d : Nat → Int32} {ln hn vn rn : Int32} (g : RD q.1 d ln hn vn rn) (w : q.1 = 0) (i1 : iv 0 4 hn) (i2 : iv 0 4 vn) (i3 : iv 0 8 rn) (z : (lnP X (q, d)).1.1 = 0) : ∀ j : Nat, j < 4 → lnR X q d j = (lnP X (q, d)).2 j := by
  intro j hj
  obtain ⟨_, g1, g2, g3⟩ := g w
  unfold lnP at z ⊢
  unfold lnR
  by_cases b2 : isQ X q 2 = true
  · rw [if_pos b2] at z ⊢
    rw [if_pos b2]
    by_cases c : d 1 < 4
    · have h3 := iv_of3 g1 i1 c
      rw [hlR_v h3, hlP_1 c]
      show _ = upd d 1 (d 1 + 1) j
      by_cases y : j = 1
      · rw [if_pos y, y, upd_at]
      · rw [if_neg y, upd_ne y, if_neg (by omega), if_neg (by omega), if_neg (by omega), if_neg (by omega), if_neg (by omega)]
    · rw [hlP_4 c] at z; exact fl_zn (by decide) z
  · rw [if_neg b2] at z ⊢
    rw [if_neg b2]
    by_cases b7 : isQ X q 7 = true
    · rw [if_pos b7] at z ⊢
      rw [if_pos b7]
      by_cases c : d 2 < 4
      · have h3 := iv_of3 g2 i2 c
        rw [viR_v h3, viP_1 c]
        show _ = upd d 2 (d 2 + 1) j
        by_cases y : j = 2
        · rw [if_pos y, y, upd_at]
        · rw [if_neg y, upd_ne y, if_neg (by omega)]
      · rw [viP_4 c] at z; exact fl_zn (by decide) z
    · rw [if_neg b7] at z ⊢
      rw [if_neg b7]
      by_cases b9 : isQ X q 9 = true
      · rw [if_pos b9] at z ⊢
        rw [if_pos b9]
        by_cases c : d 3 < 8
        · have h3 := iv_of7 g3 i3 c
          rw [roR_v h3, roP_1 c]
          show _ = upd d 3 (d 3 + 1) j
          by_cases y : j = 3
          · rw [if_pos y, y, upd_at]
          · rw [if_neg y, upd_ne y, if_neg (by omega), if_neg (by omega), if_neg (by omega)]
        · rw [roP_4 c] at z; exact fl_zn (by decide) z
      · rw [if_neg b9] at z ⊢
        rw [if_neg b9]
        by_cases b11 : isQ X q 11 = true
        · rw [if_pos b11, if_pos b11]
          show tkR X q d j = d j
          rw [tkR_v, if_neg (by omega), if_neg (by omega), if_neg (by omega)]
        · rw [if_neg b11, if_neg b11]
          by_cases b12 : isQ X q 12 = true
          · rw [if_pos b12, if_pos b12]
            show adR X q d j = d j
            rw [adR_v, if_neg (by omega), if_neg (by omega), if_neg (by omega)]
          · rw [if_neg b12, if_neg b12]
theorem lnP_20 (X : TX) (q : Sg) (d : Nat → Int32) : (lnP X (q, d)).2 0 = d 0 := by
  unfold lnP
  split
  · unfold hlP; split
    · show upd d 1 (d 1 + 1) 0 = d 0; exact upd_ne (by decide)
    · rfl
  · split
    · unfold viP; split
      · show upd d 2 (d 2 + 1) 0 = d 0; exact upd_ne (by decide)
      · rfl
    · split
      · unfold roP; split
        · show upd d 3 (d 3 + 1) 0 = d 0; exact upd_ne (by decide)
        · rfl
      · split
        · rfl
        · split <;> rfl
theorem RD_y {X : TX} {q : Sg} {d : Nat → Int32} {ln hn vn rn ln0 ln' h' v' r' : Int32} (g0 : RD q.1 d ln hn vn rn) (w : q.1 = 0) (i1 : iv 0 4 hn) (i2 : iv 0 4 vn) (i3 : iv 0 8 rn) (g : RD (lnP X (q, d)).1.1 (lnP X (q, d)).2 ln0 h' v' r') (e : ln' = ln0 + 1) : RD (exP X 30 (lnP X (q, d)).1).1 (upd (lnR X q d) 0 (d 0 + 1)) ln' h' v' r' := fun z => by
  have z1 := exP_z z
  have a := ln_a g0 w i1 i2 i3 z1
  obtain ⟨a0, a1, a2, a3⟩ := g z1
  have l0 := lnP_20 X q d
  refine ⟨?_, ?_, ?_, ?_⟩
  · rw [upd_at, e, a0, l0]
  · rw [upd_ne (by decide), a 1 (by decide)]; exact a1
  · rw [upd_ne (by decide), a 2 (by decide)]; exact a2
  · rw [upd_ne (by decide), a 3 (by decide)]; exact a3
theorem RLx {d : Nat → Int32} {x fs tb te ab ae fw : Int32} {fe ga ne rf rt ca : Nat → Int32} (h : RWc d fs fe ga ne rf rt ca ∧ LWc d tb te ab ae fw) : RWc (upd d 0 x) fs fe ga ne rf rt ca ∧ LWc (upd d 0 x) tb te ab ae fw := ⟨RWc_same (fun j hj => upd_ne (by omega)) h.1, LWc_same (fun j hj => upd_ne (by omega)) h.2⟩
-- the reference's row itself
theorem ix14 {f f0 : Nat → Int32} {x h v : Int32} (e : f = upd f0 x.toNatClampNeg v) (ex : x = 14 + h) (i : iv 0 3 h) : f = upd f0 (14 + h.toNatClampNeg) v := by
  rw [ex, ixA (c := 14) (n := 14) (by decide) i (by decide)] at e; exact e
theorem ix_3 {h : Int32} (i : iv 0 3 h) : h.toNatClampNeg ≤ 3 := by
  have k := clampNat (x := h) i.1
  have := i.2
  omega
theorem hz_3 {f0 f1 f2 f3 : Nat → Int32} {h x1 x2 x3 v1 v2 v3 : Int32} (i : iv 0 3 h) (e1 : x1 = 46 + h) (e2 : x2 = 10 + h) (e3 : x3 = 14 + h) (u1 : f1 = upd f0 x1.toNatClampNeg v1) (u2 : f2 = upd f1 x2.toNatClampNeg v2) (u3 : f3 = upd f2 x3.toNatClampNeg v3) : ∀ j : Nat, f3 j = if j = 14 + h.toNatClampNeg then v3 else if j = 10 + h.toNatClampNeg then v2 else if j = 46 + h.toNatClampNeg then v1 else f0 j := fun j => by
  rw [e1, ixA (c := 46) (n := 46) (by decide) i (by decide)] at u1
  rw [e2, ixA (c := 10) (n := 10) (by decide) i (by decide)] at u2
  rw [e3, ixA (c := 14) (n := 14) (by decide) i (by decide)] at u3
  rw [u3, u2, u1]; rfl
theorem hz_o {a b s t : Int32} (o : a = if t = 1 then b ||| s else b) : a ||| s = b ||| s := by
  rw [o]; split
  · rw [Int32.or_assoc, Int32.or_self]
  · rfl
theorem RWz_h {X : TX} {q q8 : Sg} {d f0 f f' f1 : Nat → Int32} {h tk y y0 : Int32} (a : ∀ j : Nat, j < 124 → f0 j = d j) (e : h = d 1) (i : iv 0 3 h) (s1 : f (46 + h.toNatClampNeg) = (X (exP X 3 (nxP X q)).2.2.1).2.2.2) (s2 : f (10 + h.toNatClampNeg) = (X (exP X 4 (nuP X 4 (exP X 3 (nxP X q)))).2.2.1).2.2.2) (k : ∀ j : Nat, j < 124 → ¬ j = 46 + h.toNatClampNeg → ¬ j = 10 + h.toNatClampNeg → ¬ j = 14 + h.toNatClampNeg → ¬ j = 50 → f j = f0 j) (g : ghR X 900 (nuP X 9 (exP X 4 (nuP X 4 (exP X 3 (nxP X q))))) 1 0 = (q8, f (14 + h.toNatClampNeg), tk)) (o : f 50 = (if tk = 1 then f0 50 ||| ((1 : Int32) <<< (h &&& 31)) else f0 50)) (u9 : f' = f) (u1 : f1 = upd f' (1 : Int32).toNatClampNeg y) (ey : y = y0 + 1) (e0 : y0 = f' (1 : Int32).toNatClampNeg) : ∀ j : Nat, j < 124 → f1 j = hlR X q d j := by
  intro j hj
  have n3 := ix_3 i
  have F : ∀ j : Nat, f1 j = if j = 1 then y else f j := fun j => by rw [u1, u9]; rfl
  rw [e] at i s1 s2 k g o n3
  have G : hlG X q = (q8, f (14 + (d 1).toNatClampNeg), tk) := g
  rw [F, hlR_v i, G]
  by_cases j1 : j = 1
  · rw [if_pos j1, if_pos j1, ey, e0, u9]
    have : f 1 = d 1 := (k 1 (by omega) (by omega) (by omega) (by omega) (by omega)).trans (a 1 (by omega))
    show f 1 + 1 = d 1 + 1
    rw [this]
  rw [if_neg j1, if_neg j1, if_neg (by omega)]
  by_cases j50 : j = 50
  · rw [if_pos j50, j50, o, a 50 (by omega)]
  rw [if_neg j50]
  by_cases j14 : j = 14 + (d 1).toNatClampNeg
  · rw [if_pos j14, j14]
  rw [if_neg j14]
  by_cases j10 : j = 10 + (d 1).toNatClampNeg
  · rw [if_pos j10, j10]; exact s2
  rw [if_neg j10]
  by_cases j46 : j = 46 + (d 1).toNatClampNeg
  · rw [if_pos j46, j46]; exact s1
  rw [if_neg j46]
  exact (k j hj j46 j10 j14 j50).trans (a j hj)
theorem RWz_v {X : TX} {q : Sg} {d f0 f1 f2 : Nat → Int32} {x ix v y y0 : Int32} (a : ∀ j : Nat, j < 124 → f0 j = d j) (e : x = d 2) (i : iv 0 4 x) (c : d 2 < 4) (e1 : ix = 18 + x) (u1 : f1 = upd f0 ix.toNatClampNeg v) (u2 : f2 = upd f1 (2 : Int32).toNatClampNeg y) (ev : v = (X (exP X 8 (nxP X q)).2.2.1).2.2.2) (ey : y = y0 + 1) (e0 : y0 = d 2) : ∀ j : Nat, j < 124 → f2 j = viR X q d j := by
  intro j hj
  have h3 := iv_of3 e i c
  have n3 := ix_3 h3
  rw [e1, e, ixA (c := 18) (n := 18) (by decide) h3 (by decide)] at u1
  have F : ∀ j : Nat, f2 j = if j = 2 then y else if j = 18 + (d 2).toNatClampNeg then v else f0 j := fun j => by rw [u2, u1]; rfl
  rw [F, viR_v h3, ey, e0, ev]
  by_cases j2 : j = 2
  · rw [if_pos j2, if_pos j2]
  rw [if_neg j2, if_neg j2]
  by_cases j18 : j = 18 + (d 2).toNatClampNeg
  · rw [if_pos j18, if_pos j18]
  rw [if_neg j18, if_neg j18]
  exact a j hj
theorem RWz_r {X : TX} {q : Sg} {d f0 f1 f2 f3 f4 : Nat → Int32} {x t i1 i2 i3 v1 v2 v3 y y0 : Int32} (a : ∀ j : Nat, j < 124 → f0 j = d j) (e : x = d 3) (i : iv 0 8 x) (c : d 3 < 8) (et : t = 3 * x) (e1 : i1 = 22 + t) (e2 : i2 = i1 + 1) (e3 : i3 = i1 + 2) (u1 : f1 = upd f0 i1.toNatClampNeg v1) (u2 : f2 = upd f1 i2.toNatClampNeg v2) (u3 : f3 = upd f2 i3.toNatClampNeg v3) (u4 : f4 = upd f3 (3 : Int32).toNatClampNeg y) (w1 : v1 = (X (nxP X q).2.2.1).2.2.2) (w2 : v2 = (X (nuP X (d 1 - 1) (nxP X q)).2.2.1).2.2.2) (w3 : v3 = (X (exP X 10 (nuP X (d 2 - 1) (nuP X (d 1 - 1) (nxP X q)))).2.2.1).2.2.2) (ey : y = y0 + 1) (e0 : y0 = d 3) : ∀ j : Nat, j < 124 → f4 j = roR X q d j := by
  intro j hj
  have h7 := iv_of7 e i c
  obtain ⟨k1, k2, k3⟩ := ix3 h7
  rw [e3, e1, et, e, k3] at u3
  rw [e2, e1, et, e, k2] at u2
  rw [e1, et, e, k1] at u1
  have F : ∀ j : Nat, f4 j = if j = 3 then y else if j = 24 + 3 * (d 3).toNatClampNeg then v3 else if j = 23 + 3 * (d 3).toNatClampNeg then v2 else if j = 22 + 3 * (d 3).toNatClampNeg then v1 else f0 j := fun j => by rw [u4, u3, u2, u1]; rfl
  rw [F, roR_v h7, ey, e0, w1, w2, w3]
  by_cases j3 : j = 3
  · rw [if_pos j3, if_pos j3]
  rw [if_neg j3, if_neg j3]
  by_cases j24 : j = 24 + 3 * (d 3).toNatClampNeg
  · rw [if_pos j24, if_pos j24]
  rw [if_neg j24, if_neg j24]
  by_cases j23 : j = 23 + 3 * (d 3).toNatClampNeg
  · rw [if_pos j23, if_pos j23]
  rw [if_neg j23, if_neg j23]
  by_cases j22 : j = 22 + 3 * (d 3).toNatClampNeg
  · rw [if_pos j22, if_pos j22]
  rw [if_neg j22, if_neg j22]
  exact a j hj
theorem CDz_k {q : Sg} {f f' : Nat → Int32} (h : ∀ j : Nat, 124 ≤ j → f' j = f j) (c : CDz q f) : CDz q f' := fun w => by
  obtain ⟨c1, c2, c3⟩ := c w
  exact ⟨(h 124 (by omega)).trans c1, c2, fun j hj => (h (125 + j) (by omega)).trans (c3 j hj)⟩
theorem fk_u {f f0 : Nat → Int32} {x v : Int32} {a b : Int} (e : f = upd f0 x.toNatClampNeg v) (i : iv a b x) (g : 0 ≤ a ∧ b < 124) : ∀ j : Nat, 124 ≤ j → f j = f0 j := fun j hj => by
  have k := clampNat (x := x) (by have := i.1; omega)
  have := i.2
  rw [e]; exact upd_ne (by omega)
theorem fk_t {f f1 f0 : Nat → Int32} (a : ∀ j : Nat, 124 ≤ j → f j = f1 j) (b : ∀ j : Nat, 124 ≤ j → f1 j = f0 j) : ∀ j : Nat, 124 ≤ j → f j = f0 j := fun j hj => (a j hj).trans (b j hj)
theorem RLz_t {X : TX} {q : Sg} {d fs g f1 f2 f3 : Nat → Int32} {fr m v : Int32} (a : ∀ j : Nat, j < 124 → g j = d j) (z : (trD X 6 (exP X 31 (nxP X q))).1 = 0) (z1 : (exP X 31 (nxP X q)).1 = 0) (c1 : CDz (exP X 31 (nxP X q)) fs) (c2 : CDz (trD X 6 (exP X 31 (nxP X q))) g) (u1 : f1 = upd g (4 : Int32).toNatClampNeg 1) (u2 : f2 = upd f1 (6 : Int32).toNatClampNeg fr) (u3 : f3 = upd f2 (8 : Int32).toNatClampNeg v) (ef : fr = fs (124 : Int32).toNatClampNeg) (em : m = g (124 : Int32).toNatClampNeg) (ev : v = m - fr) : CDz (trD X 6 (exP X 31 (nxP X q))) f3 ∧ ∀ j : Nat, j < 124 → f3 j = tkR X q d j := by
  have F : ∀ j : Nat, f3 j = if j = 8 then v else if j = 6 then fr else if j = 4 then 1 else g j := fun j => by rw [u3, u2, u1]; rfl
  refine ⟨CDz_k (fun j hj => by rw [F, if_neg (by omega), if_neg (by omega), if_neg (by omega)]) c2, fun j hj => ?_⟩
  have e1 : fr = nI (exP X 31 (nxP X q)).2.2.2.length := ef.trans (c1 z1).1
  have e2 : m = nI (trD X 6 (exP X 31 (nxP X q))).2.2.2.length := em.trans (c2 z).1
  rw [F, tkR_v, ev, e1, e2]
  by_cases j8 : j = 8
  · rw [if_pos j8, if_pos j8]
  rw [if_neg j8, if_neg j8]
  by_cases j6 : j = 6
  · rw [if_pos j6, if_pos j6]
  rw [if_neg j6, if_neg j6]
  by_cases j4 : j = 4
  · rw [if_pos j4, if_pos j4]
  rw [if_neg j4, if_neg j4]
  exact a j hj
theorem RLz_a {X : TX} {q : Sg} {d fs g f1 f2 f3 : Nat → Int32} {fr m v : Int32} (a : ∀ j : Nat, j < 124 → g j = d j) (z : (suD X 6 (exP X 31 (nxP X q))).1 = 0) (z1 : (exP X 31 (nxP X q)).1 = 0) (c1 : CDz (exP X 31 (nxP X q)) fs) (c2 : CDz (suD X 6 (exP X 31 (nxP X q))) g) (u1 : f1 = upd g (5 : Int32).toNatClampNeg 1) (u2 : f2 = upd f1 (7 : Int32).toNatClampNeg fr) (u3 : f3 = upd f2 (9 : Int32).toNatClampNeg v) (ef : fr = fs (124 : Int32).toNatClampNeg) (em : m = g (124 : Int32).toNatClampNeg) (ev : v = m - fr) : CDz (suD X 6 (exP X 31 (nxP X q))) f3 ∧ ∀ j : Nat, j < 124 → f3 j = adR X q d j := by
  have F : ∀ j : Nat, f3 j = if j = 9 then v else if j = 7 then fr else if j = 5 then 1 else g j := fun j => by rw [u3, u2, u1]; rfl
  refine ⟨CDz_k (fun j hj => by rw [F, if_neg (by omega), if_neg (by omega), if_neg (by omega)]) c2, fun j hj => ?_⟩
  have e1 : fr = nI (exP X 31 (nxP X q)).2.2.2.length := ef.trans (c1 z1).1
  have e2 : m = nI (suD X 6 (exP X 31 (nxP X q))).2.2.2.length := em.trans (c2 z).1
  rw [F, adR_v, ev, e1, e2]
  by_cases j8 : j = 9
  · rw [if_pos j8, if_pos j8]
  rw [if_neg j8, if_neg j8]
  by_cases j6 : j = 7
  · rw [if_pos j6, if_pos j6]
  rw [if_neg j6, if_neg j6]
  by_cases j4 : j = 5
  · rw [if_pos j4, if_pos j4]
  rw [if_neg j4, if_neg j4]
  exact a j hj
theorem cl_z {d f0 f1 : Nat → Int32} {y y0 : Int32} (a : ∀ j : Nat, j < 124 → f0 j = d j) (u : f1 = upd f0 (0 : Int32).toNatClampNeg y) (ey : y = y0 + 1) (e0 : y0 = f0 (0 : Int32).toNatClampNeg) : ∀ j : Nat, j < 124 → f1 j = upd d 0 (d 0 + 1) j := by
  intro j hj
  have F : f1 j = if j = 0 then y else f0 j := by rw [u]; rfl
  have z : y0 = d 0 := e0.trans (a 0 (by omega))
  rw [F, ey, z]
  by_cases j0 : j = 0
  · rw [if_pos j0, j0, upd_at]
  · rw [if_neg j0, upd_ne j0]; exact a j hj
theorem lnR_0 {X : TX} {q : Sg} {d : Nat → Int32} {ln hn vn rn : Int32} (g : RD q.1 d ln hn vn rn) (w : q.1 = 0) (i1 : iv 0 4 hn) (i2 : iv 0 4 vn) (i3 : iv 0 8 rn) (z : (lnP X (q, d)).1.1 = 0) : lnR X q d 0 = d 0 := (ln_a g w i1 i2 i3 z 0 (by decide)).trans (lnP_20 X q d)
theorem RD_q {X : TX} {q : Sg} {d : Nat → Int32} {ln hn vn rn a b c e : Int32} (g0 : RD q.1 d ln hn vn rn) (w : q.1 = 0) (i1 : iv 0 4 hn) (i2 : iv 0 4 vn) (i3 : iv 0 8 rn) (g : RD (exP X 30 (lnP X (q, d)).1).1 (upd (lnP X (q, d)).2 0 ((lnP X (q, d)).2 0 + 1)) a b c e) : RD (exP X 30 (lnP X (q, d)).1).1 (upd (lnR X q d) 0 (d 0 + 1)) a b c e := fun z => by
  have A := ln_a g0 w i1 i2 i3 (exP_z z)
  obtain ⟨a0, a1, a2, a3⟩ := g z
  rw [upd_at, lnP_20] at a0
  rw [upd_ne (by decide)] at a1 a2 a3
  refine ⟨?_, ?_, ?_, ?_⟩
  · rw [upd_at]; exact a0
  · rw [upd_ne (by decide), A 1 (by decide)]; exact a1
  · rw [upd_ne (by decide), A 2 (by decide)]; exact a2
  · rw [upd_ne (by decide), A 3 (by decide)]; exact a3
theorem RD_51 {w x a b c e : Int32} (g : RD w (upd (fun _ => 0) 0 ((fun _ => 0) 0 + 1)) a b c e) : RD w (upd D1 51 x) a b c e := fun z => by
  obtain ⟨a0, a1, a2, a3⟩ := g z
  refine ⟨?_, ?_, ?_, ?_⟩ <;> (rw [upd_ne (by decide)])
  · exact a0
  · exact a1
  · exact a2
  · exact a3
theorem CDz_0 {X : TX} {f : Nat → Int32} (e : f 124 = 0) : CDz (q0P X) f := fun _ => by
  rw [(q0_e X).2]
  exact ⟨e, by decide, fun j hj => absurd hj (Nat.not_lt_zero _)⟩
theorem EQ_0 {fa fb fc : Nat → Int32} {v w : Int32} (z : ∀ j : Nat, (j : Int) < (1025 : Int32).toInt → fa j = 0) (u : fb = upd fa (51 : Int32).toNatClampNeg v) (cl : ∀ d9 : Nat → Int32, (∀ j : Nat, j < 124 → fb j = d9 j) → ∀ j : Nat, j < 124 → fc j = upd d9 0 (d9 0 + 1) j) (e : v = w) : ∀ j : Nat, j < 124 → fc j = upd D1 51 w j := by
  have c := cl (upd (fun _ => 0) 51 w) (fun j hj => by
    have F : fb j = if j = 51 then v else fa j := by rw [u]; rfl
    rw [F]
    by_cases y : j = 51
    · rw [if_pos y, y, upd_at]; exact e
    · rw [if_neg y, upd_ne y]; exact z j (by rw [(by decide : (1025 : Int32).toInt = 1025)]; omega))
  intro j hj
  rw [c j hj]
  by_cases y0 : j = 0
  · rw [y0, upd_at, upd_ne (by decide), upd_ne (by decide)]; rfl
  · rw [upd_ne y0]
    by_cases y : j = 51
    · rw [y, upd_at, upd_at]
    · rw [upd_ne y, upd_ne y]
      show (0 : Int32) = upd (fun _ => 0) 0 (0 + 1) j
      rw [upd_ne y0]
