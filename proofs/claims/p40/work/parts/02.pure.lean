
theorem tI_lt {a b : Int32} : (a < b) = (a.toInt < b.toInt) := propext Int32.lt_iff_toInt_lt
theorem tI_le {a b : Int32} : (a ≤ b) = (a.toInt ≤ b.toInt) := propext Int32.le_iff_toInt_le
theorem tI_eq {a b : Int32} : (a = b) = (a.toInt = b.toInt) := propext Int32.toInt_inj.symm
theorem tL_lt {a b : Int64} : (a < b) = (a.toInt < b.toInt) := propext Int64.lt_iff_toInt_lt
theorem tL_le {a b : Int64} : (a ≤ b) = (a.toInt ≤ b.toInt) := propext Int64.le_iff_toInt_le
theorem tL_eq {a b : Int64} : (a = b) = (a.toInt = b.toInt) := propext Int64.toInt_inj.symm
theorem tWx (x : Int32) : x.toInt64.toInt = x.toInt := Int32.toInt_toInt64 x
theorem vp_mono {i : Int32} {n N : Nat} (h : n ≤ N) (hi : vp_in i n) : vp_in i N := fun q => hi (q.elim Or.inl (fun z => Or.inr (Nat.le_trans h z)))
theorem cpy0 (a b n : Nat) : va_cpy (fun _ => (0 : Int32)) (fun _ => 0) a b n = fun _ => 0 := by
  funext k; unfold va_cpy; split <;> rfl
theorem upd0 (k : Nat) : upd (fun _ => (0 : Int32)) k 0 = fun _ => 0 := by
  funext j; unfold upd; split <;> rfl
theorem updL0 (k : Nat) : vp_updL (fun _ => (0 : Int64)) k 0 = fun _ => 0 := by
  funext j; unfold vp_updL; split <;> rfl
theorem updup (f : Nat → Int32) (k : Nat) (a b : Int32) : upd (upd f k a) k b = upd f k b := by
  funext j; unfold upd; split <;> rfl
theorem updLup (f : Nat → Int64) (k : Nat) (a b : Int64) : vp_updL (vp_updL f k a) k b = vp_updL f k b := by
  funext j; unfold vp_updL; split <;> rfl
theorem updid {f : Nat → Int32} {k : Nat} {v : Int32} (h : f k = v) : upd f k v = f := by
  funext j; unfold upd; split
  · next e => rw [e, h]
  · rfl
theorem updLid {f : Nat → Int64} {k : Nat} {v : Int64} (h : f k = v) : vp_updL f k v = f := by
  funext j; unfold vp_updL; split
  · next e => rw [e, h]
  · rfl
theorem fill_s {f : Nat → Int32} {i : Nat} {c : Int32} (h : ∀ j : Nat, j < i → f j = c) (hi : i < 2 ^ 31) : ∀ j : Nat, j < i + 1 → upd f (nI i).toNatClampNeg c j = c := fun j hj => by
  rw [nI_clamp hi]
  unfold upd
  split
  · rfl
  · exact h j (by omega)
theorem loopW {p : Program} {l : Launch} {e : Env} {R : Room} {s : State} {m : MethodId} {args : Array Value} {below : List Frame} {meth : Method} {c : Code} {cells slots : Nat} {Q : State → Prop} (N : Nat) (X : Nat → Heap → List Loc → Array Slot → Prop) (g : Array Slot → JFrame)
    (step : ∀ (i : Nat) (H : Heap) (locs : List Loc) (ls : Array Slot), i ≤ N → X i H locs ls → (i < N → ∀ (H' : Heap) (locs' : List Loc) (ls' : Array Slot), X (i + 1) H' locs' ls' → W p l e R s m args below meth c H' locs' cells slots Q (g ls')) → W p l e R s m args below meth c H locs cells slots Q (g ls))
    (i0 : Nat) (h0 : i0 ≤ N) {H : Heap} {locs : List Loc} {ls : Array Slot} (hX : X i0 H locs ls) : W p l e R s m args below meth c H locs cells slots Q (g ls) := by
  have key : ∀ n i : Nat, N - i = n → i ≤ N → ∀ (H : Heap) (locs : List Loc) (ls : Array Slot), X i H locs ls → W p l e R s m args below meth c H locs cells slots Q (g ls) := by
    intro n
    induction n with
    | zero => intro i hn hi H locs ls hX; exact step i H locs ls hi hX (fun h => absurd h (by omega))
    | succ n ih => intro i hn hi H locs ls hX; exact step i H locs ls hi hX (fun h H' l' ls' hX' => ih (i + 1) (by omega) (by omega) H' l' ls' hX')
  exact key _ i0 rfl h0 H locs ls hX
theorem natOf {x M c : Int32} {n m : Nat} (hM : M.toInt = n) (hc : c.toInt = m) (h : c ≤ x) (h5 : x ≤ M) : ∃ j : Nat, m ≤ j ∧ j ≤ n ∧ x = nI j := by
  rw [Int32.le_iff_toInt_le] at h h5
  obtain ⟨j, hj, e⟩ := nI_of2 hM (show ¬ x < 0 by rw [Int32.lt_iff_toInt_lt, (by decide : (0 : Int32).toInt = 0)]; omega) (Int32.le_iff_toInt_le.mpr h5)
  refine ⟨j, ?_, hj, e⟩
  rw [e, nI_toInt (by have := Int32.toInt_lt M; omega)] at h
  omega

theorem updsw {f : Nat → Int32} {j k : Nat} {a b c : Int32} (h : j ≠ k) : upd (upd (upd f j a) k b) j c = upd (upd f j c) k b := by
  funext q; unfold upd
  by_cases h1 : q = j
  · rw [if_pos h1, if_neg (fun e => h (h1.symm.trans e)), if_pos h1]
  · by_cases h2 : q = k
    · rw [if_neg h1, if_pos h2, if_pos h2]
    · rw [if_neg h1, if_neg h2, if_neg h1, if_neg h2, if_neg h1]
theorem gw_ws {ws : List Cond} (ps : List Nat) (hp : ws = ps.filterMap (fun i => tables_1[i]?)) (h : ws.all goodWord = true) : ∀ w ∈ ws, w ∈ gw := fun w hw => by
  have h1 := List.all_eq_true.mp h w hw
  rw [hp] at hw
  obtain ⟨i, -, hi⟩ := List.mem_filterMap.mp hw
  exact gw_m (List.mem_append_right _ (List.mem_of_getElem? hi)) h1

def mo (z : Nat → Nat) (i0 i5 i6 i7 i8 i9 i10 i11 i12 i13 i14 i18 i19 i22 i23 i29 : Int32) : List Value := [.int i0, .ref (z 1), .ref (z 2), .ref (z 3), .ref (z 4), .int i5, .int i6, .int i7, .int i8, .int i9, .int i10, .int i11, .int i12, .int i13, .int i14, .ref (z 15), .ref (z 16), .ref (z 17), .int i18, .int i19, .ref (z 20), .ref (z 21), .int i22, .int i23, .ref (z 24), .ref (z 25), .ref (z 26), .ref (z 27), .ref (z 28), .int i29, .ref (z 30), .ref (z 31), .ref (z 32), .ref (z 33), .ref (z 34), .ref (z 35), .ref (z 36), .ref (z 37), .ref (z 38), .ref (z 39)]
theorem inX0 : ∀ w ∈ wsX00, w ∈ gw := gw_ws [200, 202] (by decide +kernel) (by decide +kernel)
theorem dfX0 : ∀ j, j < 2 → defaultValue (tyX0 j) = vp_V [.int 0, .int 0] j := fun j hj => match j, hj with
  | 0, _ => rfl
  | 1, _ => rfl
  | n + 2, h => absurd h (by omega)
theorem inX1 : ∀ w ∈ wsX10, w ∈ gw := gw_ws [87, 89, 91, 93, 95, 97, 99, 101, 103, 105, 107, 109, 111, 113, 115, 117, 119, 121] (by decide +kernel) (by decide +kernel)
theorem dfX1 : ∀ j, j < 18 → defaultValue (tyX1 j) = vp_V [.int 0, .int 0, .int 0, .int 0, .int 0, .int 0, .null, .null, .null, .null, .null, .null, .null, .int 0, .int 0, .int 0, .int 0, .int 0] j := fun j hj => match j, hj with
  | 0, _ => rfl
  | 1, _ => rfl
  | 2, _ => rfl
  | 3, _ => rfl
  | 4, _ => rfl
  | 5, _ => rfl
  | 6, _ => rfl
  | 7, _ => rfl
  | 8, _ => rfl
  | 9, _ => rfl
  | 10, _ => rfl
  | 11, _ => rfl
  | 12, _ => rfl
  | 13, _ => rfl
  | 14, _ => rfl
  | 15, _ => rfl
  | 16, _ => rfl
  | 17, _ => rfl
  | n + 18, h => absurd h (by omega)
theorem inX2 : ∀ w ∈ wsX20, w ∈ gw := gw_ws [1068, 1070, 1072, 1074, 1076, 1078, 1080] (by decide +kernel) (by decide +kernel)
theorem dfX2 : ∀ j, j < 7 → defaultValue (tyX2 j) = vp_V [.int 0, .null, .null, .null, .null, .null, .int 0] j := fun j hj => match j, hj with
  | 0, _ => rfl
  | 1, _ => rfl
  | 2, _ => rfl
  | 3, _ => rfl
  | 4, _ => rfl
  | 5, _ => rfl
  | 6, _ => rfl
  | n + 7, h => absurd h (by omega)
theorem inX3 : ∀ w ∈ wsX30, w ∈ gw := gw_ws [265, 267, 269, 271, 273] (by decide +kernel) (by decide +kernel)
theorem dfX3 : ∀ j, j < 5 → defaultValue (tyX3 j) = vp_V [.null, .int 0, .int 0, .int 0, .int 0] j := fun j hj => match j, hj with
  | 0, _ => rfl
  | 1, _ => rfl
  | 2, _ => rfl
  | 3, _ => rfl
  | 4, _ => rfl
  | n + 5, h => absurd h (by omega)
theorem inX4 : ∀ w ∈ wsX40, w ∈ gw := gw_ws [177, 179, 181, 183, 185, 187] (by decide +kernel) (by decide +kernel)
theorem dfX4 : ∀ j, j < 6 → defaultValue (tyX4 j) = vp_V [.null, .null, .null, .null, .null, .null] j := fun j hj => match j, hj with
  | 0, _ => rfl
  | 1, _ => rfl
  | 2, _ => rfl
  | 3, _ => rfl
  | 4, _ => rfl
  | 5, _ => rfl
  | n + 6, h => absurd h (by omega)
theorem inX5 : ∀ w ∈ wsX50, w ∈ gw := gw_ws [219, 221, 223, 225] (by decide +kernel) (by decide +kernel)
theorem dfX5 : ∀ j, j < 4 → defaultValue (tyX5 j) = vp_V [.null, .null, .null, .int 0] j := fun j hj => match j, hj with
  | 0, _ => rfl
  | 1, _ => rfl
  | 2, _ => rfl
  | 3, _ => rfl
  | n + 4, h => absurd h (by omega)
theorem inX6 : ∀ w ∈ wsX60, w ∈ gw := gw_ws [146, 148, 150, 152, 154, 156, 158, 160, 162] (by decide +kernel) (by decide +kernel)
theorem dfX6 : ∀ j, j < 9 → defaultValue (tyX6 j) = vp_V [.null, .int 0, .int 0, .null, .int 0, .int 0, .int 0, .int 0, .int 0] j := fun j hj => match j, hj with
  | 0, _ => rfl
  | 1, _ => rfl
  | 2, _ => rfl
  | 3, _ => rfl
  | 4, _ => rfl
  | 5, _ => rfl
  | 6, _ => rfl
  | 7, _ => rfl
  | 8, _ => rfl
  | n + 9, h => absurd h (by omega)
theorem inX7 : ∀ w ∈ wsX70, w ∈ gw := gw_ws [244, 246, 248] (by decide +kernel) (by decide +kernel)
theorem dfX7 : ∀ j, j < 3 → defaultValue (tyX7 j) = vp_V [.null, .int 0, .int 0] j := fun j hj => match j, hj with
  | 0, _ => rfl
  | 1, _ => rfl
  | 2, _ => rfl
  | n + 3, h => absurd h (by omega)
theorem inX8 : ∀ w ∈ wsX80, w ∈ gw := gw_ws [811, 813, 815, 817, 819, 821, 823, 825, 827, 829, 831, 833, 835, 837, 839, 841, 843] (by decide +kernel) (by decide +kernel)
theorem dfX8 : ∀ j, j < 17 → defaultValue (tyX8 j) = vp_V [.int 0, .int 0, .null, .null, .null, .int 0, .int 0, .null, .null, .null, .null, .null, .null, .null, .int 0, .int 0, .int 0] j := fun j hj => match j, hj with
  | 0, _ => rfl
  | 1, _ => rfl
  | 2, _ => rfl
  | 3, _ => rfl
  | 4, _ => rfl
  | 5, _ => rfl
  | 6, _ => rfl
  | 7, _ => rfl
  | 8, _ => rfl
  | 9, _ => rfl
  | 10, _ => rfl
  | 11, _ => rfl
  | 12, _ => rfl
  | 13, _ => rfl
  | 14, _ => rfl
  | 15, _ => rfl
  | 16, _ => rfl
  | n + 17, h => absurd h (by omega)
theorem inX9 : ∀ w ∈ wsX90, w ∈ gw := gw_ws [291, 293, 295, 297, 299, 301, 303, 305, 307, 309, 311, 313, 315, 317, 319] (by decide +kernel) (by decide +kernel)
theorem dfX9 : ∀ j, j < 15 → defaultValue (tyX9 j) = vp_V [.null, .int 0, .null, .null, .null, .null, .null, .null, .null, .null, .null, .null, .int 0, .int 0, .int 0] j := fun j hj => match j, hj with
  | 0, _ => rfl
  | 1, _ => rfl
  | 2, _ => rfl
  | 3, _ => rfl
  | 4, _ => rfl
  | 5, _ => rfl
  | 6, _ => rfl
  | 7, _ => rfl
  | 8, _ => rfl
  | 9, _ => rfl
  | 10, _ => rfl
  | 11, _ => rfl
  | 12, _ => rfl
  | 13, _ => rfl
  | 14, _ => rfl
  | n + 15, h => absurd h (by omega)
theorem inX10 : ∀ w ∈ wsX100, w ∈ gw := gw_ws [1224, 1226, 1228, 1230, 1232, 1234, 1236, 1238, 1240, 1242, 1244, 1246, 1248, 1250, 1252, 1254, 1256, 1258, 1260, 1262, 1264, 1266, 1268, 1270, 1272, 1274, 1276, 1278, 1280, 1282, 1284, 1286, 1288, 1290, 1292, 1294, 1296, 1298, 1300, 1302] (by decide +kernel) (by decide +kernel)
theorem dfX10 : ∀ j, j < 40 → defaultValue (tyX10 j) = vp_V [.int 0, .null, .null, .null, .null, .int 0, .int 0, .int 0, .int 0, .int 0, .int 0, .int 0, .int 0, .int 0, .int 0, .null, .null, .null, .int 0, .int 0, .null, .null, .int 0, .int 0, .null, .null, .null, .null, .null, .int 0, .null, .null, .null, .null, .null, .null, .null, .null, .null, .null] j := fun j hj => match j, hj with
  | 0, _ => rfl
  | 1, _ => rfl
  | 2, _ => rfl
  | 3, _ => rfl
  | 4, _ => rfl
  | 5, _ => rfl
  | 6, _ => rfl
  | 7, _ => rfl
  | 8, _ => rfl
  | 9, _ => rfl
  | 10, _ => rfl
  | 11, _ => rfl
  | 12, _ => rfl
  | 13, _ => rfl
  | 14, _ => rfl
  | 15, _ => rfl
  | 16, _ => rfl
  | 17, _ => rfl
  | 18, _ => rfl
  | 19, _ => rfl
  | 20, _ => rfl
  | 21, _ => rfl
  | 22, _ => rfl
  | 23, _ => rfl
  | 24, _ => rfl
  | 25, _ => rfl
  | 26, _ => rfl
  | 27, _ => rfl
  | 28, _ => rfl
  | 29, _ => rfl
  | 30, _ => rfl
  | 31, _ => rfl
  | 32, _ => rfl
  | 33, _ => rfl
  | 34, _ => rfl
  | 35, _ => rfl
  | 36, _ => rfl
  | 37, _ => rfl
  | 38, _ => rfl
  | 39, _ => rfl
  | n + 40, h => absurd h (by omega)

def iv (a b : Int) (x : Int32) : Prop := a ≤ x.toInt ∧ x.toInt ≤ b
theorem iv_c (x : Int32) {a b : Int} (h : a ≤ x.toInt ∧ x.toInt ≤ b) : iv a b x := h
theorem iv_w {a b a' b' : Int} {x : Int32} (h : iv a b x) (h1 : a' ≤ a ∧ b ≤ b') : iv a' b' x := ⟨Int.le_trans h1.1 h.1, Int.le_trans h.2 h1.2⟩
theorem iv_top (x : Int32) : iv (-2147483648) 2147483647 x := ⟨Int32.le_toInt x, by have := Int32.toInt_lt x; omega⟩
theorem iv_bm {z : Int} (h1 : -2147483648 ≤ z) (h2 : z ≤ 2147483647) : z.bmod (2 ^ 32) = z := by
  apply Int.bmod_eq_of_le <;> omega
theorem iv_add {x y : Int32} {a b c d A B : Int} (hx : iv a b x) (hy : iv c d y) (h : A ≤ a + c ∧ b + d ≤ B ∧ -2147483648 ≤ A ∧ B ≤ 2147483647) : iv A B (x + y) := by
  unfold iv at *
  rw [Int32.toInt_add, iv_bm (by omega) (by omega)]; omega
theorem iv_sub {x y : Int32} {a b c d A B : Int} (hx : iv a b x) (hy : iv c d y) (h : A ≤ a - d ∧ b - c ≤ B ∧ -2147483648 ≤ A ∧ B ≤ 2147483647) : iv A B (x - y) := by
  unfold iv at *
  rw [Int32.toInt_sub, iv_bm (by omega) (by omega)]; omega
theorem iv_mulc {x y : Int32} {a b k A B : Int} (hx : iv a b x) (hy : iv k k y) (h : 0 ≤ k ∧ A ≤ a * k ∧ b * k ≤ B ∧ -2147483648 ≤ A ∧ B ≤ 2147483647) : iv A B (x * y) := by
  unfold iv at *
  have e : y.toInt = k := by omega
  have h1 : a * k ≤ x.toInt * k := Int.mul_le_mul_of_nonneg_right hx.1 h.1
  have h2 : x.toInt * k ≤ b * k := Int.mul_le_mul_of_nonneg_right hx.2 h.1
  rw [Int32.toInt_mul, e, iv_bm (by omega) (by omega)]; omega
theorem iv_cmul {x y : Int32} {a b k A B : Int} (hx : iv k k x) (hy : iv a b y) (h : 0 ≤ k ∧ A ≤ a * k ∧ b * k ≤ B ∧ -2147483648 ≤ A ∧ B ≤ 2147483647) : iv A B (x * y) := by
  rw [Int32.mul_comm]; exact iv_mulc hy hx h
theorem iv_nz {x : Int32} {a b : Int} (hx : iv a b x) (h : 0 < a ∨ b < 0) : ¬ x = 0 := by
  intro e
  rw [e] at hx
  unfold iv at hx
  rw [(by decide : (0 : Int32).toInt = 0)] at hx
  omega
theorem iv_in {i : Int32} {a b : Int} {n : Nat} (h : iv a b i) (h0 : 0 ≤ a ∧ b < n) : vp_in i n := by
  unfold iv at h
  rw [vp_in_iff]; omega
theorem iv_lt {x y : Int32} {a b c d : Int} (hx : iv a b x) (hy : iv c d y) (h : b < c) : x < y := by
  unfold iv at *; rw [Int32.lt_iff_toInt_lt]; omega
theorem iv_le {x y : Int32} {a b c d : Int} (hx : iv a b x) (hy : iv c d y) (h : b ≤ c) : x ≤ y := by
  unfold iv at *; rw [Int32.le_iff_toInt_le]; omega
theorem iv_nlt {x y : Int32} {a b c d : Int} (hx : iv a b x) (hy : iv c d y) (h : d ≤ a) : ¬ x < y := by
  unfold iv at *; rw [Int32.lt_iff_toInt_lt]; omega
theorem iv_nle {x y : Int32} {a b c d : Int} (hx : iv a b x) (hy : iv c d y) (h : d < a) : ¬ x ≤ y := by
  unfold iv at *; rw [Int32.le_iff_toInt_le]; omega
theorem iv_ne {x y : Int32} {a b c d : Int} (hx : iv a b x) (hy : iv c d y) (h : b < c ∨ d < a) : ¬ x = y := by
  unfold iv at *; intro e; rw [e] at hx; omega
theorem iv_l1 {x y : Int32} {a b c d B : Int} (q : x < y) (hx : iv a b x) (hy : iv c d y) (h : d - 1 ≤ B) : iv a B x := by
  unfold iv at *; rw [Int32.lt_iff_toInt_lt] at q; omega
theorem iv_l2 {x y : Int32} {a b c d A : Int} (q : x < y) (hx : iv a b x) (hy : iv c d y) (h : A ≤ a + 1) : iv A d y := by
  unfold iv at *; rw [Int32.lt_iff_toInt_lt] at q; omega
theorem iv_e1 {x y : Int32} {a b c d B : Int} (q : x ≤ y) (hx : iv a b x) (hy : iv c d y) (h : d ≤ B) : iv a B x := by
  unfold iv at *; rw [Int32.le_iff_toInt_le] at q; omega
theorem iv_e2 {x y : Int32} {a b c d A : Int} (q : x ≤ y) (hx : iv a b x) (hy : iv c d y) (h : A ≤ a) : iv A d y := by
  unfold iv at *; rw [Int32.le_iff_toInt_le] at q; omega
theorem iv_q {x y : Int32} {c d : Int} (q : x = y) (hy : iv c d y) : iv c d x := q ▸ hy
theorem iv_n0 {x y : Int32} {a b k : Int} (q : ¬ x = y) (hx : iv a b x) (hy : iv k k y) (h : a = k) : iv (k + 1) b x := by
  unfold iv at *
  have : x.toInt ≠ y.toInt := fun e => q (Int32.toInt_inj.mp e)
  omega
theorem iv_n1 {x y : Int32} {a b k : Int} (q : ¬ x = y) (hx : iv a b x) (hy : iv k k y) (h : b = k) : iv a (k - 1) x := by
  unfold iv at *
  have : x.toInt ≠ y.toInt := fun e => q (Int32.toInt_inj.mp e)
  omega
theorem ivU {f : Nat → Int32} {a b : Int} (h : ∀ j, iv a b (f j)) (k : Nat) {x : Int32} (hx : iv a b x) : ∀ j, iv a b (upd f k x j) := fun j => by
  unfold upd; split
  · exact hx
  · exact h j
theorem mu_up {i : Int32} {a b B : Int} (h : iv a b i) (hb : b < B ∧ b < 2147483647) : (B - (i + 1).toInt).toNat < (B - i.toInt).toNat := by
  unfold iv at *
  rw [Int32.toInt_add, (by decide : (1 : Int32).toInt = 1), iv_bm (by have := Int32.le_toInt i; omega) (by omega)]
  omega
theorem mu_dn {i : Int32} {a b : Int} (h : iv a b i) (hb : -2147483648 < a) : ((i + (-1)).toInt + 2147483648).toNat < (i.toInt + 2147483648).toNat := by
  unfold iv at *
  rw [Int32.toInt_add, (by decide : (-1 : Int32).toInt = -1), iv_bm (by omega) (by have := Int32.toInt_lt i; omega)]
  omega
theorem pw_iv {i : Int32} {a b : Int} (h : iv a b i) (hb : 0 ≤ a ∧ b < 5) : iv 1 10000 (pw i.toNatClampNeg) := by
  have h2 : vp_in i 5 := iv_in h hb
  obtain ⟨j, hj, e⟩ := vp_in_of h2 (by decide)
  rw [e, nI_clamp (by omega)]
  match j, hj with
  | 0, _ => exact iv_c _ (by decide)
  | 1, _ => exact iv_c _ (by decide)
  | 2, _ => exact iv_c _ (by decide)
  | 3, _ => exact iv_c _ (by decide)
  | 4, _ => exact iv_c _ (by decide)
  | n + 5, h => exact absurd h (by omega)
theorem loopF {p : Program} {l : Launch} {e : Env} {R : Room} {s : State} {m : MethodId} {args : Array Value} {below : List Frame} {meth : Method} {c : Code} {cells slots : Nat} {Q : State → Prop} (X : Nat → Heap → List Loc → Array Slot → Prop) (g : Array Slot → JFrame)
    (step : ∀ (n : Nat) (H : Heap) (locs : List Loc) (ls : Array Slot), X n H locs ls → (∀ (n' : Nat) (H' : Heap) (locs' : List Loc) (ls' : Array Slot), n' < n → X n' H' locs' ls' → W p l e R s m args below meth c H' locs' cells slots Q (g ls')) → W p l e R s m args below meth c H locs cells slots Q (g ls))
    (n : Nat) {H : Heap} {locs : List Loc} {ls : Array Slot} (hX : X n H locs ls) : W p l e R s m args below meth c H locs cells slots Q (g ls) := by
  induction n using Nat.strongRecOn generalizing H locs ls with
  | ind n ih => exact step n H locs ls hX (fun n' H' l' ls' hn hX' => ih n' hn hX')
theorem iv_max {x y : Int32} {a b c d A B : Int} (hx : iv a b x) (hy : iv c d y) (h : (A ≤ a ∨ A ≤ c) ∧ b ≤ B ∧ d ≤ B) : iv A B (if x < y then y else x) := by
  unfold iv at *
  split
  · next q => rw [Int32.lt_iff_toInt_lt] at q; omega
  · next q => rw [Int32.lt_iff_toInt_lt] at q; omega
theorem iv_min {x y : Int32} {a b c d A B : Int} (hx : iv a b x) (hy : iv c d y) (h : A ≤ a ∧ A ≤ c ∧ (b ≤ B ∨ d ≤ B)) : iv A B (if y < x then y else x) := by
  unfold iv at *
  split
  · next q => rw [Int32.lt_iff_toInt_lt] at q; omega
  · next q => rw [Int32.lt_iff_toInt_lt] at q; omega
theorem iv_n0lt {x : Int32} {a b : Int} (hx : iv a b x) (h : 0 ≤ a) : ¬ x < 0 := by
  unfold iv at *; rw [Int32.lt_iff_toInt_lt, (by decide : (0 : Int32).toInt = 0)]; omega
theorem iv_nat {x : Int32} {a b : Int} (hx : iv a b x) (h : 0 ≤ a) : (x.toNatClampNeg : Int) = x.toInt := by
  obtain ⟨j, hj, e⟩ := nI_of (iv_n0lt hx h)
  rw [e, nI_clamp hj, nI_toInt hj]
theorem iv_cl {x : Int32} {a b : Int} {n : Nat} (hx : iv a b x) (h : 0 ≤ a ∧ b ≤ n) : Int32.toNatClampNeg 0 + x.toNatClampNeg ≤ n := by
  have e := iv_nat hx h.1
  unfold iv at hx
  rw [(by decide : Int32.toNatClampNeg 0 = 0)]
  omega
theorem iv_and1 (x : Int32) : iv 0 1 (x &&& 1) := by
  obtain ⟨j, hj, e⟩ := pk_andE x (m := 1) 1 (by decide)
  rw [e]; unfold iv; rw [nI_toInt (by omega)]; omega
theorem iv_divp {x : Int32} {a b k B : Int} {y : Int32} (hx : iv a b x) (hk : 0 ≤ a ∧ 0 < k ∧ b / k ≤ B) (hy : y.toInt = k) : iv 0 B (x / y) := by
  obtain ⟨j, hj, e⟩ := nI_of (iv_n0lt hx hk.1)
  have hy2 : ¬ y < 0 := by rw [Int32.lt_iff_toInt_lt, (by decide : (0 : Int32).toInt = 0)]; omega
  obtain ⟨d, hd, e2⟩ := nI_of hy2
  have hdk : (d : Int) = k := by rw [← hy, e2, nI_toInt hd]
  have hj2 : (j : Int) ≤ b := by have := hx.2; rw [e, nI_toInt hj] at this; exact this
  rw [e, e2, pk_div hj (by omega) hd]
  unfold iv
  rw [nI_toInt (Nat.lt_of_le_of_lt (Nat.div_le_self _ _) hj)]
  have h3 : ((j / d : Nat) : Int) = (j : Int) / (d : Int) := Int.natCast_ediv j d
  have h4 : (j : Int) / (d : Int) ≤ b / (d : Int) := Int.ediv_le_ediv (by omega) hj2
  rw [hdk] at h3 h4
  have h5 : 0 ≤ (j : Int) / k := Int.ediv_nonneg (by omega) (by omega)
  omega
theorem iv_remp {x : Int32} {a b k B : Int} {y : Int32} (hx : iv a b x) (hk : 0 ≤ a ∧ 0 < k ∧ k - 1 ≤ B) (hy : y.toInt = k) : iv 0 B (x - x / y * y) := by
  obtain ⟨j, hj, e⟩ := nI_of (iv_n0lt hx hk.1)
  have hy2 : ¬ y < 0 := by rw [Int32.lt_iff_toInt_lt, (by decide : (0 : Int32).toInt = 0)]; omega
  obtain ⟨d, hd, e2⟩ := nI_of hy2
  have hdk : (d : Int) = k := by rw [← hy, e2, nI_toInt hd]
  rw [e, e2, pk_rem hj (by omega) hd]
  unfold iv
  have h1 : j % d < d := Nat.mod_lt _ (by omega)
  rw [nI_toInt (by omega)]
  omega
theorem iv_subl {x y : Int32} {a b c d B : Int} (q : y ≤ x) (hx : iv a b x) (hy : iv c d y) (h : b - c ≤ B ∧ 0 ≤ c ∧ B ≤ 2147483647) : iv 0 B (x - y) := by
  unfold iv at *
  rw [Int32.le_iff_toInt_le] at q
  rw [Int32.toInt_sub, iv_bm (by omega) (by omega)]; omega
theorem iv_addb {x i k : Int32} {a b c d n A B : Int} (e : x = i + k) (hx : iv a b x) (hi : iv c d i) (hk : iv n n k) (h : -2147483648 ≤ c + n ∧ d + n ≤ 2147483647 ∧ (A ≤ a - n ∨ A ≤ c) ∧ (b - n ≤ B ∨ d ≤ B)) : iv A B i := by
  unfold iv at *
  have hkn : k.toInt = n := by omega
  rw [e, Int32.toInt_add, hkn, iv_bm (by omega) (by omega)] at hx
  omega
theorem iv_s1 {x u t : Int32} {a b c d : Int} (e : x = u + 1) (q : u < t) (hu : iv a b u) (ht : iv c d t) : x ≤ t := by
  unfold iv at *
  rw [Int32.lt_iff_toInt_lt] at q
  rw [Int32.le_iff_toInt_le, e, Int32.toInt_add, (by decide : (1 : Int32).toInt = 1), iv_bm (by have := Int32.le_toInt u; omega) (by have := Int32.toInt_lt t; omega)]
  omega
theorem iv_nel {x t : Int32} (h : x ≤ t) (q : ¬ x = t) : x < t := by
  rw [Int32.le_iff_toInt_le] at h
  rw [Int32.lt_iff_toInt_lt]
  have : x.toInt ≠ t.toInt := fun e => q (Int32.toInt_inj.mp e)
  omega
theorem iv_nI {n : Nat} (h : n < 2 ^ 31) : iv (n : Int) (n : Int) (nI n) := by
  unfold iv; rw [nI_toInt h]; exact ⟨Int.le_refl _, Int.le_refl _⟩
theorem iv_clx {x : Int32} {n : Nat} {a b : Int} (hx : iv a b x) (h : 0 ≤ a ∧ a = (n : Int) ∧ b = (n : Int)) : x.toNatClampNeg = n := by
  have e := iv_nat hx h.1
  unfold iv at hx
  omega
theorem mmt_nat {i : Int32} {a b : Int} (h : iv a b i) (hb : 0 ≤ a ∧ b < 5) : ∃ n : Nat, (1 ≤ n ∧ n ≤ 3646) ∧ mmt i.toNatClampNeg = nI n := by
  obtain ⟨j, hj, e⟩ := vp_in_of (iv_in (n := 5) h hb) (by decide)
  rw [e, nI_clamp (by omega)]
  match j, hj with
  | 0, _ => exact ⟨1, by decide, by decide⟩
  | 1, _ => exact ⟨6, by decide, by decide⟩
  | 2, _ => exact ⟨46, by decide, by decide⟩
  | 3, _ => exact ⟨406, by decide, by decide⟩
  | 4, _ => exact ⟨3646, by decide, by decide⟩
  | n + 5, h => exact absurd h (by omega)
theorem pw_nat {i : Int32} {a b : Int} (h : iv a b i) (hb : 0 ≤ a ∧ b < 5) : ∃ n : Nat, (1 ≤ n ∧ n ≤ 10000) ∧ pw i.toNatClampNeg = nI n := by
  obtain ⟨j, hj, e⟩ := vp_in_of (iv_in (n := 5) h hb) (by decide)
  rw [e, nI_clamp (by omega)]
  match j, hj with
  | 0, _ => exact ⟨1, by decide, by decide⟩
  | 1, _ => exact ⟨10, by decide, by decide⟩
  | 2, _ => exact ⟨100, by decide, by decide⟩
  | 3, _ => exact ⟨1000, by decide, by decide⟩
  | 4, _ => exact ⟨10000, by decide, by decide⟩
  | n + 5, h => exact absurd h (by omega)

theorem fiT {v : Int32} {post : Int32 → va_W → Prop} {p : Program} {l : Launch} {e : Env} {R : Room} {s : State} {m : MethodId} {args : Array Value} {below : List Frame} {meth : Method} {c : Code} {H : Heap} {locs : List Loc} {cells slots mc ms : Nat} {V : GV} {A : Nat → Prop} {w : va_W} {cc : ByteArray} {pc : Nat} {ls : Array Slot} {ty : FieldType} (hn : narrow ty (.int v) = .int v) (hx : p.tables.exec = Jvm.exec) (hb : c.code = cc) (hr : meth.sig.returnType = some ty) (hlk : meth.locks = false) (hK : va_K V.1 vwCl (tyV V) s) (hP : va_P V.1 vwCl w H) (hD : va_D A w) (hS : va_S A s.heap H locs) (hdg : decode cc pc = .ok (.ireturn, 1)) (hc : cells ≤ mc) (hs : slots ≤ ms) (hp : post v w) :
    W p l e R s m args below meth c H locs cells slots (MQ below (QI V post A) args s mc ms A) (F0 m pc ls [.int v]) :=
  W.widen hc hs (W.zret hx hb hr hn (fun t ht hW => ⟨⟨v, w, rfl, hp, by rw [ht]; exact hP, va_K.moved hW.alike hK, hD⟩, hS.F ht⟩) hS.2.2 hdg hlk)
theorem o_recv {s : State} {A : Nat → Prop} {H : Heap} {locs : List Loc} {E : String} {t : Nat} (h : va_O E t A s s.heap) (hS : va_S A s.heap H locs) : ∃ cell : Cell, H[t]? = some cell ∧ cell.vm.isStatics = false ∧ s.vm.findClass E = some cell.cls := by
  obtain ⟨cell, h1, h2, h3, -⟩ := h.kept hS.2.1
  exact ⟨cell, h1, h2, h3⟩
theorem rnVx {p : Program} {l : Launch} {e : Env} {R : Room} {s : State} {m : MethodId} {args : Array Value} {below : List Frame} {meth : Method} {c : Code} {H : Heap} {locs : List Loc} {cells slots mc ms : Nat} {V : GV} {A : Nat → Prop} {ws wc : va_W} {cc bytes : ByteArray} {pc nL mL n k index : Nat} {ls : Array Slot} {st rest As : List Value} {own : String} {y : MethodName} {b : Nat} {ret : Option FieldType} {Qc : (Nat → Prop) → Array Value → State → Outcome → State → Prop}
    (hF : CallFix p m c cc nL s args gw own) (hM : Ct l V y (.code y bytes mL ret) k (.ref b :: As) wc mc ms Qc) (hm : MtV y bytes mL ret n) (hl : Cond.methodLink own index y ∈ gw) (hk : k + 1 ≤ R.frames ∧ 8 + (mL + 11) + 40 * k ≤ R.locals) (hK : va_K V.1 vwCl (tyV V) s) (hP : va_P V.1 vwCl ws H) (hD : va_D A ws) (hS : va_S A s.heap H locs) (hA : ∀ q : Nat, s.heap.size ≤ q → A q) (hE : En V A s s.heap) (isC : List Nat) (hn : va_nd isC = true) (hC : isC.map (fun i => ws[i]?) = wc.map some)
    (hr : ∃ cell : Cell, H[b]? = some cell ∧ cell.vm.isStatics = false ∧ s.vm.findClass y.cls = some cell.cls) (hal : As.length = n) (hlz : ls.size = nL) (hst : st = As.reverse ++ .ref b :: rest) (hro : (rest.map fun v => v.category).sum ≤ 8) (hdg : decode cc pc = .ok (.invokevirtual index, 3)) (hf : cells + mc ≤ R.cells ∧ slots + ms ≤ R.slots) :
    va_Run p l e R s m args below meth c H locs cells slots mc ms (F0 m pc ls st) rest (Qc (va_A wc H.size) (Value.ref b :: As).toArray) (va_A wc H.size) := by
  have hg := hF.2.2.2.2
  exact va_runV hF (hM H.size) ⟨callB_of n hg (gw_good hm.1.1) rfl rfl rfl (hg _ hm.1.2.1) (hg _ hl) hm.1.2.2 hk, hg _ hm.2.1, hg _ hm.2.2⟩ ⟨PcV.blind, hr, preV hK hP hD hS hA hE isC hn hC⟩ rfl hal hlz hst (lv_room hro) hdg hf
theorem at_ix {x d pl en j ln : Int32} {a b : Int} (ex : x = pl + j) (ey : d = en - pl) (q : ln = d) (c : j < ln) (hpl : iv 0 900 pl) (hen : iv 0 900 en) (hj : iv a b j) (h0 : 0 ≤ a) : iv 0 899 x := by
  unfold iv at *
  rw [Int32.lt_iff_toInt_lt, q, ey, Int32.toInt_sub, iv_bm (by omega) (by omega)] at c
  rw [ex, Int32.toInt_add, iv_bm (by omega) (by omega)]
  omega
set_option maxRecDepth 100000 in
theorem sL_all : ∀ q ∈ sL, 1 ≤ q.2.2.2.length ∧ q.2.2.2.length ≤ 116 := by decide
theorem sL_len {i : Nat} {q : String × Nat × String × List Int32} (h : sL[i]? = some q) : 1 ≤ q.2.2.2.length ∧ q.2.2.2.length ≤ 116 := sL_all q (List.mem_of_getElem? h)
theorem iv_eqp {x y : Int32} {a : Int} (hx : iv a a x) (hy : iv a a y) : x = y := by
  unfold iv at *; exact Int32.toInt_inj.mp (by omega)
/-- a constant's character -/
def chF (s : List Int32) (i : Int32) : Int32 := ((s.getD i.toNatClampNeg 0 &&& 255).toUInt32 % 65536).toInt32
/-- whether the token there is this constant -/
def atF (s : List Int32) (k p e : Int32) (f : Nat → Int32) : Int32 := if (k = 1 ∨ k = 3) ∧ nI s.length = e - p ∧ (∀ j : Nat, j < s.length → f (p + nI j).toNatClampNeg = chF s (nI j)) then 1 else 0
theorem atF_k {s : List Int32} {k p e : Int32} {f : Nat → Int32} (h1 : ¬ k = 1) (h3 : ¬ k = 3) : 0 = atF s k p e f := by
  unfold atF; rw [if_neg]; rintro ⟨h | h, -⟩
  · exact h1 h
  · exact h3 h
theorem atF_l {s : List Int32} {k p e d : Int32} {f : Nat → Int32} (ed : d = e - p) (h : ¬ nI s.length = d) : 0 = atF s k p e f := by
  unfold atF; rw [if_neg]; rintro ⟨-, h2, -⟩; rw [ed] at h; exact h h2
theorem atF_n {s : List Int32} {k p e u x y z : Int32} {f : Nat → Int32} {a b : Int} (hs : s.length ≤ 116) (hu : iv a b u) (h0 : 0 ≤ a) (hl : u < nI s.length) (ex : x = p + u) (ey : y = f x.toNatClampNeg) (ez : z = chF s u) (h : ¬ y = z) : 0 = atF s k p e f := by
  unfold atF; rw [if_neg]; rintro ⟨-, -, h2⟩
  obtain ⟨j, hj, e1⟩ := nI_of (iv_n0lt hu h0)
  have hj2 : j < s.length := by
    rw [e1, Int32.lt_iff_toInt_lt, nI_toInt hj, nI_toInt (by omega)] at hl; omega
  have := h2 j hj2
  rw [← e1] at this
  exact h (by rw [ey, ez, ex]; exact this)
theorem atF_1 {s : List Int32} {k p e u d : Int32} {f : Nat → Int32} {a b : Int} (hs : s.length ≤ 116) (hk : k = 1 ∨ k = 3) (ed : d = e - p) (hd : nI s.length = d) (hu : iv a b u) (h0 : 0 ≤ a) (hl : ¬ u < nI s.length) (hi : ∀ j : Nat, (j : Int) < u.toInt → f (p + nI j).toNatClampNeg = chF s (nI j)) : 1 = atF s k p e f := by
  unfold atF; rw [if_pos]
  refine ⟨hk, ed ▸ hd, fun j hj => hi j ?_⟩
  rw [Int32.lt_iff_toInt_lt, nI_toInt (by omega)] at hl; omega
theorem atF_s {s : List Int32} {p u u' x y z : Int32} {f : Nat → Int32} {a b : Int} (hu : iv a b u) (h0 : 0 ≤ a ∧ b < 2147483647) (ex : x = p + u) (ey : y = f x.toNatClampNeg) (ez : z = chF s u) (h : y = z) (hi : ∀ j : Nat, (j : Int) < u.toInt → f (p + nI j).toNatClampNeg = chF s (nI j)) (e' : u' = u + 1) : ∀ j : Nat, (j : Int) < u'.toInt → f (p + nI j).toNatClampNeg = chF s (nI j) := fun j hj => by
  obtain ⟨i, hi2, e1⟩ := nI_of (iv_n0lt hu h0.1)
  have hu2 : u.toInt = i := by rw [e1, nI_toInt hi2]
  rw [e', Int32.toInt_add, (by decide : (1 : Int32).toInt = 1), iv_bm (by unfold iv at hu; omega) (by unfold iv at hu; omega)] at hj
  rcases Nat.lt_or_ge j i with q | q
  · exact hi j (by omega)
  · have : j = i := by omega
    subst this
    rw [← e1, ← ez, ← h, ey, ex]
theorem atF_01 (s : List Int32) (k p e : Int32) (f : Nat → Int32) : iv 0 1 (atF s k p e f) := by
  unfold atF; split
  · exact iv_c _ (by decide)
  · exact iv_c _ (by decide)
