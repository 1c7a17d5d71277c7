
theorem tI_lt {a b : Int32} : (a < b) = (a.toInt < b.toInt) := propext Int32.lt_iff_toInt_lt
theorem tI_le {a b : Int32} : (a ≤ b) = (a.toInt ≤ b.toInt) := propext Int32.le_iff_toInt_le
theorem tI_eq {a b : Int32} : (a = b) = (a.toInt = b.toInt) := propext Int32.toInt_inj.symm
theorem tL_lt {a b : Int64} : (a < b) = (a.toInt < b.toInt) := propext Int64.lt_iff_toInt_lt
theorem tL_le {a b : Int64} : (a ≤ b) = (a.toInt ≤ b.toInt) := propext Int64.le_iff_toInt_le
theorem tL_eq {a b : Int64} : (a = b) = (a.toInt = b.toInt) := propext Int64.toInt_inj.symm
theorem tWx (x : Int32) : x.toInt64.toInt = x.toInt := Int32.toInt_toInt64 x
theorem vp_mono {i : Int32} {n N : Nat} (h : n ≤ N) (hi : vp_in i n) : vp_in i N := fun q => hi (q.elim Or.inl (fun z => Or.inr (Nat.le_trans h z)))
theorem cpy0 (a b n : Nat) : va_cpy (fun _ => (0 : Int32)) (fun _ => 0) a b n = fun _ => 0 := by
  funext k; unfold va_cpy; split <;> rfl
theorem upd0 (k : Nat) : upd (fun _ => (0 : Int32)) k 0 = fun _ => 0 := by
  funext j; unfold upd; split <;> rfl
theorem updL0 (k : Nat) : vp_updL (fun _ => (0 : Int64)) k 0 = fun _ => 0 := by
  funext j; unfold vp_updL; split <;> rfl
theorem updup (f : Nat → Int32) (k : Nat) (a b : Int32) : upd (upd f k a) k b = upd f k b := by
  funext j; unfold upd; split <;> rfl
theorem updLup (f : Nat → Int64) (k : Nat) (a b : Int64) : vp_updL (vp_updL f k a) k b = vp_updL f k b := by
  funext j; unfold vp_updL; split <;> rfl
theorem updid {f : Nat → Int32} {k : Nat} {v : Int32} (h : f k = v) : upd f k v = f := by
  funext j; unfold upd; split
  · next e => rw [e, h]
  · rfl
theorem updLid {f : Nat → Int64} {k : Nat} {v : Int64} (h : f k = v) : vp_updL f k v = f := by
  funext j; unfold vp_updL; split
  · next e => rw [e, h]
  · rfl
theorem fill_s {f : Nat → Int32} {i : Nat} {c : Int32} (h : ∀ j : Nat, j < i → f j = c) (hi : i < 2 ^ 31) : ∀ j : Nat, j < i + 1 → upd f (nI i).toNatClampNeg c j = c := fun j hj => by
  rw [nI_clamp hi]
  unfold upd
  split
  · rfl
  · exact h j (by omega)
theorem loopW {p : Program} {l : Launch} {e : Env} {R : Room} {s : State} {m : MethodId} {args : Array Value} {below : List Frame} {meth : Method} {c : Code} {cells slots : Nat} {Q : State → Prop} (N : Nat) (X : Nat → Heap → List Loc → Array Slot → Prop) (g : Array Slot → JFrame)
    (step : ∀ (i : Nat) (H : Heap) (locs : List Loc) (ls : Array Slot), i ≤ N → X i H locs ls → (i < N → ∀ (H' : Heap) (locs' : List Loc) (ls' : Array Slot), X (i + 1) H' locs' ls' → W p l e R s m args below meth c H' locs' cells slots Q (g ls')) → W p l e R s m args below meth c H locs cells slots Q (g ls))
    (i0 : Nat) (h0 : i0 ≤ N) {H : Heap} {locs : List Loc} {ls : Array Slot} (hX : X i0 H locs ls) : W p l e R s m args below meth c H locs cells slots Q (g ls) := by
  have key : ∀ n i : Nat, N - i = n → i ≤ N → ∀ (H : Heap) (locs : List Loc) (ls : Array Slot), X i H locs ls → W p l e R s m args below meth c H locs cells slots Q (g ls) := by
    intro n
    induction n with
    | zero => intro i hn hi H locs ls hX; exact step i H locs ls hi hX (fun h => absurd h (by omega))
    | succ n ih => intro i hn hi H locs ls hX; exact step i H locs ls hi hX (fun h H' l' ls' hX' => ih (i + 1) (by omega) (by omega) H' l' ls' hX')
  exact key _ i0 rfl h0 H locs ls hX
theorem natOf {x M c : Int32} {n m : Nat} (hM : M.toInt = n) (hc : c.toInt = m) (h : c ≤ x) (h5 : x ≤ M) : ∃ j : Nat, m ≤ j ∧ j ≤ n ∧ x = nI j := by
  rw [Int32.le_iff_toInt_le] at h h5
  obtain ⟨j, hj, e⟩ := nI_of2 hM (show ¬ x < 0 by rw [Int32.lt_iff_toInt_lt, (by decide : (0 : Int32).toInt = 0)]; omega) (Int32.le_iff_toInt_le.mpr h5)
  refine ⟨j, ?_, hj, e⟩
  rw [e, nI_toInt (by have := Int32.toInt_lt M; omega)] at h
  omega

theorem updsw {f : Nat → Int32} {j k : Nat} {a b c : Int32} (h : j ≠ k) : upd (upd (upd f j a) k b) j c = upd (upd f j c) k b := by
  funext q; unfold upd
  by_cases h1 : q = j
  · rw [if_pos h1, if_neg (fun e => h (h1.symm.trans e)), if_pos h1]
  · by_cases h2 : q = k
    · rw [if_neg h1, if_pos h2, if_pos h2]
    · rw [if_neg h1, if_neg h2, if_neg h1, if_neg h2, if_neg h1]
theorem gw_ws {ws : List Cond} (ps : List Nat) (hp : ws = ps.filterMap (fun i => tables_1[i]?)) (h : ws.all goodWord = true) : ∀ w ∈ ws, w ∈ gw := fun w hw => by
  have h1 := List.all_eq_true.mp h w hw
  rw [hp] at hw
  obtain ⟨i, -, hi⟩ := List.mem_filterMap.mp hw
  exact gw_m (List.mem_append_right _ (List.mem_of_getElem? hi)) h1

def mo (z : Nat → Nat) (i0 i5 i6 i7 i8 i9 i10 i11 i12 i13 i14 i18 i19 i22 i23 i29 : Int32) : List Value := [.int i0, .ref (z 1), .ref (z 2), .ref (z 3), .ref (z 4), .int i5, .int i6, .int i7, .int i8, .int i9, .int i10, .int i11, .int i12, .int i13, .int i14, .ref (z 15), .ref (z 16), .ref (z 17), .int i18, .int i19, .ref (z 20), .ref (z 21), .int i22, .int i23, .ref (z 24), .ref (z 25), .ref (z 26), .ref (z 27), .ref (z 28), .int i29, .ref (z 30), .ref (z 31), .ref (z 32), .ref (z 33), .ref (z 34), .ref (z 35), .ref (z 36), .ref (z 37), .ref (z 38), .ref (z 39)]
theorem inX0 : ∀ w ∈ wsX00, w ∈ gw := gw_ws [200, 202] (by decide +kernel) (by decide +kernel)
theorem dfX0 : ∀ j, j < 2 → defaultValue (tyX0 j) = vp_V [.int 0, .int 0] j := fun j hj => match j, hj with
  | 0, _ => rfl
  | 1, _ => rfl
  | n + 2, h => absurd h (by omega)
theorem inX1 : ∀ w ∈ wsX10, w ∈ gw := gw_ws [87, 89, 91, 93, 95, 97, 99, 101, 103, 105, 107, 109, 111, 113, 115, 117, 119, 121] (by decide +kernel) (by decide +kernel)
theorem dfX1 : ∀ j, j < 18 → defaultValue (tyX1 j) = vp_V [.int 0, .int 0, .int 0, .int 0, .int 0, .int 0, .null, .null, .null, .null, .null, .null, .null, .int 0, .int 0, .int 0, .int 0, .int 0] j := fun j hj => match j, hj with
  | 0, _ => rfl
  | 1, _ => rfl
  | 2, _ => rfl
  | 3, _ => rfl
  | 4, _ => rfl
  | 5, _ => rfl
  | 6, _ => rfl
  | 7, _ => rfl
  | 8, _ => rfl
  | 9, _ => rfl
  | 10, _ => rfl
  | 11, _ => rfl
  | 12, _ => rfl
  | 13, _ => rfl
  | 14, _ => rfl
  | 15, _ => rfl
  | 16, _ => rfl
  | 17, _ => rfl
  | n + 18, h => absurd h (by omega)
theorem inX2 : ∀ w ∈ wsX20, w ∈ gw := gw_ws [1068, 1070, 1072, 1074, 1076, 1078, 1080] (by decide +kernel) (by decide +kernel)
theorem dfX2 : ∀ j, j < 7 → defaultValue (tyX2 j) = vp_V [.int 0, .null, .null, .null, .null, .null, .int 0] j := fun j hj => match j, hj with
  | 0, _ => rfl
  | 1, _ => rfl
  | 2, _ => rfl
  | 3, _ => rfl
  | 4, _ => rfl
  | 5, _ => rfl
  | 6, _ => rfl
  | n + 7, h => absurd h (by omega)
theorem inX3 : ∀ w ∈ wsX30, w ∈ gw := gw_ws [265, 267, 269, 271, 273] (by decide +kernel) (by decide +kernel)
theorem dfX3 : ∀ j, j < 5 → defaultValue (tyX3 j) = vp_V [.null, .int 0, .int 0, .int 0, .int 0] j := fun j hj => match j, hj with
  | 0, _ => rfl
  | 1, _ => rfl
  | 2, _ => rfl
  | 3, _ => rfl
  | 4, _ => rfl
  | n + 5, h => absurd h (by omega)
theorem inX4 : ∀ w ∈ wsX40, w ∈ gw := gw_ws [177, 179, 181, 183, 185, 187] (by decide +kernel) (by decide +kernel)
theorem dfX4 : ∀ j, j < 6 → defaultValue (tyX4 j) = vp_V [.null, .null, .null, .null, .null, .null] j := fun j hj => match j, hj with
  | 0, _ => rfl
  | 1, _ => rfl
  | 2, _ => rfl
  | 3, _ => rfl
  | 4, _ => rfl
  | 5, _ => rfl
  | n + 6, h => absurd h (by omega)
theorem inX5 : ∀ w ∈ wsX50, w ∈ gw := gw_ws [219, 221, 223, 225] (by decide +kernel) (by decide +kernel)
theorem dfX5 : ∀ j, j < 4 → defaultValue (tyX5 j) = vp_V [.null, .null, .null, .int 0] j := fun j hj => match j, hj with
  | 0, _ => rfl
  | 1, _ => rfl
  | 2, _ => rfl
  | 3, _ => rfl
  | n + 4, h => absurd h (by omega)
theorem inX6 : ∀ w ∈ wsX60, w ∈ gw := gw_ws [146, 148, 150, 152, 154, 156, 158, 160, 162] (by decide +kernel) (by decide +kernel)
theorem dfX6 : ∀ j, j < 9 → defaultValue (tyX6 j) = vp_V [.null, .int 0, .int 0, .null, .int 0, .int 0, .int 0, .int 0, .int 0] j := fun j hj => match j, hj with
  | 0, _ => rfl
  | 1, _ => rfl
  | 2, _ => rfl
  | 3, _ => rfl
  | 4, _ => rfl
  | 5, _ => rfl
  | 6, _ => rfl
  | 7, _ => rfl
  | 8, _ => rfl
  | n + 9, h => absurd h (by omega)
theorem inX7 : ∀ w ∈ wsX70, w ∈ gw := gw_ws [244, 246, 248] (by decide +kernel) (by decide +kernel)
theorem dfX7 : ∀ j, j < 3 → defaultValue (tyX7 j) = vp_V [.null, .int 0, .int 0] j := fun j hj => match j, hj with
  | 0, _ => rfl
  | 1, _ => rfl
  | 2, _ => rfl
  | n + 3, h => absurd h (by omega)
theorem inX8 : ∀ w ∈ wsX80, w ∈ gw := gw_ws [811, 813, 815, 817, 819, 821, 823, 825, 827, 829, 831, 833, 835, 837, 839, 841, 843] (by decide +kernel) (by decide +kernel)
theorem dfX8 : ∀ j, j < 17 → defaultValue (tyX8 j) = vp_V [.int 0, .int 0, .null, .null, .null, .int 0, .int 0, .null, .null, .null, .null, .null, .null, .null, .int 0, .int 0, .int 0] j := fun j hj => match j, hj with
  | 0, _ => rfl
  | 1, _ => rfl
  | 2, _ => rfl
  | 3, _ => rfl
  | 4, _ => rfl
  | 5, _ => rfl
  | 6, _ => rfl
  | 7, _ => rfl
  | 8, _ => rfl
  | 9, _ => rfl
  | 10, _ => rfl
  | 11, _ => rfl
  | 12, _ => rfl
  | 13, _ => rfl
  | 14, _ => rfl
  | 15, _ => rfl
  | 16, _ => rfl
  | n + 17, h => absurd h (by omega)
theorem inX9 : ∀ w ∈ wsX90, w ∈ gw := gw_ws [291, 293, 295, 297, 299, 301, 303, 305, 307, 309, 311, 313, 315, 317, 319] (by decide +kernel) (by decide +kernel)
theorem dfX9 : ∀ j, j < 15 → defaultValue (tyX9 j) = vp_V [.null, .int 0, .null, .null, .null, .null, .null, .null, .null, .null, .null, .null, .int 0, .int 0, .int 0] j := fun j hj => match j, hj with
  | 0, _ => rfl
  | 1, _ => rfl
  | 2, _ => rfl
  | 3, _ => rfl
  | 4, _ => rfl
  | 5, _ => rfl
  | 6, _ => rfl
  | 7, _ => rfl
  | 8, _ => rfl
  | 9, _ => rfl
  | 10, _ => rfl
  | 11, _ => rfl
  | 12, _ => rfl
  | 13, _ => rfl
  | 14, _ => rfl
  | n + 15, h => absurd h (by omega)
theorem inX10 : ∀ w ∈ wsX100, w ∈ gw := gw_ws [1224, 1226, 1228, 1230, 1232, 1234, 1236, 1238, 1240, 1242, 1244, 1246, 1248, 1250, 1252, 1254, 1256, 1258, 1260, 1262, 1264, 1266, 1268, 1270, 1272, 1274, 1276, 1278, 1280, 1282, 1284, 1286, 1288, 1290, 1292, 1294, 1296, 1298, 1300, 1302] (by decide +kernel) (by decide +kernel)
theorem dfX10 : ∀ j, j < 40 → defaultValue (tyX10 j) = vp_V [.int 0, .null, .null, .null, .null, .int 0, .int 0, .int 0, .int 0, .int 0, .int 0, .int 0, .int 0, .int 0, .int 0, .null, .null, .null, .int 0, .int 0, .null, .null, .int 0, .int 0, .null, .null, .null, .null, .null, .int 0, .null, .null, .null, .null, .null, .null, .null, .null, .null, .null] j := fun j hj => match j, hj with
  | 0, _ => rfl
  | 1, _ => rfl
  | 2, _ => rfl
  | 3, _ => rfl
  | 4, _ => rfl
  | 5, _ => rfl
  | 6, _ => rfl
  | 7, _ => rfl
  | 8, _ => rfl
  | 9, _ => rfl
  | 10, _ => rfl
  | 11, _ => rfl
  | 12, _ => rfl
  | 13, _ => rfl
  | 14, _ => rfl
  | 15, _ => rfl
  | 16, _ => rfl
  | 17, _ => rfl
  | 18, _ => rfl
  | 19, _ => rfl
  | 20, _ => rfl
  | 21, _ => rfl
  | 22, _ => rfl
  | 23, _ => rfl
  | 24, _ => rfl
  | 25, _ => rfl
  | 26, _ => rfl
  | 27, _ => rfl
  | 28, _ => rfl
  | 29, _ => rfl
  | 30, _ => rfl
  | 31, _ => rfl
  | 32, _ => rfl
  | 33, _ => rfl
  | 34, _ => rfl
  | 35, _ => rfl
  | 36, _ => rfl
  | 37, _ => rfl
  | 38, _ => rfl
  | 39, _ => rfl
  | n + 40, h => absurd h (by omega)

def iv (a b : Int) (x : Int32) : Prop := a ≤ x.toInt ∧ x.toInt ≤ b
theorem iv_c (x : Int32) {a b : Int} (h : a ≤ x.toInt ∧ x.toInt ≤ b) : iv a b x := h
theorem iv_w {a b a' b' : Int} {x : Int32} (h : iv a b x) (h1 : a' ≤ a ∧ b ≤ b') : iv a' b' x := ⟨Int.le_trans h1.1 h.1, Int.le_trans h.2 h1.2⟩
theorem iv_top (x : Int32) : iv (-2147483648) 2147483647 x := ⟨Int32.le_toInt x, by have := Int32.toInt_lt x; omega⟩
theorem iv_bm {z : Int} (h1 : -2147483648 ≤ z) (h2 : z ≤ 2147483647) : z.bmod (2 ^ 32) = z := by
  apply Int.bmod_eq_of_le <;> omega
theorem iv_add {x y : Int32} {a b c d A B : Int} (hx : iv a b x) (hy : iv c d y) (h : A ≤ a + c ∧ b + d ≤ B ∧ -2147483648 ≤ A ∧ B ≤ 2147483647) : iv A B (x + y) := by
  unfold iv at *
  rw [Int32.toInt_add, iv_bm (by omega) (by omega)]; omega
theorem iv_sub {x y : Int32} {a b c d A B : Int} (hx : iv a b x) (hy : iv c d y) (h : A ≤ a - d ∧ b - c ≤ B ∧ -2147483648 ≤ A ∧ B ≤ 2147483647) : iv A B (x - y) := by
  unfold iv at *
  rw [Int32.toInt_sub, iv_bm (by omega) (by omega)]; omega
theorem iv_mulc {x y : Int32} {a b k A B : Int} (hx : iv a b x) (hy : iv k k y) (h : 0 ≤ k ∧ A ≤ a * k ∧ b * k ≤ B ∧ -2147483648 ≤ A ∧ B ≤ 2147483647) : iv A B (x * y) := by
  unfold iv at *
  have e : y.toInt = k := by omega
  have h1 : a * k ≤ x.toInt * k := Int.mul_le_mul_of_nonneg_right hx.1 h.1
  have h2 : x.toInt * k ≤ b * k := Int.mul_le_mul_of_nonneg_right hx.2 h.1
  rw [Int32.toInt_mul, e, iv_bm (by omega) (by omega)]; omega
theorem iv_cmul {x y : Int32} {a b k A B : Int} (hx : iv k k x) (hy : iv a b y) (h : 0 ≤ k ∧ A ≤ a * k ∧ b * k ≤ B ∧ -2147483648 ≤ A ∧ B ≤ 2147483647) : iv A B (x * y) := by
  rw [Int32.mul_comm]; exact iv_mulc hy hx h
theorem iv_nz {x : Int32} {a b : Int} (hx : iv a b x) (h : 0 < a ∨ b < 0) : ¬ x = 0 := by
  intro e
  rw [e] at hx
  unfold iv at hx
  rw [(by decide : (0 : Int32).toInt = 0)] at hx
  omega
theorem iv_in {i : Int32} {a b : Int} {n : Nat} (h : iv a b i) (h0 : 0 ≤ a ∧ b < n) : vp_in i n := by
  unfold iv at h
  rw [vp_in_iff]; omega
theorem iv_lt {x y : Int32} {a b c d : Int} (hx : iv a b x) (hy : iv c d y) (h : b < c) : x < y := by
  unfold iv at *; rw [Int32.lt_iff_toInt_lt]; omega
theorem iv_le {x y : Int32} {a b c d : Int} (hx : iv a b x) (hy : iv c d y) (h : b ≤ c) : x ≤ y := by
  unfold iv at *; rw [Int32.le_iff_toInt_le]; omega
theorem iv_nlt {x y : Int32} {a b c d : Int} (hx : iv a b x) (hy : iv c d y) (h : d ≤ a) : ¬ x < y := by
  unfold iv at *; rw [Int32.lt_iff_toInt_lt]; omega
theorem iv_nle {x y : Int32} {a b c d : Int} (hx : iv a b x) (hy : iv c d y) (h : d < a) : ¬ x ≤ y := by
  unfold iv at *; rw [Int32.le_iff_toInt_le]; omega
theorem iv_ne {x y : Int32} {a b c d : Int} (hx : iv a b x) (hy : iv c d y) (h : b < c ∨ d < a) : ¬ x = y := by
  unfold iv at *; intro e; rw [e] at hx; omega
theorem iv_l1 {x y : Int32} {a b c d B : Int} (q : x < y) (hx : iv a b x) (hy : iv c d y) (h : d - 1 ≤ B) : iv a B x := by
  unfold iv at *; rw [Int32.lt_iff_toInt_lt] at q; omega
theorem iv_l2 {x y : Int32} {a b c d A : Int} (q : x < y) (hx : iv a b x) (hy : iv c d y) (h : A ≤ a + 1) : iv A d y := by
  unfold iv at *; rw [Int32.lt_iff_toInt_lt] at q; omega
theorem iv_e1 {x y : Int32} {a b c d B : Int} (q : x ≤ y) (hx : iv a b x) (hy : iv c d y) (h : d ≤ B) : iv a B x := by
  unfold iv at *; rw [Int32.le_iff_toInt_le] at q; omega
theorem iv_e2 {x y : Int32} {a b c d A : Int} (q : x ≤ y) (hx : iv a b x) (hy : iv c d y) (h : A ≤ a) : iv A d y := by
  unfold iv at *; rw [Int32.le_iff_toInt_le] at q; omega
theorem iv_q {x y : Int32} {c d : Int} (q : x = y) (hy : iv c d y) : iv c d x := q ▸ hy
theorem iv_n0 {x y : Int32} {a b k : Int} (q : ¬ x = y) (hx : iv a b x) (hy : iv k k y) (h : a = k) : iv (k + 1) b x := by
  unfold iv at *
  have : x.toInt ≠ y.toInt := fun e => q (Int32.toInt_inj.mp e)
  omega
theorem iv_n1 {x y : Int32} {a b k : Int} (q : ¬ x = y) (hx : iv a b x) (hy : iv k k y) (h : b = k) : iv a (k - 1) x := by
  unfold iv at *
  have : x.toInt ≠ y.toInt := fun e => q (Int32.toInt_inj.mp e)
  omega
theorem ivU {f : Nat → Int32} {a b : Int} (h : ∀ j, iv a b (f j)) (k : Nat) {x : Int32} (hx : iv a b x) : ∀ j, iv a b (upd f k x j) := fun j => by
  unfold upd; split
  · exact hx
  · exact h j
theorem mu_up {i : Int32} {a b B : Int} (h : iv a b i) (hb : b < B ∧ b < 2147483647) : (B - (i + 1).toInt).toNat < (B - i.toInt).toNat := by
  unfold iv at *
  rw [Int32.toInt_add, (by decide : (1 : Int32).toInt = 1), iv_bm (by have := Int32.le_toInt i; omega) (by omega)]
  omega
theorem mu_dn {i : Int32} {a b : Int} (h : iv a b i) (hb : -2147483648 < a) : ((i + (-1)).toInt + 2147483648).toNat < (i.toInt + 2147483648).toNat := by
  unfold iv at *
  rw [Int32.toInt_add, (by decide : (-1 : Int32).toInt = -1), iv_bm (by omega) (by have := Int32.toInt_lt i; omega)]
  omega
theorem pw_iv {i : Int32} {a b : Int} (h : iv a b i) (hb : 0 ≤ a ∧ b < 5) : iv 1 10000 (pw i.toNatClampNeg) := by
  have h2 : vp_in i 5 := iv_in h hb
  obtain ⟨j, hj, e⟩ := vp_in_of h2 (by decide)
  rw [e, nI_clamp (by omega)]
  match j, hj with
  | 0, _ => exact iv_c _ (by decide)
  | 1, _ => exact iv_c _ (by decide)
  | 2, _ => exact iv_c _ (by decide)
  | 3, _ => exact iv_c _ (by decide)
  | 4, _ => exact iv_c _ (by decide)
  | n + 5, h => exact absurd h (by omega)
theorem loopF {p : Program} {l : Launch} {e : Env} {R : Room} {s : State} {m : MethodId} {args : Array Value} {below : List Frame} {meth : Method} {c : Code} {cells slots : Nat} {Q : State → Prop} (X : Nat → Heap → List Loc → Array Slot → Prop) (g : Array Slot → JFrame)
    (step : ∀ (n : Nat) (H : Heap) (locs : List Loc) (ls : Array Slot), X n H locs ls → (∀ (n' : Nat) (H' : Heap) (locs' : List Loc) (ls' : Array Slot), n' < n → X n' H' locs' ls' → W p l e R s m args below meth c H' locs' cells slots Q (g ls')) → W p l e R s m args below meth c H locs cells slots Q (g ls))
    (n : Nat) {H : Heap} {locs : List Loc} {ls : Array Slot} (hX : X n H locs ls) : W p l e R s m args below meth c H locs cells slots Q (g ls) := by
  induction n using Nat.strongRecOn generalizing H locs ls with
  | ind n ih => exact step n H locs ls hX (fun n' H' l' ls' hn hX' => ih n' hn hX')
theorem iv_max {x y : Int32} {a b c d A B : Int} (hx : iv a b x) (hy : iv c d y) (h : (A ≤ a ∨ A ≤ c) ∧ b ≤ B ∧ d ≤ B) : iv A B (if x < y then y else x) := by
  unfold iv at *
  split
  · next q => rw [Int32.lt_iff_toInt_lt] at q; omega
  · next q => rw [Int32.lt_iff_toInt_lt] at q; omega
theorem iv_min {x y : Int32} {a b c d A B : Int} (hx : iv a b x) (hy : iv c d y) (h : A ≤ a ∧ A ≤ c ∧ (b ≤ B ∨ d ≤ B)) : iv A B (if y < x then y else x) := by
  unfold iv at *
  split
  · next q => rw [Int32.lt_iff_toInt_lt] at q; omega
  · next q => rw [Int32.lt_iff_toInt_lt] at q; omega
theorem iv_n0lt {x : Int32} {a b : Int} (hx : iv a b x) (h : 0 ≤ a) : ¬ x < 0 := by
  unfold iv at *; rw [Int32.lt_iff_toInt_lt, (by decide : (0 : Int32).toInt = 0)]; omega
theorem iv_nat {x : Int32} {a b : Int} (hx : iv a b x) (h : 0 ≤ a) : (x.toNatClampNeg : Int) = x.toInt := by
  obtain ⟨j, hj, e⟩ := nI_of (iv_n0lt hx h)
  rw [e, nI_clamp hj, nI_toInt hj]
theorem iv_cl {x : Int32} {a b : Int} {n : Nat} (hx : iv a b x) (h : 0 ≤ a ∧ b ≤ n) : Int32.toNatClampNeg 0 + x.toNatClampNeg ≤ n := by
  have e := iv_nat hx h.1
  unfold iv at hx
  rw [(by decide : Int32.toNatClampNeg 0 = 0)]
  omega
theorem iv_and1 (x : Int32) : iv 0 1 (x &&& 1) := by
  obtain ⟨j, hj, e⟩ := pk_andE x (m := 1) 1 (by decide)
  rw [e]; unfold iv; rw [nI_toInt (by omega)]; omega
theorem iv_divp {x : Int32} {a b k B : Int} {y : Int32} (hx : iv a b x) (hk : 0 ≤ a ∧ 0 < k ∧ b / k ≤ B) (hy : y.toInt = k) : iv 0 B (x / y) := by
  obtain ⟨j, hj, e⟩ := nI_of (iv_n0lt hx hk.1)
  have hy2 : ¬ y < 0 := by rw [Int32.lt_iff_toInt_lt, (by decide : (0 : Int32).toInt = 0)]; omega
  obtain ⟨d, hd, e2⟩ := nI_of hy2
  have hdk : (d : Int) = k := by rw [← hy, e2, nI_toInt hd]
  have hj2 : (j : Int) ≤ b := by have := hx.2; rw [e, nI_toInt hj] at this; exact this
  rw [e, e2, pk_div hj (by omega) hd]
  unfold iv
  rw [nI_toInt (Nat.lt_of_le_of_lt (Nat.div_le_self _ _) hj)]
  have h3 : ((j / d : Nat) : Int) = (j : Int) / (d : Int) := Int.natCast_ediv j d
  have h4 : (j : Int) / (d : Int) ≤ b / (d : Int) := Int.ediv_le_ediv (by omega) hj2
  rw [hdk] at h3 h4
  have h5 : 0 ≤ (j : Int) / k := Int.ediv_nonneg (by omega) (by omega)
  omega
theorem iv_remp {x : Int32} {a b k B : Int} {y : Int32} (hx : iv a b x) (hk : 0 ≤ a ∧ 0 < k ∧ k - 1 ≤ B) (hy : y.toInt = k) : iv 0 B (x - x / y * y) := by
  obtain ⟨j, hj, e⟩ := nI_of (iv_n0lt hx hk.1)
  have hy2 : ¬ y < 0 := by rw [Int32.lt_iff_toInt_lt, (by decide : (0 : Int32).toInt = 0)]; omega
  obtain ⟨d, hd, e2⟩ := nI_of hy2
  have hdk : (d : Int) = k := by rw [← hy, e2, nI_toInt hd]
  rw [e, e2, pk_rem hj (by omega) hd]
  unfold iv
  have h1 : j % d < d := Nat.mod_lt _ (by omega)
  rw [nI_toInt (by omega)]
  omega
theorem iv_subl {x y : Int32} {a b c d B : Int} (q : y ≤ x) (hx : iv a b x) (hy : iv c d y) (h : b - c ≤ B ∧ 0 ≤ c ∧ B ≤ 2147483647) : iv 0 B (x - y) := by
  unfold iv at *
  rw [Int32.le_iff_toInt_le] at q
  rw [Int32.toInt_sub, iv_bm (by omega) (by omega)]; omega
theorem iv_addb {x i k : Int32} {a b c d n A B : Int} (e : x = i + k) (hx : iv a b x) (hi : iv c d i) (hk : iv n n k) (h : -2147483648 ≤ c + n ∧ d + n ≤ 2147483647 ∧ (A ≤ a - n ∨ A ≤ c) ∧ (b - n ≤ B ∨ d ≤ B)) : iv A B i := by
  unfold iv at *
  have hkn : k.toInt = n := by omega
  rw [e, Int32.toInt_add, hkn, iv_bm (by omega) (by omega)] at hx
  omega
theorem iv_s1 {x u t : Int32} {a b c d : Int} (e : x = u + 1) (q : u < t) (hu : iv a b u) (ht : iv c d t) : x ≤ t := by
  unfold iv at *
  rw [Int32.lt_iff_toInt_lt] at q
  rw [Int32.le_iff_toInt_le, e, Int32.toInt_add, (by decide : (1 : Int32).toInt = 1), iv_bm (by have := Int32.le_toInt u; omega) (by have := Int32.toInt_lt t; omega)]
  omega
theorem iv_nel {x t : Int32} (h : x ≤ t) (q : ¬ x = t) : x < t := by
  rw [Int32.le_iff_toInt_le] at h
  rw [Int32.lt_iff_toInt_lt]
  have : x.toInt ≠ t.toInt := fun e => q (Int32.toInt_inj.mp e)
  omega
theorem iv_nI {n : Nat} (h : n < 2 ^ 31) : iv (n : Int) (n : Int) (nI n) := by
  unfold iv; rw [nI_toInt h]; exact ⟨Int.le_refl _, Int.le_refl _⟩
theorem iv_clx {x : Int32} {n : Nat} {a b : Int} (hx : iv a b x) (h : 0 ≤ a ∧ a = (n : Int) ∧ b = (n : Int)) : x.toNatClampNeg = n := by
  have e := iv_nat hx h.1
  unfold iv at hx
  omega
theorem mmt_nat {i : Int32} {a b : Int} (h : iv a b i) (hb : 0 ≤ a ∧ b < 5) : ∃ n : Nat, (1 ≤ n ∧ n ≤ 3646) ∧ mmt i.toNatClampNeg = nI n := by
  obtain ⟨j, hj, e⟩ := vp_in_of (iv_in (n := 5) h hb) (by decide)
  rw [e, nI_clamp (by omega)]
  match j, hj with
  | 0, _ => exact ⟨1, by decide, by decide⟩
  | 1, _ => exact ⟨6, by decide, by decide⟩
  | 2, _ => exact ⟨46, by decide, by decide⟩
  | 3, _ => exact ⟨406, by decide, by decide⟩
  | 4, _ => exact ⟨3646, by decide, by decide⟩
  | n + 5, h => exact absurd h (by omega)
theorem pw_nat {i : Int32} {a b : Int} (h : iv a b i) (hb : 0 ≤ a ∧ b < 5) : ∃ n : Nat, (1 ≤ n ∧ n ≤ 10000) ∧ pw i.toNatClampNeg = nI n := by
  obtain ⟨j, hj, e⟩ := vp_in_of (iv_in (n := 5) h hb) (by decide)
  rw [e, nI_clamp (by omega)]
  match j, hj with
  | 0, _ => exact ⟨1, by decide, by decide⟩
  | 1, _ => exact ⟨10, by decide, by decide⟩
  | 2, _ => exact ⟨100, by decide, by decide⟩
  | 3, _ => exact ⟨1000, by decide, by decide⟩
  | 4, _ => exact ⟨10000, by decide, by decide⟩
  | n + 5, h => exact absurd h (by omega)

theorem fiT {v : Int32} {post : Int32 → va_W → Prop} {p : Program} {l : Launch} {e : Env} {R : Room} {s : State} {m : MethodId} {args : Array Value} {below : List Frame} {meth : Method} {c : Code} {H : Heap} {locs : List Loc} {cells slots mc ms : Nat} {V : GV} {A : Nat → Prop} {w : va_W} {cc : ByteArray} {pc : Nat} {ls : Array Slot} {ty : FieldType} (hn : narrow ty (.int v) = .int v) (hx : p.tables.exec = Jvm.exec) (hb : c.code = cc) (hr : meth.sig.returnType = some ty) (hlk : meth.locks = false) (hK : va_K V.1 vwCl (tyV V) s) (hP : va_P V.1 vwCl w H) (hD : va_D A w) (hS : va_S A s.heap H locs) (hdg : decode cc pc = .ok (.ireturn, 1)) (hc : cells ≤ mc) (hs : slots ≤ ms) (hp : post v w) :
    W p l e R s m args below meth c H locs cells slots (MQ below (QI V post A) args s mc ms A) (F0 m pc ls [.int v]) :=
  W.widen hc hs (W.zret hx hb hr hn (fun t ht hW => ⟨⟨v, w, rfl, hp, by rw [ht]; exact hP, va_K.moved hW.alike hK, hD⟩, hS.F ht⟩) hS.2.2 hdg hlk)
theorem o_recv {s : State} {A : Nat → Prop} {H : Heap} {locs : List Loc} {E : String} {t : Nat} (h : va_O E t A s s.heap) (hS : va_S A s.heap H locs) : ∃ cell : Cell, H[t]? = some cell ∧ cell.vm.isStatics = false ∧ s.vm.findClass E = some cell.cls := by
  obtain ⟨cell, h1, h2, h3, -⟩ := h.kept hS.2.1
  exact ⟨cell, h1, h2, h3⟩
theorem rnVx {p : Program} {l : Launch} {e : Env} {R : Room} {s : State} {m : MethodId} {args : Array Value} {below : List Frame} {meth : Method} {c : Code} {H : Heap} {locs : List Loc} {cells slots mc ms : Nat} {V : GV} {A : Nat → Prop} {ws wc : va_W} {cc bytes : ByteArray} {pc nL mL n k index : Nat} {ls : Array Slot} {st rest As : List Value} {own : String} {y : MethodName} {b : Nat} {ret : Option FieldType} {Qc : (Nat → Prop) → Array Value → State → Outcome → State → Prop}
    (hF : CallFix p m c cc nL s args gw own) (hM : Ct l V y (.code y bytes mL ret) k (.ref b :: As) wc mc ms Qc) (hm : MtV y bytes mL ret n) (hl : Cond.methodLink own index y ∈ gw) (hk : k + 1 ≤ R.frames ∧ 8 + (mL + 11) + 40 * k ≤ R.locals) (hK : va_K V.1 vwCl (tyV V) s) (hP : va_P V.1 vwCl ws H) (hD : va_D A ws) (hS : va_S A s.heap H locs) (hA : ∀ q : Nat, s.heap.size ≤ q → A q) (hE : En V A s s.heap) (isC : List Nat) (hn : va_nd isC = true) (hC : isC.map (fun i => ws[i]?) = wc.map some)
    (hr : ∃ cell : Cell, H[b]? = some cell ∧ cell.vm.isStatics = false ∧ s.vm.findClass y.cls = some cell.cls) (hal : As.length = n) (hlz : ls.size = nL) (hst : st = As.reverse ++ .ref b :: rest) (hro : (rest.map fun v => v.category).sum ≤ 8) (hdg : decode cc pc = .ok (.invokevirtual index, 3)) (hf : cells + mc ≤ R.cells ∧ slots + ms ≤ R.slots) :
    va_Run p l e R s m args below meth c H locs cells slots mc ms (F0 m pc ls st) rest (Qc (va_A wc H.size) (Value.ref b :: As).toArray) (va_A wc H.size) := by
  have hg := hF.2.2.2.2
  exact va_runV hF (hM H.size) ⟨callB_of n hg (gw_good hm.1.1) rfl rfl rfl (hg _ hm.1.2.1) (hg _ hl) hm.1.2.2 hk, hg _ hm.2.1, hg _ hm.2.2⟩ ⟨PcV.blind, hr, preV hK hP hD hS hA hE isC hn hC⟩ rfl hal hlz hst (lv_room hro) hdg hf
theorem at_ix {x d pl en j ln : Int32} {a b : Int} (ex : x = pl + j) (ey : d = en - pl) (q : ln = d) (c : j < ln) (hpl : iv 0 900 pl) (hen : iv 0 900 en) (hj : iv a b j) (h0 : 0 ≤ a) : iv 0 899 x := by
  unfold iv at *
  rw [Int32.lt_iff_toInt_lt, q, ey, Int32.toInt_sub, iv_bm (by omega) (by omega)] at c
  rw [ex, Int32.toInt_add, iv_bm (by omega) (by omega)]
  omega
set_option maxRecDepth 100000 in
theorem sL_all : ∀ q ∈ sL, 1 ≤ q.2.2.2.length ∧ q.2.2.2.length ≤ 116 := by decide
theorem sL_len {i : Nat} {q : String × Nat × String × List Int32} (h : sL[i]? = some q) : 1 ≤ q.2.2.2.length ∧ q.2.2.2.length ≤ 116 := sL_all q (List.mem_of_getElem? h)
theorem iv_eqp {x y : Int32} {a : Int} (hx : iv a a x) (hy : iv a a y) : x = y := by
  unfold iv at *; exact Int32.toInt_inj.mp (by omega)
/-- a constant's character -/
def chF (s : List Int32) (i : Int32) : Int32 := ((s.getD i.toNatClampNeg 0 &&& 255).toUInt32 % 65536).toInt32
/-- whether the token there is this constant -/
def atF (s : List Int32) (k p e : Int32) (f : Nat → Int32) : Int32 := if (k = 1 ∨ k = 3) ∧ nI s.length = e - p ∧ (∀ j : Nat, j < s.length → f (p + nI j).toNatClampNeg = chF s (nI j)) then 1 else 0
theorem atF_k {s : List Int32} {k p e : Int32} {f : Nat → Int32} (h1 : ¬ k = 1) (h3 : ¬ k = 3) : 0 = atF s k p e f := by
  unfold atF; rw [if_neg]; rintro ⟨h | h, -⟩
  · exact h1 h
  · exact h3 h
theorem atF_l {s : List Int32} {k p e d : Int32} {f : Nat → Int32} (ed : d = e - p) (h : ¬ nI s.length = d) : 0 = atF s k p e f := by
  unfold atF; rw [if_neg]; rintro ⟨-, h2, -⟩; rw [ed] at h; exact h h2
theorem atF_n {s : List Int32} {k p e u x y z : Int32} {f : Nat → Int32} {a b : Int} (hs : s.length ≤ 116) (hu : iv a b u) (h0 : 0 ≤ a) (hl : u < nI s.length) (ex : x = p + u) (ey : y = f x.toNatClampNeg) (ez : z = chF s u) (h : ¬ y = z) : 0 = atF s k p e f := by
  unfold atF; rw [if_neg]; rintro ⟨-, -, h2⟩
  obtain ⟨j, hj, e1⟩ := nI_of (iv_n0lt hu h0)
  have hj2 : j < s.length := by
    rw [e1, Int32.lt_iff_toInt_lt, nI_toInt hj, nI_toInt (by omega)] at hl; omega
  have := h2 j hj2
  rw [← e1] at this
  exact h (by rw [ey, ez, ex]; exact this)
theorem atF_1 {s : List Int32} {k p e u d : Int32} {f : Nat → Int32} {a b : Int} (hs : s.length ≤ 116) (hk : k = 1 ∨ k = 3) (ed : d = e - p) (hd : nI s.length = d) (hu : iv a b u) (h0 : 0 ≤ a) (hl : ¬ u < nI s.length) (hi : ∀ j : Nat, (j : Int) < u.toInt → f (p + nI j).toNatClampNeg = chF s (nI j)) : 1 = atF s k p e f := by
  unfold atF; rw [if_pos]
  refine ⟨hk, ed ▸ hd, fun j hj => hi j ?_⟩
  rw [Int32.lt_iff_toInt_lt, nI_toInt (by omega)] at hl; omega
theorem atF_s {s : List Int32} {p u u' x y z : Int32} {f : Nat → Int32} {a b : Int} (hu : iv a b u) (h0 : 0 ≤ a ∧ b < 2147483647) (ex : x = p + u) (ey : y = f x.toNatClampNeg) (ez : z = chF s u) (h : y = z) (hi : ∀ j : Nat, (j : Int) < u.toInt → f (p + nI j).toNatClampNeg = chF s (nI j)) (e' : u' = u + 1) : ∀ j : Nat, (j : Int) < u'.toInt → f (p + nI j).toNatClampNeg = chF s (nI j) := fun j hj => by
  obtain ⟨i, hi2, e1⟩ := nI_of (iv_n0lt hu h0.1)
  have hu2 : u.toInt = i := by rw [e1, nI_toInt hi2]
  rw [e', Int32.toInt_add, (by decide : (1 : Int32).toInt = 1), iv_bm (by unfold iv at hu; omega) (by unfold iv at hu; omega)] at hj
  rcases Nat.lt_or_ge j i with q | q
  · exact hi j (by omega)
  · have : j = i := by omega
    subst this
    rw [← e1, ← ez, ← h, ey, ex]
theorem atF_01 (s : List Int32) (k p e : Int32) (f : Nat → Int32) : iv 0 1 (atF s k p e f) := by
  unfold atF; split
  · exact iv_c _ (by decide)
  · exact iv_c _ (by decide)

def WA (c : Int32) (f4 f1 : Nat → Int32) : Prop := ∀ j : Nat, (f4 j).toInt ≤ c.toInt ∧ (0 < (f4 j).toInt → (f1 ((f4 j).toNatClampNeg - 1)).toNatClampNeg = j)
def WB (o d c : Int32) (f6 : Nat → Int32) : Prop := ∀ i k : Nat, (i : Int) < o.toInt → (k : Int) < d.toInt → (f6 (i * 4 + k)).toInt < c.toInt
def WC (c : Int32) (f2 : Nat → Int32) : Prop := ∀ i : Nat, (i : Int) < c.toInt → (f2 i).toInt ≤ i
def WAf (i c : Int32) (f4 f1 : Nat → Int32) : Prop := WA c f4 f1 ∧ ∀ j : Nat, (f4 j).toInt = 0 ∨ i.toInt < (f4 j).toInt
theorem clampNat {x : Int32} (h : 0 ≤ x.toInt) : (x.toNatClampNeg : Int) = x.toInt := by
  show ((x.toInt.toNat : Nat) : Int) = x.toInt
  omega
theorem inc_toInt {c c' : Int32} {a b : Int} (ec : c' = c + 1) (hc : iv a b c) (hb : -2147483648 ≤ a ∧ b < 2147483647) : c'.toInt = c.toInt + 1 := by
  unfold iv at hc
  rw [ec, Int32.toInt_add, (by decide : (1 : Int32).toInt = 1), iv_bm (by omega) (by omega)]
theorem upd_at {f : Nat → Int32} {i : Nat} {v : Int32} : upd f i v i = v := by simp [upd]
theorem upd_ne {f : Nat → Int32} {i j : Nat} {v : Int32} (h : j ≠ i) : upd f i v j = f j := by simp [upd, h]
theorem WA_meet {c c' s : Int32} {f4 f1 f4' f1' : Nat → Int32} {b N M : Int} (h : WA c f4 f1) (t4 : ∀ j, iv 0 M (f4 j)) (ec : c' = c + 1) (hc : iv 0 N c) (hN : N < 2147483647) (hs : iv 0 b s) (e4 : f4' = upd f4 s.toNatClampNeg c') (e1 : f1' = upd f1 c.toNatClampNeg s) : WA c' f4' f1' := by
  have ec' := inc_toInt ec hc ⟨by decide, hN⟩
  have hc0 : 0 ≤ c.toInt := hc.1
  have kc := clampNat hc0
  intro j
  by_cases hj : j = s.toNatClampNeg
  · subst hj
    have e : f4' s.toNatClampNeg = c' := by rw [e4, upd_at]
    rw [e]
    refine ⟨Int.le_refl _, fun _ => ?_⟩
    have kc' := clampNat (x := c') (by omega)
    have : c'.toNatClampNeg - 1 = c.toNatClampNeg := by omega
    rw [this, e1, upd_at]
  · have e : f4' j = f4 j := by rw [e4, upd_ne hj]
    rw [e]
    refine ⟨by have := (h j).1; omega, fun h0 => ?_⟩
    have h1 := (h j).1
    have kf := clampNat (x := f4 j) (by omega)
    have : (f4 j).toNatClampNeg - 1 ≠ c.toNatClampNeg := by omega
    rw [e1, upd_ne this]
    exact (h j).2 h0
theorem WB_meet {o d c c' : Int32} {f6 : Nat → Int32} {N : Int} (h : WB o d c f6) (ec : c' = c + 1) (hc : iv 0 N c) (hN : N < 2147483647) : WB o d c' f6 := fun i k h1 h2 => by
  have := inc_toInt ec hc ⟨by decide, hN⟩
  have := h i k h1 h2
  omega
theorem WC_meet {c c' v : Int32} {f2 f2' : Nat → Int32} {N : Int} (h : WC c f2) (ec : c' = c + 1) (hc : iv 0 N c) (hN : N < 2147483647) (e2 : f2' = upd f2 c.toNatClampNeg v) (hv : v.toInt ≤ c.toInt) : WC c' f2' := fun i h1 => by
  have e := inc_toInt ec hc ⟨by decide, hN⟩
  have kc := clampNat hc.1
  by_cases hi : i = c.toNatClampNeg
  · subst hi; rw [e2, upd_at]; omega
  · rw [e2, upd_ne hi]; exact h i (by omega)
theorem meet_r {c x y r : Int32} {f4 f1 : Nat → Int32} {i : Nat} {M : Int} (h : WA c f4 f1) (t4 : ∀ j, iv 0 M (f4 j)) (ex : x = f4 i) (ey : y = x - 1) (er : r = if (0 : Int32) < y then y else 0) : 0 < c.toInt → r.toInt < c.toInt := fun h0 => by
  have h1 := (h i).1
  have h2 := t4 i
  rw [← ex] at h1 h2
  have hy : iv (-1) (c.toInt - 1) y := by
    rw [ey]
    have h3 := Int32.toInt_lt c
    exact iv_sub (a := 0) (b := c.toInt) (c := 1) (d := 1) ⟨h2.1, h1⟩ (iv_c _ (by decide)) (by omega)
  have hr := iv_max (A := 0) (B := c.toInt - 1) (iv_c (0 : Int32) (a := 0) (b := 0) (by decide)) hy (by omega)
  rw [← er] at hr
  have := hr.2
  omega

theorem WAf_0 {c i : Int32} {f4 f1 : Nat → Int32} {M : Int} (h : WA c f4 f1) (t4 : ∀ j, iv 0 M (f4 j)) (ei : i.toInt = 0) : WAf i c f4 f1 := ⟨h, fun j => by have := (t4 j).1; omega⟩
theorem WAf_s {i i' c x : Int32} {f4 f1 f4' : Nat → Int32} {N : Int} (h : WAf i c f4 f1) (ei : i' = i + 1) (hi : iv 0 N i) (hN : N < 2147483647) (ex : x = f1 i.toNatClampNeg) (e4 : f4' = upd f4 x.toNatClampNeg 0) (hc : 0 ≤ c.toInt) : WAf i' c f4' f1 := by
  have e' := inc_toInt ei hi ⟨by decide, hN⟩
  have ki := clampNat hi.1
  refine ⟨fun j => ?_, fun j => ?_⟩
  · by_cases hj : j = x.toNatClampNeg
    · subst hj
      rw [e4, upd_at, (by decide : (0 : Int32).toInt = 0)]
      exact ⟨hc, fun q => absurd q (by omega)⟩
    · rw [e4, upd_ne hj]; exact h.1 j
  · by_cases hj : j = x.toNatClampNeg
    · subst hj
      rw [e4, upd_at]; exact Or.inl (by decide)
    · rw [e4, upd_ne hj]
      rcases h.2 j with q | q
      · exact Or.inl q
      · right
        rcases (by omega : i.toInt + 1 < (f4 j).toInt ∨ (f4 j).toInt ≤ i.toInt + 1) with q2 | q2
        · omega
        · exfalso
          have q3 : (f4 j).toInt = i.toInt + 1 := by omega
          have h0 := hi.1
          have kf := clampNat (x := f4 j) (by omega)
          have h1 := (h.1 j).2 (by omega)
          have : (f4 j).toNatClampNeg - 1 = i.toNatClampNeg := by omega
          rw [this, ← ex] at h1
          exact hj h1.symm
theorem WAf_e {i c c' : Int32} {f4 f1 : Nat → Int32} (h : WAf i c f4 f1) (hi : ¬ i < c) (ec : c'.toInt = 0) : WA c' f4 f1 := fun j => by
  rw [Int32.lt_iff_toInt_lt] at hi
  have := (h.1 j).1
  have : (f4 j).toInt = 0 ∨ (f4 j).toInt < 0 ∨ 0 < (f4 j).toInt := by omega
  rcases h.2 j with q | q
  · exact ⟨by omega, fun q2 => by omega⟩
  · omega
theorem WB_0 {o d c : Int32} {f6 : Nat → Int32} (h : o.toInt = 0) : WB o d c f6 := fun i k h1 _ => by omega
theorem WC_0 {c : Int32} {f2 : Nat → Int32} (h : c.toInt = 0) : WC c f2 := fun i h1 => by omega
theorem WA_0 {c : Int32} {f1 : Nat → Int32} (h : c.toInt = 0) : WA c (fun _ => 0) f1 := fun j => by
  rw [(by decide : (0 : Int32).toInt = 0)]; exact ⟨by omega, fun q => absurd q (by omega)⟩
/-- the row that is being opened -/
def WR (u a c : Int32) (f6 : Nat → Int32) : Prop := ∀ k : Nat, (k : Int) < u.toInt → (f6 (a.toNatClampNeg * 4 + k)).toInt < c.toInt
theorem WR_0 {u a c : Int32} {f6 : Nat → Int32} (h : u.toInt = 0) : WR u a c f6 := fun k q => by omega
theorem WR_m {u a c c' : Int32} {f6 : Nat → Int32} (h : WR u a c f6) (hc : c.toInt ≤ c'.toInt) : WR u a c' f6 := fun k q => by have := h k q; omega
theorem ix4 {a u x y : Int32} {N M : Int} (ha : iv 0 N a) (hu : iv 0 M u) (hN : N ≤ 100000 ∧ M ≤ 100000) (ex : x = a * 4) (ey : y = x + u) : y.toNatClampNeg = a.toNatClampNeg * 4 + u.toNatClampNeg := by
  have h1 : iv 0 (4 * N) x := by rw [ex]; exact iv_mulc ha (iv_c (4 : Int32) (a := 4) (b := 4) (by decide)) (by omega)
  have ka := clampNat ha.1
  have ku := clampNat hu.1
  have e1 : x.toInt = a.toInt * 4 := by
    unfold iv at ha
    rw [ex, Int32.toInt_mul, (by decide : (4 : Int32).toInt = 4), iv_bm (by omega) (by omega)]
  have e2 : y.toInt = x.toInt + u.toInt := by
    unfold iv at ha hu h1
    rw [ey, Int32.toInt_add, iv_bm (by omega) (by omega)]
  have := ha.1
  have := hu.1
  have ky := clampNat (x := y) (by omega)
  omega
theorem WR_s {u u' a c x y r : Int32} {f6 f6' : Nat → Int32} {N M : Int} (h : WR u a c f6) (ha : iv 0 N a) (hu : iv 0 M u) (hN : N ≤ 100000 ∧ M ≤ 100000) (ex : x = a * 4) (ey : y = x + u) (e6 : f6' = upd f6 y.toNatClampNeg r) (hr : r.toInt < c.toInt) (eu : u' = u + 1) : WR u' a c f6' := fun k q => by
  have e' := inc_toInt eu hu ⟨by decide, by omega⟩
  have ku := clampNat hu.1
  have ei := ix4 ha hu hN ex ey
  rw [e6, ei]
  by_cases hk : k = u.toNatClampNeg
  · subst hk; rw [upd_at]; exact hr
  · rw [upd_ne (by omega)]; exact h k (by omega)
theorem WB_s {o d c r : Int32} {i : Nat} {f6 f6' : Nat → Int32} (h : WB o d c f6) (e6 : f6' = upd f6 i r) (hr : r.toInt < c.toInt) : WB o d c f6' := fun a k h1 h2 => by
  rw [e6]
  by_cases hk : a * 4 + k = i
  · subst hk; rw [upd_at]; exact hr
  · rw [upd_ne hk]; exact h a k h1 h2
theorem WB_open {o o' d u a c : Int32} {f6 : Nat → Int32} {N : Int} (h : WB o d c f6) (hr : WR u a c f6) (hu : ¬ u < d) (ha : iv 0 N a) (hN : N < 2147483647) (hn : a.toInt ≤ o.toInt) (eo : o' = a + 1) : WB o' d c f6 := fun i k h1 h2 => by
  have e' := inc_toInt eo ha ⟨by decide, hN⟩
  have ka := clampNat ha.1
  rw [Int32.lt_iff_toInt_lt] at hu
  by_cases hi : i = a.toNatClampNeg
  · subst hi; exact hr k (by omega)
  · exact h i k (by omega) h2
theorem lvl {a c x : Int32} {f2 : Nat → Int32} {N : Int} (h : WC c f2) (ha : iv 0 N a) (hac : a.toInt < c.toInt) (ex : x = f2 a.toNatClampNeg) : x.toInt ≤ a.toInt := by
  have ka := clampNat ha.1
  have := h a.toNatClampNeg (by omega)
  rw [ex]; omega
theorem lvl1 {a c x z : Int32} {f2 : Nat → Int32} {N : Int} (h : WC c f2) (ha : iv 0 N a) (hN : N < 2147483646) (hac : a.toInt < c.toInt) (ex : x = f2 a.toNatClampNeg) (ez : z = x + 1) : z.toInt ≤ c.toInt := by
  have h1 := lvl h ha hac ex
  have h2 := Int32.le_toInt x
  have h3 := ha.2
  rw [ez, Int32.toInt_add, (by decide : (1 : Int32).toInt = 1), iv_bm (by omega) (by omega)]
  omega

theorem iv_nIw {n : Nat} {a b : Int} (h : n < 2147483648 ∧ a ≤ n ∧ n ≤ b) : iv a b (nI n) := by
  unfold iv; rw [nI_toInt h.1]; exact h.2
/-- of a row, how many of the first d deeds lead to t; of the first i rows -/
def cr (f : Nat → Int32) (i t : Nat) : Nat → Nat
  | 0 => 0
  | d + 1 => cr f i t d + if (f (i * 4 + d)).toNatClampNeg = t then 1 else 0
def cq (f : Nat → Int32) (D t : Nat) : Nat → Nat
  | 0 => 0
  | i + 1 => cq f D t i + cr f i t D
def ss (f : Nat → Int32) (D C : Nat) : Nat → Nat
  | 0 => 0
  | t + 1 => ss f D C t + cq f D t C
def s1 (f : Nat → Int32) (i d : Nat) : Nat → Nat
  | 0 => 0
  | t + 1 => s1 f i d t + cr f i t d
theorem cr_le (f : Nat → Int32) (i t d : Nat) : cr f i t d ≤ d := by
  induction d with
  | zero => exact Nat.le_refl _
  | succ d ih => simp only [cr]; split <;> omega
theorem cr_mono (f : Nat → Int32) (i t : Nat) {d e : Nat} (h : d ≤ e) : cr f i t d ≤ cr f i t e := by
  induction e with
  | zero => have : d = 0 := by omega
            subst this; exact Nat.le_refl _
  | succ e ih =>
    rcases Nat.lt_or_ge d (e + 1) with q | q
    · have := ih (by omega); simp only [cr]; omega
    · have : d = e + 1 := by omega
      subst this; exact Nat.le_refl _
theorem cq_le (f : Nat → Int32) (D t i : Nat) (hD : D ≤ 4) : cq f D t i ≤ 4 * i := by
  induction i with
  | zero => exact Nat.le_refl _
  | succ i ih => have := cr_le f i t D; simp only [cq]; omega
theorem cq_mono (f : Nat → Int32) (D t : Nat) {i j : Nat} (h : i ≤ j) : cq f D t i ≤ cq f D t j := by
  induction j with
  | zero => have : i = 0 := by omega
            subst this; exact Nat.le_refl _
  | succ j ih =>
    rcases Nat.lt_or_ge i (j + 1) with q | q
    · have := ih (by omega); simp only [cq]; omega
    · have : i = j + 1 := by omega
      subst this; exact Nat.le_refl _
theorem s1_le (f : Nat → Int32) (i d T : Nat) : s1 f i d T ≤ d := by
  induction d with
  | zero =>
    have : s1 f i 0 T = 0 := by
      induction T with
      | zero => rfl
      | succ T ih => simp only [s1, cr, ih]
    omega
  | succ d ih =>
    have : ∀ T, s1 f i (d + 1) T = s1 f i d T + if (f (i * 4 + d)).toNatClampNeg < T then 1 else 0 := by
      intro T
      induction T with
      | zero => simp [s1]
      | succ T ih2 =>
        simp only [s1, cr, ih2]
        by_cases q : (f (i * 4 + d)).toNatClampNeg = T
        · rw [if_pos q, if_neg (by omega), if_pos (by omega)]; omega
        · rw [if_neg q]
          by_cases q2 : (f (i * 4 + d)).toNatClampNeg < T
          · rw [if_pos q2, if_pos (by omega)]; omega
          · rw [if_neg q2, if_neg (by omega)]; omega
    have := this T
    split at this <;> omega
theorem ss_le (f : Nat → Int32) (D C T : Nat) (hD : D ≤ 4) : ss f D C T ≤ 4 * C := by
  induction C with
  | zero =>
    have : ss f D 0 T = 0 := by
      induction T with
      | zero => rfl
      | succ T ih => simp only [ss, cq, ih]
    omega
  | succ C ih =>
    have : ∀ T, ss f D (C + 1) T = ss f D C T + s1 f C D T := by
      intro T
      induction T with
      | zero => rfl
      | succ T ih2 => simp only [ss, s1, cq, ih2]; omega
    have h1 := this T
    have h2 := s1_le f C D T
    omega
/-- the first pass, at a row and a deed of it -/
def P1 (b f : Nat → Int32) (c D i d : Int32) : Prop := ∀ t : Nat, (t : Int) ≤ c.toInt → (b t).toInt = (cq f D.toNatClampNeg t i.toNatClampNeg + cr f i.toNatClampNeg t d.toNatClampNeg : Nat)
theorem P1_0 {b f : Nat → Int32} {c D i d e : Int32} (h : ∀ j : Nat, (j : Int) < e.toInt → b j = 0) (ee : e = c + 1) {N : Int} (hc : iv 0 N c) (hN : N < 2147483647) (hi : i.toNatClampNeg = 0) (hd : d.toNatClampNeg = 0) : P1 b f c D i d := fun t ht => by
  have := inc_toInt ee hc ⟨by decide, hN⟩
  rw [h t (by omega), hi, hd]; rfl
theorem P1_n {b f : Nat → Int32} {c D i d d' : Int32} {i' : Int32} {N : Int} (h : P1 b f c D i d) (hd : ¬ d < D) (hD : iv 0 4 D) (hdD : d.toInt ≤ D.toInt) (hi : iv 0 N i) (hN : N < 2147483647) (ei : i' = i + 1) (hd' : d'.toNatClampNeg = 0) (hd0 : 0 ≤ d.toInt) : P1 b f c D i' d' := fun t ht => by
  have e := inc_toInt ei hi ⟨by decide, hN⟩
  have k1 := clampNat hi.1
  have k2 := clampNat (x := i') (by have := hi.1; omega)
  have k3 := clampNat hd0
  have k4 := clampNat hD.1
  rw [Int32.lt_iff_toInt_lt] at hd
  have e1 : i'.toNatClampNeg = i.toNatClampNeg + 1 := by omega
  have e2 : d.toNatClampNeg = D.toNatClampNeg := by omega
  rw [h t ht, e1, hd', e2]; rfl
theorem bto {r i d c o D : Int32} {f : Nat → Int32} {N M : Int} (er : r = f (i * 4 + d).toNatClampNeg) (hi : iv 0 N i) (hd : iv 0 M d) (hN : N ≤ 100000 ∧ M ≤ 100000) : r = f (i.toNatClampNeg * 4 + d.toNatClampNeg) := by
  rw [er, ix4 (x := i * 4) (y := i * 4 + d) hi hd hN rfl rfl]
theorem bto_lt {r i d c o D : Int32} {f : Nat → Int32} {N M : Int} (h : WB o D c f) (ho : c.toInt ≤ o.toInt) (hic : i < c) (hdD : d < D) (er : r = f (i * 4 + d).toNatClampNeg) (hi : iv 0 N i) (hd : iv 0 M d) (hN : N ≤ 100000 ∧ M ≤ 100000) : r.toInt < c.toInt := by
  rw [Int32.lt_iff_toInt_lt] at hic hdD
  have k1 := clampNat hi.1
  have k2 := clampNat hd.1
  rw [bto er hi hd hN (c := c) (o := o) (D := D)]
  exact h _ _ (by omega) (by omega)
theorem P1_b {b f : Nat → Int32} {c D i d r x : Int32} {N M : Int} (h : P1 b f c D i d) (hr : r.toInt < c.toInt) (hr0 : 0 ≤ r.toInt) (ex : x = b r.toNatClampNeg) (hi : iv 0 N i) (hd : iv 0 M d) (hD : iv 0 4 D) (hdD : d < D) : iv 0 (4 * i.toInt + 3) x := by
  rw [Int32.lt_iff_toInt_lt] at hdD
  have k0 := clampNat hr0
  have k1 := clampNat hi.1
  have k2 := clampNat hd.1
  have k3 := clampNat hD.1
  have hD4 := hD.2
  have e := h r.toNatClampNeg (by omega)
  have := cq_le f D.toNatClampNeg r.toNatClampNeg i.toNatClampNeg (by omega)
  have := cr_le f i.toNatClampNeg r.toNatClampNeg d.toNatClampNeg
  rw [← ex] at e
  unfold iv
  omega
theorem P1_s {b b' f : Nat → Int32} {c D i d d' r x y : Int32} {M K : Int} (h : P1 b f c D i d) (hr0 : 0 ≤ r.toInt) (er : r = f (i.toNatClampNeg * 4 + d.toNatClampNeg)) (ex : x = b r.toNatClampNeg) (ey : y = x + 1) (hx : iv 0 K x) (hK : K < 2147483647) (eb : b' = upd b r.toNatClampNeg y) (ed : d' = d + 1) (hd : iv 0 M d) (hM : M < 2147483647) : P1 b' f c D i d' := fun t ht => by
  have e1 := inc_toInt ey hx ⟨by decide, hK⟩
  have e2 := inc_toInt ed hd ⟨by decide, hM⟩
  have k1 := clampNat hd.1
  have k2 := clampNat (x := d') (by have := hd.1; omega)
  have e3 : d'.toNatClampNeg = d.toNatClampNeg + 1 := by omega
  rw [e3]
  simp only [cr]
  rw [← er]
  have ht' := h t ht
  by_cases q : t = r.toNatClampNeg
  · subst q
    rw [eb, upd_at, if_pos rfl, e1]
    rw [← ex] at ht'
    omega
  · rw [eb, upd_ne q, if_neg (fun q2 => q q2.symm)]; omega
/-- the second pass -/
def P2 (b f : Nat → Int32) (c D i : Int32) : Prop := (∀ t : Nat, (t : Int) < i.toInt → (cq f D.toNatClampNeg t c.toNatClampNeg : Int) ≤ (b t).toInt ∧ (b t).toInt ≤ (ss f D.toNatClampNeg c.toNatClampNeg (t + 1) : Nat)) ∧ ∀ t : Nat, i.toInt ≤ t → (t : Int) ≤ c.toInt → (b t).toInt = (cq f D.toNatClampNeg t c.toNatClampNeg : Nat)
theorem P2_0 {b f : Nat → Int32} {c D i d : Int32} {i2 : Int32} (h : P1 b f c D i d) (hi : ¬ i < c) (hic : i.toInt ≤ c.toInt) (hd : d.toNatClampNeg = 0) (h2 : i2.toInt = 1) (hi0 : 0 ≤ i.toInt) : P2 b f c D i2 := by
  rw [Int32.lt_iff_toInt_lt] at hi
  have k1 := clampNat hi0
  have k2 := clampNat (x := c) (by omega)
  have e1 : i.toNatClampNeg = c.toNatClampNeg := by omega
  have hb : ∀ t : Nat, (t : Int) ≤ c.toInt → (b t).toInt = (cq f D.toNatClampNeg t c.toNatClampNeg : Nat) := fun t ht => by
    have := h t ht
    rw [hd, e1] at this
    simp only [cr] at this
    omega
  refine ⟨fun t ht => ?_, fun t _ ht => hb t ht⟩
  have t0 : t = 0 := by omega
  subst t0
  rw [hb 0 (by omega)]
  simp only [ss]
  omega
theorem P2_b {b f : Nat → Int32} {c D i x : Int32} {N : Int} (h : P2 b f c D i) (hi : iv 1 N i) (hic : i.toInt ≤ c.toInt) (ex : x = b i.toNatClampNeg) (hD : iv 0 4 D) : iv 0 (4 * c.toInt) x := by
  have k1 := clampNat (x := i) (by have := hi.1; omega)
  have k2 := clampNat (x := c) (by have := hi.1; omega)
  have k3 := clampNat hD.1
  have hD4 := hD.2
  have e := h.2 i.toNatClampNeg (by omega) (by omega)
  have := cq_le f D.toNatClampNeg i.toNatClampNeg c.toNatClampNeg (by omega)
  rw [← ex] at e
  unfold iv; omega
theorem P2_sum {b f : Nat → Int32} {c D i x y z w : Int32} {N K : Int} (h : P2 b f c D i) (hi : iv 1 N i) (hN : N < 2147483647) (hic : i.toInt ≤ c.toInt) (hc : c.toInt ≤ K) (hK : 4 * K < 1073741824) (ex : x = b i.toNatClampNeg) (ez : z = i - 1) (ey : y = b z.toNatClampNeg) (ew : w = x + y) (hD : iv 0 4 D) : (cq f D.toNatClampNeg i.toNatClampNeg c.toNatClampNeg : Int) ≤ w.toInt ∧ w.toInt ≤ (ss f D.toNatClampNeg c.toNatClampNeg (i.toNatClampNeg + 1) : Nat) := by
  have hi1 := hi.1
  have k1 := clampNat (x := i) (by omega)
  have k2 := clampNat (x := c) (by omega)
  have k3 := clampNat hD.1
  have hD4 := hD.2
  have ez' : z.toInt = i.toInt - 1 := by
    have := hi.2
    rw [ez, Int32.toInt_sub, (by decide : (1 : Int32).toInt = 1), iv_bm (by omega) (by omega)]
  have k4 := clampNat (x := z) (by omega)
  have e := h.2 i.toNatClampNeg (by omega) (by omega)
  have e2 := h.1 z.toNatClampNeg (by omega)
  have := cq_le f D.toNatClampNeg i.toNatClampNeg c.toNatClampNeg (by omega)
  have := ss_le f D.toNatClampNeg c.toNatClampNeg (z.toNatClampNeg + 1) (by omega)
  rw [← ex] at e
  rw [← ey] at e2
  have e3 : w.toInt = x.toInt + y.toInt := by
    rw [ew, Int32.toInt_add, iv_bm (by omega) (by omega)]
  have e4 : i.toNatClampNeg = z.toNatClampNeg + 1 := by omega
  have e5 : ss f D.toNatClampNeg c.toNatClampNeg (i.toNatClampNeg + 1) = ss f D.toNatClampNeg c.toNatClampNeg (z.toNatClampNeg + 1) + cq f D.toNatClampNeg i.toNatClampNeg c.toNatClampNeg := by
    rw [e4]; rfl
  omega
theorem P2_w {f : Nat → Int32} {c D w : Int32} {t : Nat} {K : Int} (h : (cq f D.toNatClampNeg t c.toNatClampNeg : Int) ≤ w.toInt ∧ w.toInt ≤ (ss f D.toNatClampNeg c.toNatClampNeg (t + 1) : Nat)) (hD : iv 0 4 D) (hc0 : 0 ≤ c.toInt) (hc : c.toInt ≤ K) : iv 0 (4 * K) w := by
  have k2 := clampNat hc0
  have k3 := clampNat hD.1
  have hD4 := hD.2
  have := ss_le f D.toNatClampNeg c.toNatClampNeg (t + 1) (by omega)
  unfold iv; omega
theorem P2_s {b b' f : Nat → Int32} {c D i i' w : Int32} {N : Int} (h : P2 b f c D i) (hi : iv 1 N i) (hN : N < 2147483647) (hw : (cq f D.toNatClampNeg i.toNatClampNeg c.toNatClampNeg : Int) ≤ w.toInt ∧ w.toInt ≤ (ss f D.toNatClampNeg c.toNatClampNeg (i.toNatClampNeg + 1) : Nat)) (eb : b' = upd b i.toNatClampNeg w) (ei : i' = i + 1) : P2 b' f c D i' := by
  have hi1 := hi.1
  have e := inc_toInt ei hi ⟨by decide, hN⟩
  have k1 := clampNat (x := i) (by omega)
  refine ⟨fun t ht => ?_, fun t h1 h2 => ?_⟩
  · by_cases q : t = i.toNatClampNeg
    · subst q; rw [eb, upd_at]; exact hw
    · rw [eb, upd_ne q]; exact h.1 t (by omega)
  · rw [eb, upd_ne (by omega)]; exact h.2 t (by omega) h2
/-- the third pass: what is left of each -/
def P3 (b f : Nat → Int32) (c D i d : Int32) : Prop := ∀ t : Nat, (t : Int) < c.toInt → (cq f D.toNatClampNeg t c.toNatClampNeg : Int) ≤ (b t).toInt + (cq f D.toNatClampNeg t i.toNatClampNeg + cr f i.toNatClampNeg t d.toNatClampNeg : Nat)
theorem P3_0 {b f : Nat → Int32} {c D i i' d : Int32} (h : P2 b f c D i) (hi : c < i) (hi' : i'.toNatClampNeg = 0) (hd : d.toNatClampNeg = 0) : P3 b f c D i' d := fun t ht => by
  rw [Int32.lt_iff_toInt_lt] at hi
  have := (h.1 t (by omega)).1
  omega
theorem P3_n {b f : Nat → Int32} {c D i d d' : Int32} {i' : Int32} {N : Int} (h : P3 b f c D i d) (hd : ¬ d < D) (hD : iv 0 4 D) (hdD : d.toInt ≤ D.toInt) (hi : iv 0 N i) (hN : N < 2147483647) (ei : i' = i + 1) (hd' : d'.toNatClampNeg = 0) (hd0 : 0 ≤ d.toInt) : P3 b f c D i' d' := fun t ht => by
  have e := inc_toInt ei hi ⟨by decide, hN⟩
  have k1 := clampNat hi.1
  have k2 := clampNat (x := i') (by have := hi.1; omega)
  have k3 := clampNat hd0
  have k4 := clampNat hD.1
  rw [Int32.lt_iff_toInt_lt] at hd
  have e1 : i'.toNatClampNeg = i.toNatClampNeg + 1 := by omega
  have e2 : d.toNatClampNeg = D.toNatClampNeg := by omega
  have := h t ht
  rw [e1, hd']
  rw [e2] at this
  exact this
theorem P3_b {b f : Nat → Int32} {c D i d r x : Int32} {N M K : Int} (h : P3 b f c D i d) (hr : r.toInt < c.toInt) (hr0 : 0 ≤ r.toInt) (er : r = f (i.toNatClampNeg * 4 + d.toNatClampNeg)) (ex : x = b r.toNatClampNeg) (hx : iv 0 K x) (hi : iv 0 N i) (hd : iv 0 M d) (hic : i < c) (hdD : d < D) : iv 1 K x := by
  rw [Int32.lt_iff_toInt_lt] at hdD hic
  have k0 := clampNat hr0
  have k1 := clampNat hi.1
  have k2 := clampNat hd.1
  have k3 := clampNat (x := D) (by have := hd.1; omega)
  have k4 := clampNat (x := c) (by have := hi.1; omega)
  have e := h r.toNatClampNeg (by omega)
  rw [← ex] at e
  have h1 := cq_mono f D.toNatClampNeg r.toNatClampNeg (i := i.toNatClampNeg + 1) (j := c.toNatClampNeg) (by omega)
  have h2 := cr_mono f i.toNatClampNeg r.toNatClampNeg (d := d.toNatClampNeg + 1) (e := D.toNatClampNeg) (by omega)
  simp only [cq] at h1
  have h3 : cr f i.toNatClampNeg r.toNatClampNeg (d.toNatClampNeg + 1) = cr f i.toNatClampNeg r.toNatClampNeg d.toNatClampNeg + 1 := by
    simp only [cr]; rw [← er, if_pos rfl]
  unfold iv at *
  omega
theorem P3_s {b b' f : Nat → Int32} {c D i d d' r x y : Int32} {M K : Int} (h : P3 b f c D i d) (er : r = f (i.toNatClampNeg * 4 + d.toNatClampNeg)) (ex : x = b r.toNatClampNeg) (ey : y = x - 1) (hx : iv 0 K x) (eb : b' = upd b r.toNatClampNeg y) (ed : d' = d + 1) (hd : iv 0 M d) (hM : M < 2147483647) : P3 b' f c D i d' := fun t ht => by
  have e1 : y.toInt = x.toInt - 1 := by
    have h1 := hx.1
    have h2 := Int32.toInt_lt x
    rw [ey, Int32.toInt_sub, (by decide : (1 : Int32).toInt = 1), iv_bm (by omega) (by omega)]
  have e2 := inc_toInt ed hd ⟨by decide, hM⟩
  have k1 := clampNat hd.1
  have k2 := clampNat (x := d') (by have := hd.1; omega)
  have e3 : d'.toNatClampNeg = d.toNatClampNeg + 1 := by omega
  rw [e3]
  simp only [cr]
  rw [← er]
  have ht' := h t ht
  by_cases q : t = r.toNatClampNeg
  · subst q
    rw [eb, upd_at, if_pos rfl, e1]
    rw [← ex] at ht'
    omega
  · rw [eb, upd_ne q, if_neg (fun q2 => q q2.symm)]; omega
/-- how many of the first k are not known -/
def nn (f : Nat → Int32) : Nat → Nat
  | 0 => 0
  | k + 1 => nn f k + if f k = -1 then 1 else 0
theorem nn_le (f : Nat → Int32) (k : Nat) : nn f k ≤ k := by
  induction k with
  | zero => exact Nat.le_refl _
  | succ k ih => simp only [nn]; split <;> omega
theorem nn_out {f : Nat → Int32} {p : Nat} {v : Int32} {k : Nat} (h : k ≤ p) : nn (upd f p v) k = nn f k := by
  induction k with
  | zero => rfl
  | succ k ih => simp only [nn]; rw [ih (by omega), upd_ne (by omega)]
theorem nn_in {f : Nat → Int32} {p : Nat} {v : Int32} {k : Nat} (h : p < k) (hv : v ≠ -1) (hp : f p = -1) : nn (upd f p v) k + 1 = nn f k := by
  induction k with
  | zero => omega
  | succ k ih =>
    simp only [nn]
    rcases Nat.lt_or_ge p k with q | q
    · have := ih q; rw [upd_ne (by omega)]; omega
    · have : p = k := by omega
      subst this
      rw [nn_out (Nat.le_refl _), upd_at, if_neg hv, if_pos hp]
theorem nn_add (f : Nat → Int32) (a k : Nat) : nn f (a + k) ≤ nn f a + k := by
  induction k with
  | zero => exact Nat.le_refl _
  | succ k ih =>
    have : nn f (a + (k + 1)) = nn f (a + k) + if f (a + k) = -1 then 1 else 0 := rfl
    rw [this]; split <;> omega
/-- the queue of the settled -/
def FQ (w : Int32) (f q : Nat → Int32) (B : Int) : Prop := ∀ j : Nat, (j : Int) < w.toInt → 0 ≤ (f (q j).toNatClampNeg).toInt ∧ (f (q j).toNatClampNeg).toInt ≤ j ∧ 0 ≤ (q j).toInt ∧ (q j).toInt < B
def FN (w : Int32) (f : Nat → Int32) (k B : Nat) : Prop := w.toInt + (nn f k : Int) ≤ (B : Int)
theorem FQ_0 {w : Int32} {f q : Nat → Int32} {B : Int} (h : w.toInt = 0) : FQ w f q B := fun j hj => by omega
theorem FN_0 {w : Int32} {f : Nat → Int32} {B : Nat} (h : w.toInt = 0) : FN w f 0 B := by unfold FN; simp only [nn]; omega
/-- a place behind all of the queue's is set -/
theorem FQ_out {w v : Int32} {f q : Nat → Int32} {p : Nat} {B : Int} (h : FQ w f q B) (hp : B ≤ p) : FQ w (upd f p v) q B := fun j hj => by
  have h1 := h j hj
  have := clampNat h1.2.2.1
  rw [upd_ne (by omega)]; exact h1
theorem FQ_w {w : Int32} {f q : Nat → Int32} {B B' : Int} (h : FQ w f q B) (hB : B ≤ B') : FQ w f q B' := fun j hj => by have := h j hj; omega
/-- settled: it was not known -/
theorem FQ_s {w w' p v : Int32} {f q : Nat → Int32} {B : Int} (h : FQ w f q B) (hw : 0 ≤ w.toInt) (ew : w'.toInt = w.toInt + 1) (hp : f p.toNatClampNeg = -1) (hp0 : 0 ≤ p.toInt) (hpB : p.toInt < B) (hv0 : 0 ≤ v.toInt) (hv : v.toInt ≤ w.toInt) : FQ w' (upd f p.toNatClampNeg v) (upd q w.toNatClampNeg p) B := fun j hj => by
  have kw := clampNat hw
  by_cases e : j = w.toNatClampNeg
  · subst e
    rw [upd_at (f := q), upd_at]
    omega
  · rw [upd_ne (f := q) e]
    have h1 := h j (by omega)
    by_cases e2 : (q j).toNatClampNeg = p.toNatClampNeg
    · rw [e2, hp] at h1
      have : (-1 : Int32).toInt = -1 := by decide
      omega
    · rw [upd_ne e2]; exact h1
theorem FN_s {w w' v : Int32} {p : Nat} {f : Nat → Int32} {k B : Nat} (h : FN w f k B) (ew : w'.toInt = w.toInt + 1) (hp : f p = -1) (hk : p < k) (hv : v ≠ -1) : FN w' (upd f p v) k B := by
  unfold FN at *
  have := nn_in (v := v) hk hv hp
  omega
theorem FN_lt {w : Int32} {p : Nat} {f : Nat → Int32} {k B : Nat} (h : FN w f k B) (hp : f p = -1) (hk : p < k) : w.toInt < (B : Int) := by
  unfold FN at h
  have := nn_in (v := 0) hk (by decide) hp
  omega
theorem FN_up {w : Int32} {f : Nat → Int32} {k B m : Nat} (h : FN w f k B) (hm : k ≤ m) : FN w f m (B + (m - k)) := by
  unfold FN at *
  have := nn_add f k (m - k)
  rw [show k + (m - k) = m by omega] at this
  omega
theorem FN_1 {w : Int32} {f : Nat → Int32} {k B : Nat} (h : FN w f k B) : FN w f (k + 1) (B + 1) := by
  have := FN_up (m := k + 1) h (by omega)
  rw [show B + (k + 1 - k) = B + 1 by omega] at this
  exact this
theorem FN_out {w v : Int32} {p : Nat} {f : Nat → Int32} {k B : Nat} (h : FN w f k B) (hp : k ≤ p) : FN w (upd f p v) k B := by
  unfold FN at *; rw [nn_out hp]; exact h
theorem ne_m1 {v : Int32} (h : 0 ≤ v.toInt) : v ≠ -1 := fun e => by
  rw [e, (by decide : (-1 : Int32).toInt = -1)] at h; omega
theorem ix2 {a x : Int32} {N : Int} (ha : iv 0 N a) (hN : N ≤ 100000) (ex : x = a * 2) : x.toInt = a.toInt * 2 ∧ x.toNatClampNeg = a.toNatClampNeg * 2 := by
  have ka := clampNat ha.1
  have e1 : x.toInt = a.toInt * 2 := by
    unfold iv at ha
    rw [ex, Int32.toInt_mul, (by decide : (2 : Int32).toInt = 2), iv_bm (by omega) (by omega)]
  have := ha.1
  have ky := clampNat (x := x) (by omega)
  exact ⟨e1, by omega⟩

theorem FN_00 {w : Int32} {f : Nat → Int32} (h : w.toInt = 0) : FN w f ((0 : Int32).toNatClampNeg * 2) ((0 : Int32).toNatClampNeg * 2) := by
  have e : (0 : Int32).toNatClampNeg * 2 = 0 := by decide
  rw [e]; exact FN_0 h
theorem FQ_00 {w : Int32} {f q : Nat → Int32} (h : w.toInt = 0) (B : Int) : FQ w f q B := FQ_0 h
theorem BA_no {w i i' x x2 : Int32} {f q f1 f2 : Nat → Int32} {N : Int} (hq : FQ w f q (2 * i.toInt)) (hn : FN w f (i.toNatClampNeg * 2) (i.toNatClampNeg * 2)) (hi : iv 0 N i) (hN : N ≤ 100000) (ex : x = i * 2) (ex2 : x2 = x + 1) (e1 : f1 = upd f x.toNatClampNeg (-1)) (e2 : f2 = upd f1 x2.toNatClampNeg (-1)) (ei : i' = i + 1) : FQ w f2 q (2 * i'.toInt) ∧ FN w f2 (i'.toNatClampNeg * 2) (i'.toNatClampNeg * 2) := by
  have h0 := hi.1
  have hx := ix2 hi hN ex
  have e' := inc_toInt ei hi ⟨by decide, by omega⟩
  have ex' := inc_toInt ex2 (a := 0) (b := 200000) ⟨by omega, by have := hi.2; omega⟩ (by decide)
  have k1 := clampNat h0
  have k2 := clampNat (x := i') (by omega)
  have k3 := clampNat (x := x2) (by omega)
  have k4 := clampNat (x := x) (by omega)
  subst e1 e2
  refine ⟨FQ_w (FQ_out (FQ_out hq (by omega)) (by omega)) (by omega), ?_⟩
  have := FN_1 (FN_1 (FN_out (v := -1) (p := x2.toNatClampNeg) (FN_out (v := -1) (p := x.toNatClampNeg) hn (by omega)) (by omega)))
  rw [show i'.toNatClampNeg * 2 = i.toNatClampNeg * 2 + 1 + 1 by omega]
  exact this
theorem BA_w {w i : Int32} {f : Nat → Int32} {N : Int} (hn : FN w f (i.toNatClampNeg * 2) (i.toNatClampNeg * 2)) (hi : iv 0 N i) : w.toInt ≤ 2 * i.toInt := by
  have k1 := clampNat hi.1
  unfold FN at hn
  omega
theorem BA_so {w w3 w4 i i' x x2 : Int32} {f q f1 f2 f3 f4 q3 q4 : Nat → Int32} {N K : Int} (hq : FQ w f q (2 * i.toInt)) (hn : FN w f (i.toNatClampNeg * 2) (i.toNatClampNeg * 2)) (hi : iv 0 N i) (hN : N ≤ 100000) (ex : x = i * 2) (ex2 : x2 = x + 1) (e1 : f1 = upd f x.toNatClampNeg (-1)) (e2 : f2 = upd f1 x2.toNatClampNeg (-1)) (ei : i' = i + 1) (hw : iv 0 K w) (hK : K ≤ 1000000) (e3 : f3 = upd f2 x.toNatClampNeg 0) (g3 : q3 = upd q w.toNatClampNeg x) (u3 : w3 = w + 1) (e4 : f4 = upd f3 x2.toNatClampNeg 0) (g4 : q4 = upd q3 w3.toNatClampNeg x2) (u4 : w4 = w3 + 1) : FQ w4 f4 q4 (2 * i'.toInt) ∧ FN w4 f4 (i'.toNatClampNeg * 2) (i'.toNatClampNeg * 2) := by
  have h := BA_no hq hn hi hN ex ex2 e1 e2 ei
  have h0 := hi.1
  have hx := ix2 hi hN ex
  have e' := inc_toInt ei hi ⟨by decide, by omega⟩
  have ex' := inc_toInt ex2 (a := 0) (b := 200000) ⟨by omega, by have := hi.2; omega⟩ (by decide)
  have w3' := inc_toInt u3 hw ⟨by decide, by omega⟩
  have w4' := inc_toInt u4 (a := 0) (b := K + 1) ⟨by have := hw.1; omega, by have := hw.2; omega⟩ ⟨by decide, by omega⟩
  have hw0 := hw.1
  have k1 := clampNat h0
  have k2 := clampNat (x := i') (by omega)
  have k3 := clampNat (x := x2) (by omega)
  have k4 := clampNat (x := x) (by omega)
  have z : (0 : Int32).toInt = 0 := by decide
  have a1 : f2 x.toNatClampNeg = -1 := by rw [e2, upd_ne (by omega), e1, upd_at]
  have a2 : f3 x2.toNatClampNeg = -1 := by rw [e3, upd_ne (by omega), e2, upd_at]
  have b1 := FQ_s (v := 0) (p := x) (w' := w3) h.1 hw0 w3' a1 (by omega) (by omega) (by omega) (by omega)
  have c1 := FN_s (v := 0) (p := x.toNatClampNeg) (w' := w3) h.2 w3' a1 (by omega) (by decide)
  rw [← e3] at b1 c1
  rw [← g3] at b1
  have b2 := FQ_s (v := 0) (p := x2) (w' := w4) b1 (by omega) w4' a2 (by omega) (by omega) (by omega) (by omega)
  have c2 := FN_s (v := 0) (p := x2.toNatClampNeg) (w' := w4) c1 w4' a2 (by omega) (by decide)
  rw [← e4] at b2 c2
  rw [← g4] at b2
  exact ⟨b2, c2⟩
theorem BA_e {w i c : Int32} {f : Nat → Int32} {N : Int} {m : Nat} (hn : FN w f (i.toNatClampNeg * 2) (i.toNatClampNeg * 2)) (hi : iv 0 N i) (hm : N ≤ (m : Int)) : FN w f (m * 2) (m * 2) := by
  have k1 := clampNat hi.1
  have := hi.2
  have := FN_up (m := m * 2) hn (by omega)
  rw [show i.toNatClampNeg * 2 + (m * 2 - i.toNatClampNeg * 2) = m * 2 by omega] at this
  exact this
theorem LB_s {w w' a v : Int32} {p : Nat} {f f' : Nat → Int32} (h : (f a.toNatClampNeg).toInt < w.toInt) (ew : w'.toInt = w.toInt + 1) (ef : f' = upd f p v) (hv : v.toInt ≤ w.toInt) : (f' a.toNatClampNeg).toInt < w'.toInt := by
  rw [ef]
  by_cases e : a.toNatClampNeg = p
  · rw [e, upd_at]; omega
  · rw [upd_ne e]; omega
theorem FQ_lt {w i p : Int32} {f q : Nat → Int32} {B N : Int} (h : FQ w f q B) (hi : iv 0 N i) (hlt : i < w) (ep : p = q i.toNatClampNeg) : (f p.toNatClampNeg).toInt < w.toInt := by
  rw [Int32.lt_iff_toInt_lt] at hlt
  have k1 := clampNat hi.1
  have := (h i.toNatClampNeg (by omega)).2.1
  rw [← ep] at this
  omega
theorem FL_s {f f' : Nat → Int32} {i i' v : Int32} {N : Int} (h : ∀ j : Nat, (j : Int) < i.toInt → f j = v) (hi : iv 0 N i) (hN : N < 2147483647) (ef : f' = upd f i.toNatClampNeg v) (ei : i' = i + 1) : ∀ j : Nat, (j : Int) < i'.toInt → f' j = v := fun j hj => by
  have e' := inc_toInt ei hi ⟨by decide, hN⟩
  have k1 := clampNat hi.1
  rw [ef]
  by_cases e : j = i.toNatClampNeg
  · subst e; rw [upd_at]
  · rw [upd_ne e]; exact h j (by omega)

def ivL (a b : Int) (x : Int64) : Prop := a ≤ x.toInt ∧ x.toInt ≤ b
theorem ivL_c (x : Int64) {a b : Int} (h : a ≤ x.toInt ∧ x.toInt ≤ b) : ivL a b x := h
theorem ivL_w {a b a' b' : Int} {x : Int64} (h : ivL a b x) (h1 : a' ≤ a ∧ b ≤ b') : ivL a' b' x := ⟨Int.le_trans h1.1 h.1, Int.le_trans h.2 h1.2⟩
theorem ivL_top (x : Int64) : ivL (-9223372036854775808) 9223372036854775807 x := ⟨Int64.le_toInt x, by have := Int64.toInt_lt x; omega⟩
theorem ivL_bm {z : Int} (h1 : -9223372036854775808 ≤ z) (h2 : z ≤ 9223372036854775807) : z.bmod (2 ^ 64) = z := by
  apply Int.bmod_eq_of_le <;> omega
theorem ivL_l1 {x y : Int64} {a b c d B : Int} (q : x < y) (hx : ivL a b x) (hy : ivL c d y) (h : d - 1 ≤ B) : ivL a B x := by
  unfold ivL at *; rw [Int64.lt_iff_toInt_lt] at q; omega
theorem ivL_l2 {x y : Int64} {a b c d A : Int} (q : x < y) (hx : ivL a b x) (hy : ivL c d y) (h : A ≤ a + 1) : ivL A d y := by
  unfold ivL at *; rw [Int64.lt_iff_toInt_lt] at q; omega
theorem ivL_e1 {x y : Int64} {a b c d B : Int} (q : x ≤ y) (hx : ivL a b x) (hy : ivL c d y) (h : d - 0 ≤ B) : ivL a B x := by
  unfold ivL at *; rw [Int64.le_iff_toInt_le] at q; omega
theorem ivL_e2 {x y : Int64} {a b c d A : Int} (q : x ≤ y) (hx : ivL a b x) (hy : ivL c d y) (h : A ≤ a + 0) : ivL A d y := by
  unfold ivL at *; rw [Int64.le_iff_toInt_le] at q; omega
theorem ivL_q {x y : Int64} {a b : Int} (q : x = y) (hy : ivL a b y) : ivL a b x := by rw [q]; exact hy
theorem ivL_n0 {x y : Int64} {a b c A : Int} (q : ¬ x = y) (hx : ivL a b x) (hy : ivL c c y) (h : c = a ∧ A ≤ a + 1) : ivL A b x := by
  have : x.toInt ≠ y.toInt := fun e => q (Int64.toInt_inj.mp e)
  unfold ivL at *; omega
theorem ivL_n1 {x y : Int64} {a b c B : Int} (q : ¬ x = y) (hx : ivL a b x) (hy : ivL c c y) (h : c = b ∧ b - 1 ≤ B) : ivL a B x := by
  have : x.toInt ≠ y.toInt := fun e => q (Int64.toInt_inj.mp e)
  unfold ivL at *; omega
theorem ivL_eqp {x y : Int64} {a : Int} (hx : ivL a a x) (hy : ivL a a y) : x = y := by
  unfold ivL at *; exact Int64.toInt_inj.mp (by omega)
theorem ivL_nz {x : Int64} {a b : Int} (hx : ivL a b x) (h : 0 < a) : ¬ x = 0 := fun q => by
  subst q; unfold ivL at hx; rw [(by decide : (0 : Int64).toInt = 0)] at hx; omega
theorem toI64 (x : Int32) : x.toInt64.toInt = x.toInt := by simp
theorem ivL_of {x : Int32} {a b : Int} (h : iv a b x) : ivL a b x.toInt64 := by
  unfold ivL; rw [toI64]; exact h
theorem ivL_i {j : Int64} {x : Int32} {a b : Int} (e : j = x.toInt64) (h : ivL a b j) : iv a b x := by
  unfold ivL at h; rw [e, toI64] at h; exact h
theorem iv_cap {x : Int32} {a b c d A B : Int} (h : iv a b x) (g : iv c d x) (q : (A ≤ a ∨ A ≤ c) ∧ (b ≤ B ∨ d ≤ B)) : iv A B x := by
  unfold iv at *; omega
theorem ivL_cap {x : Int64} {a b c d A B : Int} (h : ivL a b x) (g : ivL c d x) (q : (A ≤ a ∨ A ≤ c) ∧ (b ≤ B ∨ d ≤ B)) : ivL A B x := by
  unfold ivL at *; omega
theorem iv_ofL {j : Int64} {a b : Int} (h : ivL a b j) (q : -2147483648 ≤ a ∧ b ≤ 2147483647) : iv a b j.toInt32 := by
  unfold ivL at h; unfold iv
  rw [Int64.toInt_toInt32]
  rw [Int.bmod_eq_of_le (by omega) (by omega)]; exact h
theorem ivL_sub {x y : Int64} {a b c d A B : Int} (hx : ivL a b x) (hy : ivL c d y) (h : A ≤ a - d ∧ b - c ≤ B ∧ -9223372036854775808 ≤ A ∧ B ≤ 9223372036854775807) : ivL A B (x - y) := by
  unfold ivL at *
  rw [Int64.toInt_sub, ivL_bm (by omega) (by omega)]; omega
theorem ivL_subb {x y z : Int64} {a b c d A B : Int} (e : x = y - z) (hx : ivL a b x) (hy : ivL c d y) (h : A - z.toInt ≤ a ∧ b ≤ B - z.toInt ∧ -9223372036854775808 ≤ c - z.toInt ∧ d - z.toInt ≤ 9223372036854775807 ∧ (A ≤ c ∨ True) ∧ True) : ivL A B y := by
  unfold ivL at *
  rw [e, Int64.toInt_sub, ivL_bm (by omega) (by omega)] at hx; omega
theorem cl_ne {x y : Int32} {a b c d : Int} (hx : iv a b x) (hy : iv c d y) (h : 0 ≤ a ∧ 0 ≤ c ∧ (b < c ∨ d < a)) : x.toNatClampNeg ≠ y.toNatClampNeg := by
  unfold iv at *
  have k1 := clampNat (x := x) (by omega)
  have k2 := clampNat (x := y) (by omega)
  omega
theorem updL_at {f : Nat → Int64} {i : Nat} {v : Int64} : vp_updL f i v i = v := by simp [vp_updL]
theorem updL_ne {f : Nat → Int64} {i j : Nat} {v : Int64} (h : j ≠ i) : vp_updL f i v j = f j := by simp [vp_updL, h]
theorem iv_ushr16 (x : Int32) : iv 0 65535 ((x.toUInt32 >>> ((16 : Int32).toUInt32 &&& Int32.toUInt32 31)).toInt32) := by
  unfold iv
  have e : ((16 : Int32).toUInt32 &&& Int32.toUInt32 31) = 16 := by decide
  rw [e]
  have h1 : (x.toUInt32 >>> 16).toNat < 65536 := by
    rw [UInt32.toNat_shiftRight]
    have := x.toUInt32.toNat_lt
    simp only [UInt32.reduceToNat]
    rw [Nat.shiftRight_eq_div_pow, (by decide : (2 : Nat) ^ (16 % 32) = 65536)]
    omega
  have h2 : (x.toUInt32 >>> 16).toInt32.toInt = ((x.toUInt32 >>> 16).toNat : Int) := by
    show (x.toUInt32 >>> 16).toBitVec.toInt = _
    exact BitVec.toInt_eq_toNat_of_lt (by show 2 * (x.toUInt32 >>> 16).toNat < 4294967296; omega)
  omega
def ivT (T : Nat → Int × Int) (f : Nat → Int32) : Prop := ∀ j, iv (T j).1 (T j).2 (f j)
def ckT (T : Nat → Int × Int) (c k a n : Nat) (lo hi : Int) : Bool := (List.range n).all fun q => decide (lo ≤ (T (c + k * (a + q))).1) && decide ((T (c + k * (a + q))).2 ≤ hi)
def ckW (T : Nat → Int × Int) (c k a n : Nat) (lo hi : Int) : Bool := (List.range n).all fun q => decide ((T (c + k * (a + q))).1 ≤ lo) && decide (hi ≤ (T (c + k * (a + q))).2)
theorem ckT_at {T : Nat → Int × Int} {c k a n : Nat} {lo hi : Int} (h : ckT T c k a n lo hi = true) {j : Nat} (h1 : a ≤ j) (h2 : j < a + n) : lo ≤ (T (c + k * j)).1 ∧ (T (c + k * j)).2 ≤ hi := by
  have := List.all_eq_true.mp h (j - a) (List.mem_range.mpr (by omega))
  rw [show a + (j - a) = j by omega] at this
  simpa using this
theorem ckW_at {T : Nat → Int × Int} {c k a n : Nat} {lo hi : Int} (h : ckW T c k a n lo hi = true) {j : Nat} (h1 : a ≤ j) (h2 : j < a + n) : (T (c + k * j)).1 ≤ lo ∧ hi ≤ (T (c + k * j)).2 := by
  have := List.all_eq_true.mp h (j - a) (List.mem_range.mpr (by omega))
  rw [show a + (j - a) = j by omega] at this
  simpa using this
theorem rdS {T : Nat → Int × Int} {f : Nat → Int32} {x d : Int32} {c k a n : Nat} {A B lo hi : Int} (h : ivT T f) (hx : x.toInt = (c : Int) + (k : Int) * d.toInt) (hd : iv A B d) (hab : (a : Int) ≤ A ∧ B < (a : Int) + n) (ck : ckT T c k a n lo hi = true) : iv lo hi (f x.toNatClampNeg) := by
  have h0 : 0 ≤ d.toInt := by have := hd.1; omega
  have kd := clampNat h0
  have e : x.toNatClampNeg = c + k * d.toNatClampNeg := by
    have : x.toInt = ((c + k * d.toNatClampNeg : Nat) : Int) := by rw [hx, ← kd]; push_cast; rfl
    have kx := clampNat (x := x) (by omega)
    omega
  rw [e]
  have q := ckT_at ck (j := d.toNatClampNeg) (by have := hd.1; omega) (by have := hd.2; omega)
  exact iv_w (h _) q
theorem rdT {T : Nat → Int × Int} {f : Nat → Int32} {x : Int32} {a n : Nat} {A B lo hi : Int} (h : ivT T f) (hx : iv A B x) (hab : (a : Int) ≤ A ∧ B < (a : Int) + n) (ck : ckT T 0 1 a n lo hi = true) : iv lo hi (f x.toNatClampNeg) :=
  rdS (c := 0) (k := 1) h (by push_cast; omega) hx hab ck
theorem upS {T : Nat → Int × Int} {f : Nat → Int32} {x d v : Int32} {c k a n : Nat} {A B lo hi : Int} (h : ivT T f) (hx : x.toInt = (c : Int) + (k : Int) * d.toInt) (hd : iv A B d) (hab : (a : Int) ≤ A ∧ B < (a : Int) + n) (hv : iv lo hi v) (ck : ckW T c k a n lo hi = true) : ivT T (upd f x.toNatClampNeg v) := by
  have h0 : 0 ≤ d.toInt := by have := hd.1; omega
  have kd := clampNat h0
  have e : x.toNatClampNeg = c + k * d.toNatClampNeg := by
    have : x.toInt = ((c + k * d.toNatClampNeg : Nat) : Int) := by rw [hx, ← kd]; push_cast; rfl
    have kx := clampNat (x := x) (by omega)
    omega
  have q := ckW_at ck (j := d.toNatClampNeg) (by have := hd.1; omega) (by have := hd.2; omega)
  intro j
  by_cases hj : j = x.toNatClampNeg
  · subst hj; rw [upd_at, e]; exact iv_w hv q
  · rw [upd_ne hj]; exact h j
theorem upT {T : Nat → Int × Int} {f : Nat → Int32} {x v : Int32} {a n : Nat} {A B lo hi : Int} (h : ivT T f) (hx : iv A B x) (hab : (a : Int) ≤ A ∧ B < (a : Int) + n) (hv : iv lo hi v) (ck : ckW T 0 1 a n lo hi = true) : ivT T (upd f x.toNatClampNeg v) :=
  upS (c := 0) (k := 1) h (by push_cast; omega) hx hab hv ck
theorem toInt_add {x y z : Int32} {a b c d : Int} (e : x = y + z) (hy : iv a b y) (hz : iv c d z) (h : -2147483648 ≤ a + c ∧ b + d ≤ 2147483647) : x.toInt = y.toInt + z.toInt := by
  unfold iv at *
  rw [e, Int32.toInt_add, iv_bm (by omega) (by omega)]
theorem toInt_sub {x y z : Int32} {a b c d : Int} (e : x = y - z) (hy : iv a b y) (hz : iv c d z) (h : -2147483648 ≤ a - d ∧ b - c ≤ 2147483647) : x.toInt = y.toInt - z.toInt := by
  unfold iv at *
  rw [e, Int32.toInt_sub, iv_bm (by omega) (by omega)]
theorem toInt_mulc {x y z : Int32} {a b k : Int} (e : x = y * z) (hy : iv a b y) (hz : z.toInt = k) (h : 0 ≤ k ∧ -2147483648 ≤ a * k ∧ b * k ≤ 2147483647) : x.toInt = k * y.toInt := by
  unfold iv at *
  have h1 : a * k ≤ y.toInt * k := Int.mul_le_mul_of_nonneg_right hy.1 h.1
  have h2 : y.toInt * k ≤ b * k := Int.mul_le_mul_of_nonneg_right hy.2 h.1
  rw [e, Int32.toInt_mul, hz, iv_bm (by omega) (by omega), Int.mul_comm]
theorem toInt_mulC {x y z : Int32} {a b k : Int} (e : x = z * y) (hy : iv a b y) (hz : z.toInt = k) (h : 0 ≤ k ∧ -2147483648 ≤ a * k ∧ b * k ≤ 2147483647) : x.toInt = k * y.toInt :=
  toInt_mulc (e.trans (Int32.mul_comm _ _)) hy hz h

noncomputable def rf2 (least c : Int32) (n : Nat → Int64) : Int32 := if c.toInt < 0 then -6 else if c.toInt < 1 ∨ 8 < c.toInt then -4 else @ite _ (∃ j : Nat, (j : Int) < c.toInt ∧ (n j < least.toInt64 ∨ 4 < n j)) (Classical.propDecidable _) (-3) 0
theorem rf2_6 {least c : Int32} {n : Nat → Int64} (h : c.toInt < 0) : -6 = rf2 least c n := by unfold rf2; rw [if_pos h]
theorem rf2_4 {least c : Int32} {n : Nat → Int64} (h0 : ¬ c.toInt < 0) (h : c.toInt < 1 ∨ 8 < c.toInt) : -4 = rf2 least c n := by unfold rf2; rw [if_neg h0, if_pos h]
theorem rf2_3 {least c u : Int32} {n : Nat → Int64} {a b : Int} (h0 : ¬ c.toInt < 0) (h : ¬ (c.toInt < 1 ∨ 8 < c.toInt)) (hu : iv a b u) (ha : 0 ≤ a) (hc : u.toInt < c.toInt) (g : n u.toNatClampNeg < least.toInt64 ∨ 4 < n u.toNatClampNeg) : -3 = rf2 least c n := by
  have := hu.1
  have k := clampNat (x := u) (by omega)
  unfold rf2; rw [if_neg h0, if_neg h, if_pos ⟨u.toNatClampNeg, by omega, g⟩]
theorem rf2_0 {least c u : Int32} {n : Nat → Int64} (h0 : ¬ c.toInt < 0) (h : ¬ (c.toInt < 1 ∨ 8 < c.toInt)) (g : ∀ j : Nat, (j : Int) < u.toInt → ¬ (n j < least.toInt64 ∨ 4 < n j)) (hu : c.toInt ≤ u.toInt) : 0 = rf2 least c n := by
  unfold rf2; rw [if_neg h0, if_neg h, if_neg (by rintro ⟨j, h1, h2⟩; exact g j (by omega) h2)]
theorem rf_s {least u u' : Int32} {n : Nat → Int64} {x y : Int64} {a b : Int} (g : ∀ j : Nat, (j : Int) < u.toInt → ¬ (n j < least.toInt64 ∨ 4 < n j)) (hu : iv a b u) (hab : 0 ≤ a ∧ b < 2147483647) (ex : x = n u.toNatClampNeg) (ey : y = least.toInt64) (h1 : ¬ x < y) (h2 : x ≤ 4) (eu : u' = u + 1) : ∀ j : Nat, (j : Int) < u'.toInt → ¬ (n j < least.toInt64 ∨ 4 < n j) := fun j hj => by
  have e := inc_toInt eu hu ⟨by omega, hab.2⟩
  have := hu.1
  have k := clampNat (x := u) (by omega)
  by_cases q : j = u.toNatClampNeg
  · subst q; rw [← ex, ← ey]; rintro (z | z)
    · exact h1 z
    · exact absurd h2 (Int64.not_le.mpr z)
  · exact g j (by omega)
noncomputable def rfF (t h least hl c0 c1 c2 c3 : Int32) (n0 n1 n2 n3 : Nat → Int64) : Int32 := if t.toInt < 0 ∨ 3 < t.toInt ∨ h.toInt < 0 ∨ hl.toInt ≤ h.toInt then -2 else if t = 0 then rf2 least c0 n0 else if t = 1 then rf2 least c1 n1 else if t = 2 then rf2 least c2 n2 else rf2 least c3 n3
theorem rfF_2 {t h least hl c0 c1 c2 c3 : Int32} {n0 n1 n2 n3 : Nat → Int64} (q : t.toInt < 0 ∨ 3 < t.toInt ∨ h.toInt < 0 ∨ hl.toInt ≤ h.toInt) : -2 = rfF t h least hl c0 c1 c2 c3 n0 n1 n2 n3 := by unfold rfF; rw [if_pos q]
theorem rfF_t0 {r h least hl c0 c1 c2 c3 : Int32} {n0 n1 n2 n3 : Nat → Int64} (q : ¬ (h.toInt < 0 ∨ hl.toInt ≤ h.toInt)) (e : r = rf2 least c0 n0) : r = rfF 0 h least hl c0 c1 c2 c3 n0 n1 n2 n3 := by
  have z : (0 : Int32).toInt = 0 := by decide
  unfold rfF; rw [if_neg (by omega), if_pos rfl]; exact e
theorem rfF_t1 {r h least hl c0 c1 c2 c3 : Int32} {n0 n1 n2 n3 : Nat → Int64} (q : ¬ (h.toInt < 0 ∨ hl.toInt ≤ h.toInt)) (e : r = rf2 least c1 n1) : r = rfF 1 h least hl c0 c1 c2 c3 n0 n1 n2 n3 := by
  have z : (1 : Int32).toInt = 1 := by decide
  unfold rfF; rw [if_neg (by omega), if_neg (by decide), if_pos rfl]; exact e
theorem rfF_t2 {r h least hl c0 c1 c2 c3 : Int32} {n0 n1 n2 n3 : Nat → Int64} (q : ¬ (h.toInt < 0 ∨ hl.toInt ≤ h.toInt)) (e : r = rf2 least c2 n2) : r = rfF 2 h least hl c0 c1 c2 c3 n0 n1 n2 n3 := by
  have z : (2 : Int32).toInt = 2 := by decide
  unfold rfF; rw [if_neg (by omega), if_neg (by decide), if_neg (by decide), if_pos rfl]; exact e
theorem rfF_t3 {r h least hl c0 c1 c2 c3 : Int32} {n0 n1 n2 n3 : Nat → Int64} (q : ¬ (h.toInt < 0 ∨ hl.toInt ≤ h.toInt)) (e : r = rf2 least c3 n3) : r = rfF 3 h least hl c0 c1 c2 c3 n0 n1 n2 n3 := by
  have z : (3 : Int32).toInt = 3 := by decide
  unfold rfF; rw [if_neg (by omega), if_neg (by decide), if_neg (by decide), if_neg (by decide)]; exact e
def cntF (t c0 c1 c2 c3 : Int32) : Int32 := if t = 0 then c0 else if t = 1 then c1 else if t = 2 then c2 else c3
theorem cntF_0 {c0 c1 c2 c3 : Int32} : cntF 0 c0 c1 c2 c3 = c0 := by unfold cntF; rw [if_pos rfl]
theorem cntF_1 {c0 c1 c2 c3 : Int32} : cntF 1 c0 c1 c2 c3 = c1 := by unfold cntF; rw [if_neg (by decide), if_pos rfl]
theorem cntF_2 {c0 c1 c2 c3 : Int32} : cntF 2 c0 c1 c2 c3 = c2 := by unfold cntF; rw [if_neg (by decide), if_neg (by decide), if_pos rfl]
theorem cntF_3 {c0 c1 c2 c3 : Int32} : cntF 3 c0 c1 c2 c3 = c3 := by unfold cntF; rw [if_neg (by decide), if_neg (by decide), if_neg (by decide)]

def nuF (t s n : Int32) : Int32 := if t.toInt < 0 ∨ 3 < t.toInt ∨ s.toInt < 0 ∨ 3 < s.toInt then -2 else if n.toInt < 0 ∨ 40 < n.toInt then -3 else 0
theorem nu_2 {t s n : Int32} (h : t.toInt < 0 ∨ 3 < t.toInt ∨ s.toInt < 0 ∨ 3 < s.toInt) : -2 = nuF t s n := by unfold nuF; rw [if_pos h]
theorem nu_3 {t s n : Int32} (h : ¬ (t.toInt < 0 ∨ 3 < t.toInt ∨ s.toInt < 0 ∨ 3 < s.toInt)) (g : n.toInt < 0 ∨ 40 < n.toInt) : -3 = nuF t s n := by unfold nuF; rw [if_neg h, if_pos g]
theorem nu_0 {t s n : Int32} (h : ¬ (t.toInt < 0 ∨ 3 < t.toInt ∨ s.toInt < 0 ∨ 3 < s.toInt)) (g : ¬ (n.toInt < 0 ∨ 40 < n.toInt)) : 0 = nuF t s n := by unfold nuF; rw [if_neg h, if_neg g]
theorem wi_0 {x : Int32} {j lo hi : Int64} {a b : Int} (ej : j = x.toInt64) (h : ¬ (lo ≤ j ∧ j ≤ hi)) (ha : lo.toInt = a) (hb : hi.toInt = b) : x.toInt < a ∨ b < x.toInt := by
  rw [Int64.le_iff_toInt_le, Int64.le_iff_toInt_le, ej, toI64] at h
  omega

def cuF (s : Int32) (v : Int64) : Int64 := if s = 0 then v.toInt32.toInt8.toInt32.toInt64 else if s = 1 then v.toInt32.toInt16.toInt32.toInt64 else if s = 2 then v.toInt32.toInt64 else v
theorem cu_0 {s : Int32} {v r : Int64} (h : s = 0) (e : r = v.toInt32.toInt8.toInt32.toInt64) : r = cuF s v := by unfold cuF; rw [if_pos h]; exact e
theorem cu_1 {s : Int32} {v r : Int64} (h : s = 1) (e : r = v.toInt32.toInt16.toInt32.toInt64) : r = cuF s v := by unfold cuF; rw [if_neg (by rw [h]; decide), if_pos h]; exact e
theorem cu_2 {s : Int32} {v r : Int64} (h : s = 2) (e : r = v.toInt32.toInt64) : r = cuF s v := by unfold cuF; rw [if_neg (by rw [h]; decide), if_neg (by rw [h]; decide), if_pos h]; exact e
theorem cu_3 {s : Int32} {v : Int64} (h0 : ¬ s = 0) (h1 : ¬ s = 1) (h2 : ¬ s = 2) : v = cuF s v := by unfold cuF; rw [if_neg h0, if_neg h1, if_neg h2]
def wr2 (i : Int32) (v : Int64) (n s : Int32) : Int64 := if n.toInt < 0 then -6 else if i.toInt < 0 ∨ n.toInt ≤ i.toInt then -7 else cuF s v
theorem wr2_6 {i n s : Int32} {v : Int64} (h : n.toInt < 0) : -6 = wr2 i v n s := by unfold wr2; rw [if_pos h]
theorem wr2_7 {i n s : Int32} {v : Int64} (h0 : ¬ n.toInt < 0) (h : i.toInt < 0 ∨ n.toInt ≤ i.toInt) : -7 = wr2 i v n s := by unfold wr2; rw [if_neg h0, if_pos h]
theorem wr2_v {i n s : Int32} {v r : Int64} (h0 : ¬ n.toInt < 0) (h : ¬ (i.toInt < 0 ∨ n.toInt ≤ i.toInt)) (e : r = cuF s v) : r = wr2 i v n s := by unfold wr2; rw [if_neg h0, if_neg h]; exact e
def wrF (t i : Int32) (v : Int64) (n0 n1 n2 n3 s0 s1 s2 s3 : Int32) : Int64 := if t.toInt < 0 ∨ 3 < t.toInt then -2 else if t = 0 then wr2 i v n0 s0 else if t = 1 then wr2 i v n1 s1 else if t = 2 then wr2 i v n2 s2 else wr2 i v n3 s3
theorem wr_2 {t i n0 n1 n2 n3 s0 s1 s2 s3 : Int32} {v : Int64} (h : t.toInt < 0 ∨ 3 < t.toInt) : -2 = wrF t i v n0 n1 n2 n3 s0 s1 s2 s3 := by unfold wrF; rw [if_pos h]
theorem wr_t0 {i n0 n1 n2 n3 s0 s1 s2 s3 : Int32} {v r : Int64} (e : r = wr2 i v n0 s0) : r = wrF 0 i v n0 n1 n2 n3 s0 s1 s2 s3 := by unfold wrF; rw [if_neg (by decide), if_pos rfl]; exact e
theorem wr_t1 {i n0 n1 n2 n3 s0 s1 s2 s3 : Int32} {v r : Int64} (e : r = wr2 i v n1 s1) : r = wrF 1 i v n0 n1 n2 n3 s0 s1 s2 s3 := by unfold wrF; rw [if_neg (by decide), if_neg (by decide), if_pos rfl]; exact e
theorem wr_t2 {i n0 n1 n2 n3 s0 s1 s2 s3 : Int32} {v r : Int64} (e : r = wr2 i v n2 s2) : r = wrF 2 i v n0 n1 n2 n3 s0 s1 s2 s3 := by unfold wrF; rw [if_neg (by decide), if_neg (by decide), if_neg (by decide), if_pos rfl]; exact e
theorem wr_t3 {i n0 n1 n2 n3 s0 s1 s2 s3 : Int32} {v r : Int64} (e : r = wr2 i v n3 s3) : r = wrF 3 i v n0 n1 n2 n3 s0 s1 s2 s3 := by unfold wrF; rw [if_neg (by decide), if_neg (by decide), if_neg (by decide), if_neg (by decide)]; exact e

def ntF (t : Int32) (f : Nat → Int32) : Int32 := if t.toInt < 0 ∨ 3 < t.toInt then -2 else if f t.toNatClampNeg = -1 then -6 else 0
theorem nt_2 {t : Int32} {f : Nat → Int32} (h : t.toInt < 0 ∨ 3 < t.toInt) : -2 = ntF t f := by unfold ntF; rw [if_pos h]
theorem nt_6 {t x : Int32} {f : Nat → Int32} (h : ¬ (t.toInt < 0 ∨ 3 < t.toInt)) (ex : x = f t.toNatClampNeg) (hx : x = -1) : -6 = ntF t f := by unfold ntF; rw [if_neg h, if_pos (by rw [← ex]; exact hx)]
theorem nt_0 {t x : Int32} {f : Nat → Int32} (h : ¬ (t.toInt < 0 ∨ 3 < t.toInt)) (ex : x = f t.toNatClampNeg) (hx : ¬ x = -1) : 0 = ntF t f := by unfold ntF; rw [if_neg h, if_neg (by rw [← ex]; exact hx)]
theorem nt_ok {r t : Int32} {f : Nat → Int32} (e : r = ntF t f) (h : r = 0) : ¬ (t.toInt < 0 ∨ 3 < t.toInt) ∧ ¬ f t.toNatClampNeg = -1 := by
  rw [e] at h
  unfold ntF at h
  by_cases h1 : t.toInt < 0 ∨ 3 < t.toInt
  · rw [if_pos h1] at h; exact absurd h (by decide)
  · rw [if_neg h1] at h
    by_cases h2 : f t.toNatClampNeg = -1
    · rw [if_pos h2] at h; exact absurd h (by decide)
    · exact ⟨h1, h2⟩
def wrZ (t i : Int32) (v : Int64) (f g : Nat → Int32) : Int64 := if t.toInt < 0 ∨ 3 < t.toInt then -2 else if f t.toNatClampNeg = -1 then -6 else if i.toInt < 0 ∨ (g t.toNatClampNeg).toInt ≤ i.toInt then -7 else cuF (f t.toNatClampNeg) v
theorem wz_n {r t i : Int32} {j v : Int64} {f g : Nat → Int32} (e : r = ntF t f) (hr : ¬ r = 0) (ej : j = r.toInt64) : j = wrZ t i v f g := by
  rw [e] at hr ej
  unfold ntF at hr ej
  unfold wrZ
  by_cases h1 : t.toInt < 0 ∨ 3 < t.toInt
  · rw [if_pos h1] at ej; rw [if_pos h1, ej]; decide
  · rw [if_neg h1] at ej hr
    by_cases h2 : f t.toNatClampNeg = -1
    · rw [if_pos h2] at ej; rw [if_neg h1, if_pos h2, ej]; decide
    · rw [if_neg h2] at hr; exact absurd rfl hr
theorem wz_7 {t i x y : Int32} {j k lo v : Int64} {f g : Nat → Int32} (ok : ¬ (t.toInt < 0 ∨ 3 < t.toInt) ∧ ¬ f t.toNatClampNeg = -1) (ex : x = g t.toNatClampNeg) (bx : iv 0 40 x) (ey : y = x - 1) (ej : j = i.toInt64) (ek : k = y.toInt64) (h : ¬ (lo ≤ j ∧ j ≤ k)) (hlo : lo.toInt = 0) : -7 = wrZ t i v f g := by
  have hy : y.toInt = x.toInt - 1 := by
    unfold iv at bx
    rw [ey, Int32.toInt_sub, (by decide : (1 : Int32).toInt = 1), iv_bm (by omega) (by omega)]
  rw [Int64.le_iff_toInt_le, Int64.le_iff_toInt_le, ej, ek, toI64, toI64] at h
  unfold wrZ
  rw [if_neg ok.1, if_neg ok.2, if_pos (by rw [← ex]; omega)]
theorem wz_v {t i x y z : Int32} {j k lo v r : Int64} {f g : Nat → Int32} (ok : ¬ (t.toInt < 0 ∨ 3 < t.toInt) ∧ ¬ f t.toNatClampNeg = -1) (ex : x = g t.toNatClampNeg) (bx : iv 0 40 x) (ey : y = x - 1) (ej : j = i.toInt64) (ek : k = y.toInt64) (h1 : lo ≤ j) (h2 : j ≤ k) (hlo : lo.toInt = 0) (ez : z = f t.toNatClampNeg) (er : r = cuF z v) : r = wrZ t i v f g := by
  have hy : y.toInt = x.toInt - 1 := by
    unfold iv at bx
    rw [ey, Int32.toInt_sub, (by decide : (1 : Int32).toInt = 1), iv_bm (by omega) (by omega)]
  rw [Int64.le_iff_toInt_le, ej, toI64] at h1
  rw [Int64.le_iff_toInt_le, ej, ek, toI64, toI64] at h2
  unfold wrZ
  rw [if_neg ok.1, if_neg ok.2, if_neg (by rw [← ex]; omega), ← ez]; exact er

def okN (t s n : Int32) : Prop := ¬ (t.toInt < 0 ∨ 3 < t.toInt ∨ s.toInt < 0 ∨ 3 < s.toInt) ∧ ¬ (n.toInt < 0 ∨ 40 < n.toInt)
noncomputable def nuS (t s n : Int32) (k : Nat) (new old : Int32) : Int32 := @ite _ (okN t s n ∧ t.toInt = (k : Int)) (Classical.propDecidable _) new old
theorem nuS_e {t s n new old : Int32} {k : Nat} (h : ¬ (t.toInt < 0 ∨ 3 < t.toInt ∨ s.toInt < 0 ∨ 3 < s.toInt) ∧ ¬ (n.toInt < 0 ∨ 40 < n.toInt)) (hk : t.toInt = (k : Int)) : new = nuS t s n k new old := by unfold nuS; rw [if_pos ⟨h, hk⟩]
theorem nuS_n {t s n new old : Int32} {k : Nat} (h : ¬ ((¬ (t.toInt < 0 ∨ 3 < t.toInt ∨ s.toInt < 0 ∨ 3 < s.toInt) ∧ ¬ (n.toInt < 0 ∨ 40 < n.toInt)) ∧ t.toInt = (k : Int))) : old = nuS t s n k new old := by unfold nuS; rw [if_neg (show ¬ (okN t s n ∧ t.toInt = (k : Int)) from h)]
theorem nuS_r {t s n x : Int32} {f f' : Nat → Int32} {k : Nat} (h : ¬ (t.toInt < 0 ∨ 3 < t.toInt ∨ s.toInt < 0 ∨ 3 < s.toInt) ∧ ¬ (n.toInt < 0 ∨ 40 < n.toInt)) (e : f' = upd f t.toNatClampNeg x) : f' k = nuS t s n k x (f k) := by
  have kt := clampNat (x := t) (by omega)
  by_cases hk : t.toInt = (k : Int)
  · have e2 : k = t.toNatClampNeg := by omega
    rw [← nuS_e h hk, e, ← e2, upd_at]
  · rw [← nuS_n (fun q => hk q.2), e, upd_ne (by omega)]

noncomputable def nuT (t s n : Int32) (u : Nat → Int32) : Nat → Int32 := fun i => cond (Nat.ble 4 i) (nuS t s n (i - 4) s (u i)) (nuS t s n i n (u i))
def zsF (n s : Int32) : Int32 := if n.toInt < 0 then -1 else s
def zmF (n : Int32) : Int32 := if n.toInt < 0 then 0 else n
theorem nz_s {t s n x o a b : Int32} {k : Nat} (e : x = nuS t s n k s o) (h : o = zsF a b) : x = zsF (nuS t s n k n a) (nuS t s n k s b) := by
  rw [e, h]
  by_cases q : okN t s n ∧ t.toInt = (k : Int)
  · rw [← nuS_e q.1 q.2, ← nuS_e q.1 q.2, ← nuS_e q.1 q.2]
    have := q.1.2
    unfold zsF; rw [if_neg (by omega)]
  · rw [← nuS_n q, ← nuS_n q, ← nuS_n q]
theorem nz_m {t s n x o a : Int32} {k : Nat} (e : x = nuS t s n k n o) (h : o = zmF a) : x = zmF (nuS t s n k n a) := by
  rw [e, h]
  by_cases q : okN t s n ∧ t.toInt = (k : Int)
  · rw [← nuS_e q.1 q.2, ← nuS_e q.1 q.2]
    have := q.1.2
    unfold zmF; rw [if_neg (by omega)]
  · rw [← nuS_n q, ← nuS_n q]
theorem nz_i {t s n b : Int32} {k : Nat} (h : iv 0 3 b) : iv 0 3 (nuS t s n k s b) := by
  by_cases q : okN t s n ∧ t.toInt = (k : Int)
  · rw [← nuS_e q.1 q.2]
    have := q.1.1
    unfold iv; omega
  · rw [← nuS_n q]; exact h
theorem wr2_Z {i n s x y : Int32} {v : Int64} (hx : x = zsF n s) (hy : y = zmF n) (hs : iv 0 3 s) : (if x = -1 then (-6 : Int64) else if i.toInt < 0 ∨ y.toInt ≤ i.toInt then -7 else cuF x v) = wr2 i v n s := by
  unfold iv at hs
  unfold zsF at hx
  unfold zmF at hy
  unfold wr2
  by_cases h : n.toInt < 0
  · rw [if_pos h] at hx
    rw [if_pos hx, if_pos h]
  · rw [if_neg h] at hx hy
    rw [if_neg (by rw [hx]; intro q; rw [q] at hs; exact absurd hs.1 (by decide)), if_neg h, hx, hy]
theorem wrFZ {t i n0 n1 n2 n3 s0 s1 s2 s3 : Int32} {v : Int64} {f g : Nat → Int32} (h0 : f 0 = zsF n0 s0) (h1 : f 1 = zsF n1 s1) (h2 : f 2 = zsF n2 s2) (h3 : f 3 = zsF n3 s3) (g0 : g 0 = zmF n0) (g1 : g 1 = zmF n1) (g2 : g 2 = zmF n2) (g3 : g 3 = zmF n3) (i0 : iv 0 3 s0) (i1 : iv 0 3 s1) (i2 : iv 0 3 s2) (i3 : iv 0 3 s3) : wrZ t i v f g = wrF t i v n0 n1 n2 n3 s0 s1 s2 s3 := by
  unfold wrZ wrF
  by_cases h : t.toInt < 0 ∨ 3 < t.toInt
  · rw [if_pos h, if_pos h]
  · rw [if_neg h, if_neg h]
    have e : t = 0 ∨ t = 1 ∨ t = 2 ∨ t = 3 := by
      simp only [tI_eq, (by decide : (0 : Int32).toInt = 0), (by decide : (1 : Int32).toInt = 1), (by decide : (2 : Int32).toInt = 2), (by decide : (3 : Int32).toInt = 3)]
      omega
    rcases e with rfl | rfl | rfl | rfl
    · rw [if_pos rfl]; exact wr2_Z h0 g0 i0
    · exact (wr2_Z h1 g1 i1).trans (by rw [if_neg (by decide), if_pos rfl])
    · exact (wr2_Z h2 g2 i2).trans (by rw [if_neg (by decide), if_neg (by decide), if_pos rfl])
    · exact (wr2_Z h3 g3 i3).trans (by rw [if_neg (by decide), if_neg (by decide), if_neg (by decide)])
