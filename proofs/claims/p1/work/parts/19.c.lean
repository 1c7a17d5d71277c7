
def drd (x : Int32) : Int32 := 1103515245 * x + 12345
def shd (x : Int32) : Int32 := (x.toUInt32 >>> ((16 : Int32).toUInt32 &&& Int32.toUInt32 31)).toInt32
def rmd (u c : Int32) : Int32 := u - u / c * c
theorem shd_n (x : Int32) : ∃ n : Nat, n < 2 ^ 31 ∧ shd x = nI n := by
  refine ⟨x.toBitVec.toNat / 2 ^ 16, ?_, ?_⟩
  · have := x.toBitVec.isLt; omega
  · have h := pk_ushr x 16 16 (by decide)
    have h2 : x.toBitVec.toNat / 2 ^ 16 < 2 ^ 32 := by have := x.toBitVec.isLt; omega
    apply Int32.toBitVec_inj.mp
    apply BitVec.eq_of_toNat_eq
    exact h.trans (pk_tn h2).symm
theorem rem6 (x : Int32) : rmd (shd x) 6 = 0 ∨ rmd (shd x) 6 = 1 ∨ rmd (shd x) 6 = 2 ∨ rmd (shd x) 6 = 3 ∨ rmd (shd x) 6 = 4 ∨ rmd (shd x) 6 = 5 := by
  obtain ⟨n, hn, e⟩ := shd_n x
  rw [e]
  have h : rmd (nI n) 6 = nI (n % 6) := pk_rem (d := 6) hn (by decide) (by decide)
  rw [h]
  have h3 : n % 6 = 0 ∨ n % 6 = 1 ∨ n % 6 = 2 ∨ n % 6 = 3 ∨ n % 6 = 4 ∨ n % 6 = 5 := by omega
  rcases h3 with q | q | q | q | q | q <;> rw [q] <;> decide
theorem rem4 (x : Int32) : rmd (shd x) 4 = 0 ∨ rmd (shd x) 4 = 1 ∨ rmd (shd x) 4 = 2 ∨ rmd (shd x) 4 = 3 := by
  obtain ⟨n, hn, e⟩ := shd_n x
  rw [e]
  have h : rmd (nI n) 4 = nI (n % 4) := pk_rem (d := 4) hn (by decide) (by decide)
  rw [h]
  have h3 : n % 4 = 0 ∨ n % 4 = 1 ∨ n % 4 = 2 ∨ n % 4 = 3 := by omega
  rcases h3 with q | q | q | q <;> rw [q] <;> decide
theorem rem10 (x : Int32) : rmd (shd x) 10 = 0 ∨ rmd (shd x) 10 = 1 ∨ rmd (shd x) 10 = 2 ∨ rmd (shd x) 10 = 3 ∨ rmd (shd x) 10 = 4 ∨ rmd (shd x) 10 = 5 ∨ rmd (shd x) 10 = 6 ∨ rmd (shd x) 10 = 7 ∨ rmd (shd x) 10 = 8 ∨ rmd (shd x) 10 = 9 := by
  obtain ⟨n, hn, e⟩ := shd_n x
  rw [e]
  have h : rmd (nI n) 10 = nI (n % 10) := pk_rem (d := 10) hn (by decide) (by decide)
  rw [h]
  have h3 : n % 10 = 0 ∨ n % 10 = 1 ∨ n % 10 = 2 ∨ n % 10 = 3 ∨ n % 10 = 4 ∨ n % 10 = 5 ∨ n % 10 = 6 ∨ n % 10 = 7 ∨ n % 10 = 8 ∨ n % 10 = 9 := by omega
  rcases h3 with q | q | q | q | q | q | q | q | q | q <;> rw [q] <;> decide
def cst (s : Int32 × Int32) : Int32 × Int32 := if rmd (shd (drd s.1)) 6 = 3 then (drd (drd s.1), if rmd (shd (drd (drd s.1))) 4 = 0 then s.2 + 1 else s.2) else if rmd (shd (drd s.1)) 6 = 4 then (drd (drd s.1), s.2) else if rmd (shd (drd s.1)) 6 = 5 then (drd (drd s.1), s.2 + 1) else (drd s.1, s.2 + 1)
def cn (x : Int32) : Nat → Int32 × Int32
  | 0 => (x, 0)
  | n + 1 => cst (cn x n)
theorem cst_l {x d k : Int32} (h : rmd (shd (drd x)) 6 = k) (hk : ¬ k = 3 ∧ ¬ k = 4 ∧ ¬ k = 5) : (drd x, d + 1) = cst (x, d) := by
  show _ = ite _ _ _
  rw [if_neg (by show ¬ rmd (shd (drd x)) 6 = 3; rw [h]; exact hk.1), if_neg (by show ¬ rmd (shd (drd x)) 6 = 4; rw [h]; exact hk.2.1), if_neg (by show ¬ rmd (shd (drd x)) 6 = 5; rw [h]; exact hk.2.2)]
theorem cst_30 {x d : Int32} (h : rmd (shd (drd x)) 6 = 3) (h2 : rmd (shd (drd (drd x))) 4 = 0) : (drd (drd x), d + 1) = cst (x, d) := by
  show _ = ite _ _ _
  rw [if_pos h]
  show _ = (_, ite _ _ _)
  rw [if_pos h2]
theorem cst_3n {x d k : Int32} (h : rmd (shd (drd x)) 6 = 3) (h2 : rmd (shd (drd (drd x))) 4 = k) (hk : ¬ k = 0) : (drd (drd x), d) = cst (x, d) := by
  show _ = ite _ _ _
  rw [if_pos h]
  show _ = (_, ite _ _ _)
  rw [if_neg (by show ¬ rmd (shd (drd (drd x))) 4 = 0; rw [h2]; exact hk)]
theorem cst_4 {x d : Int32} (h : rmd (shd (drd x)) 6 = 4) : (drd (drd x), d) = cst (x, d) := by
  show _ = ite _ _ _
  rw [if_neg (by show ¬ rmd (shd (drd x)) 6 = 3; rw [h]; decide), if_pos h]
theorem cst_5 {x d : Int32} (h : rmd (shd (drd x)) 6 = 5) : (drd (drd x), d + 1) = cst (x, d) := by
  show _ = ite _ _ _
  rw [if_neg (by show ¬ rmd (shd (drd x)) 6 = 3; rw [h]; decide), if_neg (by show ¬ rmd (shd (drd x)) 6 = 4; rw [h]; decide), if_pos h]
theorem cn_go {x : Int32} {i : Nat} {a b c d : Int32} (h : (a, b) = cn x i) (h2 : (c, d) = cst (a, b)) : (c, d) = cn x (i + 1) := by
  show _ = cst (cn x i)
  rw [← h]; exact h2

set_option maxHeartbeats 4000000 in
set_option maxRecDepth 100000 in
theorem c_X10_notes_3 (l : Launch) (V : GV) (z : Nat → Nat) (p0 : Int32) (p1 : Int32) (p2 : Int32) : Ct l V yX10_notes (.code yX10_notes cX10_notes 2 none) 1 [.ref (z 0)] [(z 17, aI V 7 (fun _ => 0)), (z 0, .inr (10, mo z 0 0 0 0 0 0 0 0 0 0 (-1) 0 p0 0 0 0)), (z 1, aI V 3075 (upd (upd (fun _ => 0) 51 p1) 52 p2))] 0 0 (QV V (fun (w : va_W) => (w = [(z 17, aI V 7 (fun _ => 0)), (z 0, .inr (10, mo z 0 0 0 0 0 0 0 0 0 0 (-1) 0 p0 0 0 0)), (z 1, aI V 3075 (upd (upd (upd (fun _ => 0) 51 p1) 52 p2) 53 1))]))) := by
  refine Ct.of (by decide) (Nat.le_of_ble_eq_true rfl) (fun p e s m below meth c A ls hx hb hr hml hown hlk hnm hg hP hK hD hE hA hS hl => ?_)
  have hl : lv_has ls 2 [(0, .ref (z 0))] := hl
  refine lv_aload_n hx hb dX10_notes_0 rfl (lv_at hl 0 rfl) ?_
  refine va_get (ci := 10) (v := .ref (z 1)) (C := RX10) (T := TX10) (N := 40) hx hb hg inX10 hown hK hP 1 rfl rfl 1 (by decide) (hg _ q_5_225) (fun _ h9 => h9) rfl dX10_notes_1 ?_
  refine lv_bipush (v := 53) hx hb dX10_notes_4 (by decide) ?_
  refine va_iald hx hb hK hP 2 0 rfl rfl (vin (by decide +kernel)) dX10_notes_6 ?_
  refine tpi (y := 0) (rfl) ?_
  refine lv_bipush (v := 10) hx hb dX10_notes_7 (by decide) ?_
  refine lv_icmp_ne (tgt := 55) hx hb dX10_notes_9 (by decide) (fun _ => ?_) (fun c_1 => absurd c_1 (by decide))
  refine lv_iconst (v := 0) hx hb dX10_notes_55 (by decide) ?_
  refine lv_istore_n (lv' := [(1, .int 0), (0, .ref (z 0))]) hx hb dX10_notes_56 rfl hl (by decide) rfl (fun ls hl => ?_)
  refine lv_iload_n hx hb dX10_notes_57 rfl (lv_at hl 0 rfl) ?_
  refine lv_bipush (v := 7) hx hb dX10_notes_58 (by decide) ?_
  refine lv_icmp_ge (tgt := 95) hx hb dX10_notes_60 (by decide) (fun c_2 => absurd c_2 (by decide)) (fun _ => ?_)
  refine lv_aload_n hx hb dX10_notes_63 rfl (lv_at hl 1 rfl) ?_
  refine va_get (ci := 10) (v := .ref (z 1)) (C := RX10) (T := TX10) (N := 40) hx hb hg inX10 hown hK hP 1 rfl rfl 1 (by decide) (hg _ q_5_225) (fun _ h9 => h9) rfl dX10_notes_64 ?_
  refine lv_bipush (v := 54) hx hb dX10_notes_67 (by decide) ?_
  refine lv_bipush (v := 7) hx hb dX10_notes_69 (by decide) ?_
  refine lv_aload_n hx hb dX10_notes_71 rfl (lv_at hl 1 rfl) ?_
  refine va_get (ci := 10) (v := .ref (z 1)) (C := RX10) (T := TX10) (N := 40) hx hb hg inX10 hown hK hP 1 rfl rfl 1 (by decide) (hg _ q_5_225) (fun _ h9 => h9) rfl dX10_notes_72 ?_
  refine lv_bipush (v := 53) hx hb dX10_notes_75 (by decide) ?_
  refine va_iald hx hb hK hP 2 0 rfl rfl (vin (by decide +kernel)) dX10_notes_77 ?_
  refine tpi (y := 0) (rfl) ?_
  refine lv_imul hx hb dX10_notes_78 ?_
  refine tpi (y := 0) (by decide +kernel) ?_
  refine lv_iadd hx hb dX10_notes_79 ?_
  refine tpi (y := 54) (by decide +kernel) ?_
  refine lv_iload_n hx hb dX10_notes_80 rfl (lv_at hl 0 rfl) ?_
  refine lv_iadd hx hb dX10_notes_81 ?_
  refine tpi (y := 54) (by decide +kernel) ?_
  refine lv_aload_n hx hb dX10_notes_82 rfl (lv_at hl 1 rfl) ?_
  refine va_get (ci := 10) (v := .ref (z 17)) (C := RX10) (T := TX10) (N := 40) hx hb hg inX10 hown hK hP 1 rfl rfl 17 (by decide) (hg _ q_6_1) (fun _ h9 => h9) rfl dX10_notes_83 ?_
  refine lv_iload_n hx hb dX10_notes_86 rfl (lv_at hl 0 rfl) ?_
  refine va_iald hx hb hK hP 0 0 rfl rfl (vin (by decide +kernel)) dX10_notes_87 ?_
  refine tpi (y := 0) (rfl) ?_
  refine va_iast hx hb hK hP hD hS 2 0 rfl rfl (vin (by decide +kernel)) dX10_notes_88 (fun H locs hP hD hS => ?_)
  have hP : va_P V.1 vwCl [(z 17, aI V 7 (fun _ => 0)), (z 0, .inr (10, mo z 0 0 0 0 0 0 0 0 0 0 (-1) 0 p0 0 0 0)), (z 1, aI V 3075 (upd (upd (upd (fun _ => 0) 51 p1) 52 p2) 54 0))] H := hP
  have hD : va_D A [(z 17, aI V 7 (fun _ => 0)), (z 0, .inr (10, mo z 0 0 0 0 0 0 0 0 0 0 (-1) 0 p0 0 0 0)), (z 1, aI V 3075 (upd (upd (upd (fun _ => 0) 51 p1) 52 p2) 54 0))] := hD
  have hP : va_P V.1 vwCl [(z 17, aI V 7 (fun _ => 0)), (z 0, .inr (10, mo z 0 0 0 0 0 0 0 0 0 0 (-1) 0 p0 0 0 0)), (z 1, aI V 3075 (upd (upd (fun _ => 0) 51 p1) 52 p2))] H := by rw [updid (k := 54) (v := 0) rfl] at hP; exact hP
  have hD : va_D A [(z 17, aI V 7 (fun _ => 0)), (z 0, .inr (10, mo z 0 0 0 0 0 0 0 0 0 0 (-1) 0 p0 0 0 0)), (z 1, aI V 3075 (upd (upd (fun _ => 0) 51 p1) 52 p2))] := by rw [updid (k := 54) (v := 0) rfl] at hD; exact hD
  refine lv_iinc (v := 1) (lv' := [(1, .int 1), (0, .ref (z 0))]) hx hb dX10_notes_89 hl (k := 0) rfl (by decide +kernel) (by decide) rfl (fun ls hl => ?_)
  refine lv_goto (tgt := 57) hx hb dX10_notes_92 (by decide) ?_
  refine lv_iload_n hx hb dX10_notes_57 rfl (lv_at hl 0 rfl) ?_
  refine lv_bipush (v := 7) hx hb dX10_notes_58 (by decide) ?_
  refine lv_icmp_ge (tgt := 95) hx hb dX10_notes_60 (by decide) (fun c_3 => absurd c_3 (by decide)) (fun _ => ?_)
  refine lv_aload_n hx hb dX10_notes_63 rfl (lv_at hl 1 rfl) ?_
  refine va_get (ci := 10) (v := .ref (z 1)) (C := RX10) (T := TX10) (N := 40) hx hb hg inX10 hown hK hP 1 rfl rfl 1 (by decide) (hg _ q_5_225) (fun _ h9 => h9) rfl dX10_notes_64 ?_
  refine lv_bipush (v := 54) hx hb dX10_notes_67 (by decide) ?_
  refine lv_bipush (v := 7) hx hb dX10_notes_69 (by decide) ?_
  refine lv_aload_n hx hb dX10_notes_71 rfl (lv_at hl 1 rfl) ?_
  refine va_get (ci := 10) (v := .ref (z 1)) (C := RX10) (T := TX10) (N := 40) hx hb hg inX10 hown hK hP 1 rfl rfl 1 (by decide) (hg _ q_5_225) (fun _ h9 => h9) rfl dX10_notes_72 ?_
  refine lv_bipush (v := 53) hx hb dX10_notes_75 (by decide) ?_
  refine va_iald hx hb hK hP 2 0 rfl rfl (vin (by decide +kernel)) dX10_notes_77 ?_
  refine tpi (y := 0) (rfl) ?_
  refine lv_imul hx hb dX10_notes_78 ?_
  refine tpi (y := 0) (by decide +kernel) ?_
  refine lv_iadd hx hb dX10_notes_79 ?_
  refine tpi (y := 54) (by decide +kernel) ?_
  refine lv_iload_n hx hb dX10_notes_80 rfl (lv_at hl 0 rfl) ?_
  refine lv_iadd hx hb dX10_notes_81 ?_
  refine tpi (y := 55) (by decide +kernel) ?_
  refine lv_aload_n hx hb dX10_notes_82 rfl (lv_at hl 1 rfl) ?_
  refine va_get (ci := 10) (v := .ref (z 17)) (C := RX10) (T := TX10) (N := 40) hx hb hg inX10 hown hK hP 1 rfl rfl 17 (by decide) (hg _ q_6_1) (fun _ h9 => h9) rfl dX10_notes_83 ?_
  refine lv_iload_n hx hb dX10_notes_86 rfl (lv_at hl 0 rfl) ?_
  refine va_iald hx hb hK hP 0 0 rfl rfl (vin (by decide +kernel)) dX10_notes_87 ?_
  refine tpi (y := 0) (rfl) ?_
  refine va_iast hx hb hK hP hD hS 2 0 rfl rfl (vin (by decide +kernel)) dX10_notes_88 (fun H locs hP hD hS => ?_)
  have hP : va_P V.1 vwCl [(z 17, aI V 7 (fun _ => 0)), (z 0, .inr (10, mo z 0 0 0 0 0 0 0 0 0 0 (-1) 0 p0 0 0 0)), (z 1, aI V 3075 (upd (upd (upd (fun _ => 0) 51 p1) 52 p2) 55 0))] H := hP
  have hD : va_D A [(z 17, aI V 7 (fun _ => 0)), (z 0, .inr (10, mo z 0 0 0 0 0 0 0 0 0 0 (-1) 0 p0 0 0 0)), (z 1, aI V 3075 (upd (upd (upd (fun _ => 0) 51 p1) 52 p2) 55 0))] := hD
  have hP : va_P V.1 vwCl [(z 17, aI V 7 (fun _ => 0)), (z 0, .inr (10, mo z 0 0 0 0 0 0 0 0 0 0 (-1) 0 p0 0 0 0)), (z 1, aI V 3075 (upd (upd (fun _ => 0) 51 p1) 52 p2))] H := by rw [updid (k := 55) (v := 0) rfl] at hP; exact hP
  have hD : va_D A [(z 17, aI V 7 (fun _ => 0)), (z 0, .inr (10, mo z 0 0 0 0 0 0 0 0 0 0 (-1) 0 p0 0 0 0)), (z 1, aI V 3075 (upd (upd (fun _ => 0) 51 p1) 52 p2))] := by rw [updid (k := 55) (v := 0) rfl] at hD; exact hD
  refine lv_iinc (v := 2) (lv' := [(1, .int 2), (0, .ref (z 0))]) hx hb dX10_notes_89 hl (k := 0) rfl (by decide +kernel) (by decide) rfl (fun ls hl => ?_)
  refine lv_goto (tgt := 57) hx hb dX10_notes_92 (by decide) ?_
  refine lv_iload_n hx hb dX10_notes_57 rfl (lv_at hl 0 rfl) ?_
  refine lv_bipush (v := 7) hx hb dX10_notes_58 (by decide) ?_
  refine lv_icmp_ge (tgt := 95) hx hb dX10_notes_60 (by decide) (fun c_4 => absurd c_4 (by decide)) (fun _ => ?_)
  refine lv_aload_n hx hb dX10_notes_63 rfl (lv_at hl 1 rfl) ?_
  refine va_get (ci := 10) (v := .ref (z 1)) (C := RX10) (T := TX10) (N := 40) hx hb hg inX10 hown hK hP 1 rfl rfl 1 (by decide) (hg _ q_5_225) (fun _ h9 => h9) rfl dX10_notes_64 ?_
  refine lv_bipush (v := 54) hx hb dX10_notes_67 (by decide) ?_
  refine lv_bipush (v := 7) hx hb dX10_notes_69 (by decide) ?_
  refine lv_aload_n hx hb dX10_notes_71 rfl (lv_at hl 1 rfl) ?_
  refine va_get (ci := 10) (v := .ref (z 1)) (C := RX10) (T := TX10) (N := 40) hx hb hg inX10 hown hK hP 1 rfl rfl 1 (by decide) (hg _ q_5_225) (fun _ h9 => h9) rfl dX10_notes_72 ?_
  refine lv_bipush (v := 53) hx hb dX10_notes_75 (by decide) ?_
  refine va_iald hx hb hK hP 2 0 rfl rfl (vin (by decide +kernel)) dX10_notes_77 ?_
  refine tpi (y := 0) (rfl) ?_
  refine lv_imul hx hb dX10_notes_78 ?_
  refine tpi (y := 0) (by decide +kernel) ?_
  refine lv_iadd hx hb dX10_notes_79 ?_
  refine tpi (y := 54) (by decide +kernel) ?_
  refine lv_iload_n hx hb dX10_notes_80 rfl (lv_at hl 0 rfl) ?_
  refine lv_iadd hx hb dX10_notes_81 ?_
  refine tpi (y := 56) (by decide +kernel) ?_
  refine lv_aload_n hx hb dX10_notes_82 rfl (lv_at hl 1 rfl) ?_
  refine va_get (ci := 10) (v := .ref (z 17)) (C := RX10) (T := TX10) (N := 40) hx hb hg inX10 hown hK hP 1 rfl rfl 17 (by decide) (hg _ q_6_1) (fun _ h9 => h9) rfl dX10_notes_83 ?_
  refine lv_iload_n hx hb dX10_notes_86 rfl (lv_at hl 0 rfl) ?_
  refine va_iald hx hb hK hP 0 0 rfl rfl (vin (by decide +kernel)) dX10_notes_87 ?_
  refine tpi (y := 0) (rfl) ?_
  refine va_iast hx hb hK hP hD hS 2 0 rfl rfl (vin (by decide +kernel)) dX10_notes_88 (fun H locs hP hD hS => ?_)
  have hP : va_P V.1 vwCl [(z 17, aI V 7 (fun _ => 0)), (z 0, .inr (10, mo z 0 0 0 0 0 0 0 0 0 0 (-1) 0 p0 0 0 0)), (z 1, aI V 3075 (upd (upd (upd (fun _ => 0) 51 p1) 52 p2) 56 0))] H := hP
  have hD : va_D A [(z 17, aI V 7 (fun _ => 0)), (z 0, .inr (10, mo z 0 0 0 0 0 0 0 0 0 0 (-1) 0 p0 0 0 0)), (z 1, aI V 3075 (upd (upd (upd (fun _ => 0) 51 p1) 52 p2) 56 0))] := hD
  have hP : va_P V.1 vwCl [(z 17, aI V 7 (fun _ => 0)), (z 0, .inr (10, mo z 0 0 0 0 0 0 0 0 0 0 (-1) 0 p0 0 0 0)), (z 1, aI V 3075 (upd (upd (fun _ => 0) 51 p1) 52 p2))] H := by rw [updid (k := 56) (v := 0) rfl] at hP; exact hP
  have hD : va_D A [(z 17, aI V 7 (fun _ => 0)), (z 0, .inr (10, mo z 0 0 0 0 0 0 0 0 0 0 (-1) 0 p0 0 0 0)), (z 1, aI V 3075 (upd (upd (fun _ => 0) 51 p1) 52 p2))] := by rw [updid (k := 56) (v := 0) rfl] at hD; exact hD
  refine lv_iinc (v := 3) (lv' := [(1, .int 3), (0, .ref (z 0))]) hx hb dX10_notes_89 hl (k := 0) rfl (by decide +kernel) (by decide) rfl (fun ls hl => ?_)
  refine lv_goto (tgt := 57) hx hb dX10_notes_92 (by decide) ?_
  refine lv_iload_n hx hb dX10_notes_57 rfl (lv_at hl 0 rfl) ?_
  refine lv_bipush (v := 7) hx hb dX10_notes_58 (by decide) ?_
  refine lv_icmp_ge (tgt := 95) hx hb dX10_notes_60 (by decide) (fun c_5 => absurd c_5 (by decide)) (fun _ => ?_)
  refine lv_aload_n hx hb dX10_notes_63 rfl (lv_at hl 1 rfl) ?_
  refine va_get (ci := 10) (v := .ref (z 1)) (C := RX10) (T := TX10) (N := 40) hx hb hg inX10 hown hK hP 1 rfl rfl 1 (by decide) (hg _ q_5_225) (fun _ h9 => h9) rfl dX10_notes_64 ?_
  refine lv_bipush (v := 54) hx hb dX10_notes_67 (by decide) ?_
  refine lv_bipush (v := 7) hx hb dX10_notes_69 (by decide) ?_
  refine lv_aload_n hx hb dX10_notes_71 rfl (lv_at hl 1 rfl) ?_
  refine va_get (ci := 10) (v := .ref (z 1)) (C := RX10) (T := TX10) (N := 40) hx hb hg inX10 hown hK hP 1 rfl rfl 1 (by decide) (hg _ q_5_225) (fun _ h9 => h9) rfl dX10_notes_72 ?_
  refine lv_bipush (v := 53) hx hb dX10_notes_75 (by decide) ?_
  refine va_iald hx hb hK hP 2 0 rfl rfl (vin (by decide +kernel)) dX10_notes_77 ?_
  refine tpi (y := 0) (rfl) ?_
  refine lv_imul hx hb dX10_notes_78 ?_
  refine tpi (y := 0) (by decide +kernel) ?_
  refine lv_iadd hx hb dX10_notes_79 ?_
  refine tpi (y := 54) (by decide +kernel) ?_
  refine lv_iload_n hx hb dX10_notes_80 rfl (lv_at hl 0 rfl) ?_
  refine lv_iadd hx hb dX10_notes_81 ?_
  refine tpi (y := 57) (by decide +kernel) ?_
  refine lv_aload_n hx hb dX10_notes_82 rfl (lv_at hl 1 rfl) ?_
  refine va_get (ci := 10) (v := .ref (z 17)) (C := RX10) (T := TX10) (N := 40) hx hb hg inX10 hown hK hP 1 rfl rfl 17 (by decide) (hg _ q_6_1) (fun _ h9 => h9) rfl dX10_notes_83 ?_
  refine lv_iload_n hx hb dX10_notes_86 rfl (lv_at hl 0 rfl) ?_
  refine va_iald hx hb hK hP 0 0 rfl rfl (vin (by decide +kernel)) dX10_notes_87 ?_
  refine tpi (y := 0) (rfl) ?_
  refine va_iast hx hb hK hP hD hS 2 0 rfl rfl (vin (by decide +kernel)) dX10_notes_88 (fun H locs hP hD hS => ?_)
  have hP : va_P V.1 vwCl [(z 17, aI V 7 (fun _ => 0)), (z 0, .inr (10, mo z 0 0 0 0 0 0 0 0 0 0 (-1) 0 p0 0 0 0)), (z 1, aI V 3075 (upd (upd (upd (fun _ => 0) 51 p1) 52 p2) 57 0))] H := hP
  have hD : va_D A [(z 17, aI V 7 (fun _ => 0)), (z 0, .inr (10, mo z 0 0 0 0 0 0 0 0 0 0 (-1) 0 p0 0 0 0)), (z 1, aI V 3075 (upd (upd (upd (fun _ => 0) 51 p1) 52 p2) 57 0))] := hD
  have hP : va_P V.1 vwCl [(z 17, aI V 7 (fun _ => 0)), (z 0, .inr (10, mo z 0 0 0 0 0 0 0 0 0 0 (-1) 0 p0 0 0 0)), (z 1, aI V 3075 (upd (upd (fun _ => 0) 51 p1) 52 p2))] H := by rw [updid (k := 57) (v := 0) rfl] at hP; exact hP
  have hD : va_D A [(z 17, aI V 7 (fun _ => 0)), (z 0, .inr (10, mo z 0 0 0 0 0 0 0 0 0 0 (-1) 0 p0 0 0 0)), (z 1, aI V 3075 (upd (upd (fun _ => 0) 51 p1) 52 p2))] := by rw [updid (k := 57) (v := 0) rfl] at hD; exact hD
  refine lv_iinc (v := 4) (lv' := [(1, .int 4), (0, .ref (z 0))]) hx hb dX10_notes_89 hl (k := 0) rfl (by decide +kernel) (by decide) rfl (fun ls hl => ?_)
  refine lv_goto (tgt := 57) hx hb dX10_notes_92 (by decide) ?_
  refine lv_iload_n hx hb dX10_notes_57 rfl (lv_at hl 0 rfl) ?_
  refine lv_bipush (v := 7) hx hb dX10_notes_58 (by decide) ?_
  refine lv_icmp_ge (tgt := 95) hx hb dX10_notes_60 (by decide) (fun c_6 => absurd c_6 (by decide)) (fun _ => ?_)
  refine lv_aload_n hx hb dX10_notes_63 rfl (lv_at hl 1 rfl) ?_
  refine va_get (ci := 10) (v := .ref (z 1)) (C := RX10) (T := TX10) (N := 40) hx hb hg inX10 hown hK hP 1 rfl rfl 1 (by decide) (hg _ q_5_225) (fun _ h9 => h9) rfl dX10_notes_64 ?_
  refine lv_bipush (v := 54) hx hb dX10_notes_67 (by decide) ?_
  refine lv_bipush (v := 7) hx hb dX10_notes_69 (by decide) ?_
  refine lv_aload_n hx hb dX10_notes_71 rfl (lv_at hl 1 rfl) ?_
  refine va_get (ci := 10) (v := .ref (z 1)) (C := RX10) (T := TX10) (N := 40) hx hb hg inX10 hown hK hP 1 rfl rfl 1 (by decide) (hg _ q_5_225) (fun _ h9 => h9) rfl dX10_notes_72 ?_
  refine lv_bipush (v := 53) hx hb dX10_notes_75 (by decide) ?_
  refine va_iald hx hb hK hP 2 0 rfl rfl (vin (by decide +kernel)) dX10_notes_77 ?_
  refine tpi (y := 0) (rfl) ?_
  refine lv_imul hx hb dX10_notes_78 ?_
  refine tpi (y := 0) (by decide +kernel) ?_
  refine lv_iadd hx hb dX10_notes_79 ?_
  refine tpi (y := 54) (by decide +kernel) ?_
  refine lv_iload_n hx hb dX10_notes_80 rfl (lv_at hl 0 rfl) ?_
  refine lv_iadd hx hb dX10_notes_81 ?_
  refine tpi (y := 58) (by decide +kernel) ?_
  refine lv_aload_n hx hb dX10_notes_82 rfl (lv_at hl 1 rfl) ?_
  refine va_get (ci := 10) (v := .ref (z 17)) (C := RX10) (T := TX10) (N := 40) hx hb hg inX10 hown hK hP 1 rfl rfl 17 (by decide) (hg _ q_6_1) (fun _ h9 => h9) rfl dX10_notes_83 ?_
  refine lv_iload_n hx hb dX10_notes_86 rfl (lv_at hl 0 rfl) ?_
  refine va_iald hx hb hK hP 0 0 rfl rfl (vin (by decide +kernel)) dX10_notes_87 ?_
  refine tpi (y := 0) (rfl) ?_
  refine va_iast hx hb hK hP hD hS 2 0 rfl rfl (vin (by decide +kernel)) dX10_notes_88 (fun H locs hP hD hS => ?_)
  have hP : va_P V.1 vwCl [(z 17, aI V 7 (fun _ => 0)), (z 0, .inr (10, mo z 0 0 0 0 0 0 0 0 0 0 (-1) 0 p0 0 0 0)), (z 1, aI V 3075 (upd (upd (upd (fun _ => 0) 51 p1) 52 p2) 58 0))] H := hP
  have hD : va_D A [(z 17, aI V 7 (fun _ => 0)), (z 0, .inr (10, mo z 0 0 0 0 0 0 0 0 0 0 (-1) 0 p0 0 0 0)), (z 1, aI V 3075 (upd (upd (upd (fun _ => 0) 51 p1) 52 p2) 58 0))] := hD
  have hP : va_P V.1 vwCl [(z 17, aI V 7 (fun _ => 0)), (z 0, .inr (10, mo z 0 0 0 0 0 0 0 0 0 0 (-1) 0 p0 0 0 0)), (z 1, aI V 3075 (upd (upd (fun _ => 0) 51 p1) 52 p2))] H := by rw [updid (k := 58) (v := 0) rfl] at hP; exact hP
  have hD : va_D A [(z 17, aI V 7 (fun _ => 0)), (z 0, .inr (10, mo z 0 0 0 0 0 0 0 0 0 0 (-1) 0 p0 0 0 0)), (z 1, aI V 3075 (upd (upd (fun _ => 0) 51 p1) 52 p2))] := by rw [updid (k := 58) (v := 0) rfl] at hD; exact hD
  refine lv_iinc (v := 5) (lv' := [(1, .int 5), (0, .ref (z 0))]) hx hb dX10_notes_89 hl (k := 0) rfl (by decide +kernel) (by decide) rfl (fun ls hl => ?_)
  refine lv_goto (tgt := 57) hx hb dX10_notes_92 (by decide) ?_
  refine lv_iload_n hx hb dX10_notes_57 rfl (lv_at hl 0 rfl) ?_
  refine lv_bipush (v := 7) hx hb dX10_notes_58 (by decide) ?_
  refine lv_icmp_ge (tgt := 95) hx hb dX10_notes_60 (by decide) (fun c_7 => absurd c_7 (by decide)) (fun _ => ?_)
  refine lv_aload_n hx hb dX10_notes_63 rfl (lv_at hl 1 rfl) ?_
  refine va_get (ci := 10) (v := .ref (z 1)) (C := RX10) (T := TX10) (N := 40) hx hb hg inX10 hown hK hP 1 rfl rfl 1 (by decide) (hg _ q_5_225) (fun _ h9 => h9) rfl dX10_notes_64 ?_
  refine lv_bipush (v := 54) hx hb dX10_notes_67 (by decide) ?_
  refine lv_bipush (v := 7) hx hb dX10_notes_69 (by decide) ?_
  refine lv_aload_n hx hb dX10_notes_71 rfl (lv_at hl 1 rfl) ?_
  refine va_get (ci := 10) (v := .ref (z 1)) (C := RX10) (T := TX10) (N := 40) hx hb hg inX10 hown hK hP 1 rfl rfl 1 (by decide) (hg _ q_5_225) (fun _ h9 => h9) rfl dX10_notes_72 ?_
  refine lv_bipush (v := 53) hx hb dX10_notes_75 (by decide) ?_
  refine va_iald hx hb hK hP 2 0 rfl rfl (vin (by decide +kernel)) dX10_notes_77 ?_
  refine tpi (y := 0) (rfl) ?_
  refine lv_imul hx hb dX10_notes_78 ?_
  refine tpi (y := 0) (by decide +kernel) ?_
  refine lv_iadd hx hb dX10_notes_79 ?_
  refine tpi (y := 54) (by decide +kernel) ?_
  refine lv_iload_n hx hb dX10_notes_80 rfl (lv_at hl 0 rfl) ?_
  refine lv_iadd hx hb dX10_notes_81 ?_
  refine tpi (y := 59) (by decide +kernel) ?_
  refine lv_aload_n hx hb dX10_notes_82 rfl (lv_at hl 1 rfl) ?_
  refine va_get (ci := 10) (v := .ref (z 17)) (C := RX10) (T := TX10) (N := 40) hx hb hg inX10 hown hK hP 1 rfl rfl 17 (by decide) (hg _ q_6_1) (fun _ h9 => h9) rfl dX10_notes_83 ?_
  refine lv_iload_n hx hb dX10_notes_86 rfl (lv_at hl 0 rfl) ?_
  refine va_iald hx hb hK hP 0 0 rfl rfl (vin (by decide +kernel)) dX10_notes_87 ?_
  refine tpi (y := 0) (rfl) ?_
  refine va_iast hx hb hK hP hD hS 2 0 rfl rfl (vin (by decide +kernel)) dX10_notes_88 (fun H locs hP hD hS => ?_)
  have hP : va_P V.1 vwCl [(z 17, aI V 7 (fun _ => 0)), (z 0, .inr (10, mo z 0 0 0 0 0 0 0 0 0 0 (-1) 0 p0 0 0 0)), (z 1, aI V 3075 (upd (upd (upd (fun _ => 0) 51 p1) 52 p2) 59 0))] H := hP
  have hD : va_D A [(z 17, aI V 7 (fun _ => 0)), (z 0, .inr (10, mo z 0 0 0 0 0 0 0 0 0 0 (-1) 0 p0 0 0 0)), (z 1, aI V 3075 (upd (upd (upd (fun _ => 0) 51 p1) 52 p2) 59 0))] := hD
  have hP : va_P V.1 vwCl [(z 17, aI V 7 (fun _ => 0)), (z 0, .inr (10, mo z 0 0 0 0 0 0 0 0 0 0 (-1) 0 p0 0 0 0)), (z 1, aI V 3075 (upd (upd (fun _ => 0) 51 p1) 52 p2))] H := by rw [updid (k := 59) (v := 0) rfl] at hP; exact hP
  have hD : va_D A [(z 17, aI V 7 (fun _ => 0)), (z 0, .inr (10, mo z 0 0 0 0 0 0 0 0 0 0 (-1) 0 p0 0 0 0)), (z 1, aI V 3075 (upd (upd (fun _ => 0) 51 p1) 52 p2))] := by rw [updid (k := 59) (v := 0) rfl] at hD; exact hD
  refine lv_iinc (v := 6) (lv' := [(1, .int 6), (0, .ref (z 0))]) hx hb dX10_notes_89 hl (k := 0) rfl (by decide +kernel) (by decide) rfl (fun ls hl => ?_)
  refine lv_goto (tgt := 57) hx hb dX10_notes_92 (by decide) ?_
  refine lv_iload_n hx hb dX10_notes_57 rfl (lv_at hl 0 rfl) ?_
  refine lv_bipush (v := 7) hx hb dX10_notes_58 (by decide) ?_
  refine lv_icmp_ge (tgt := 95) hx hb dX10_notes_60 (by decide) (fun c_8 => absurd c_8 (by decide)) (fun _ => ?_)
  refine lv_aload_n hx hb dX10_notes_63 rfl (lv_at hl 1 rfl) ?_
  refine va_get (ci := 10) (v := .ref (z 1)) (C := RX10) (T := TX10) (N := 40) hx hb hg inX10 hown hK hP 1 rfl rfl 1 (by decide) (hg _ q_5_225) (fun _ h9 => h9) rfl dX10_notes_64 ?_
  refine lv_bipush (v := 54) hx hb dX10_notes_67 (by decide) ?_
  refine lv_bipush (v := 7) hx hb dX10_notes_69 (by decide) ?_
  refine lv_aload_n hx hb dX10_notes_71 rfl (lv_at hl 1 rfl) ?_
  refine va_get (ci := 10) (v := .ref (z 1)) (C := RX10) (T := TX10) (N := 40) hx hb hg inX10 hown hK hP 1 rfl rfl 1 (by decide) (hg _ q_5_225) (fun _ h9 => h9) rfl dX10_notes_72 ?_
  refine lv_bipush (v := 53) hx hb dX10_notes_75 (by decide) ?_
  refine va_iald hx hb hK hP 2 0 rfl rfl (vin (by decide +kernel)) dX10_notes_77 ?_
  refine tpi (y := 0) (rfl) ?_
  refine lv_imul hx hb dX10_notes_78 ?_
  refine tpi (y := 0) (by decide +kernel) ?_
  refine lv_iadd hx hb dX10_notes_79 ?_
  refine tpi (y := 54) (by decide +kernel) ?_
  refine lv_iload_n hx hb dX10_notes_80 rfl (lv_at hl 0 rfl) ?_
  refine lv_iadd hx hb dX10_notes_81 ?_
  refine tpi (y := 60) (by decide +kernel) ?_
  refine lv_aload_n hx hb dX10_notes_82 rfl (lv_at hl 1 rfl) ?_
  refine va_get (ci := 10) (v := .ref (z 17)) (C := RX10) (T := TX10) (N := 40) hx hb hg inX10 hown hK hP 1 rfl rfl 17 (by decide) (hg _ q_6_1) (fun _ h9 => h9) rfl dX10_notes_83 ?_
  refine lv_iload_n hx hb dX10_notes_86 rfl (lv_at hl 0 rfl) ?_
  refine va_iald hx hb hK hP 0 0 rfl rfl (vin (by decide +kernel)) dX10_notes_87 ?_
  refine tpi (y := 0) (rfl) ?_
  refine va_iast hx hb hK hP hD hS 2 0 rfl rfl (vin (by decide +kernel)) dX10_notes_88 (fun H locs hP hD hS => ?_)
  have hP : va_P V.1 vwCl [(z 17, aI V 7 (fun _ => 0)), (z 0, .inr (10, mo z 0 0 0 0 0 0 0 0 0 0 (-1) 0 p0 0 0 0)), (z 1, aI V 3075 (upd (upd (upd (fun _ => 0) 51 p1) 52 p2) 60 0))] H := hP
  have hD : va_D A [(z 17, aI V 7 (fun _ => 0)), (z 0, .inr (10, mo z 0 0 0 0 0 0 0 0 0 0 (-1) 0 p0 0 0 0)), (z 1, aI V 3075 (upd (upd (upd (fun _ => 0) 51 p1) 52 p2) 60 0))] := hD
  have hP : va_P V.1 vwCl [(z 17, aI V 7 (fun _ => 0)), (z 0, .inr (10, mo z 0 0 0 0 0 0 0 0 0 0 (-1) 0 p0 0 0 0)), (z 1, aI V 3075 (upd (upd (fun _ => 0) 51 p1) 52 p2))] H := by rw [updid (k := 60) (v := 0) rfl] at hP; exact hP
  have hD : va_D A [(z 17, aI V 7 (fun _ => 0)), (z 0, .inr (10, mo z 0 0 0 0 0 0 0 0 0 0 (-1) 0 p0 0 0 0)), (z 1, aI V 3075 (upd (upd (fun _ => 0) 51 p1) 52 p2))] := by rw [updid (k := 60) (v := 0) rfl] at hD; exact hD
  refine lv_iinc (v := 7) (lv' := [(1, .int 7), (0, .ref (z 0))]) hx hb dX10_notes_89 hl (k := 0) rfl (by decide +kernel) (by decide) rfl (fun ls hl => ?_)
  refine lv_goto (tgt := 57) hx hb dX10_notes_92 (by decide) ?_
  refine lv_iload_n hx hb dX10_notes_57 rfl (lv_at hl 0 rfl) ?_
  refine lv_bipush (v := 7) hx hb dX10_notes_58 (by decide) ?_
  refine lv_icmp_ge (tgt := 95) hx hb dX10_notes_60 (by decide) (fun _ => ?_) (fun c_9 => absurd c_9 (by decide))
  refine lv_aload_n hx hb dX10_notes_95 rfl (lv_at hl 1 rfl) ?_
  refine va_get (ci := 10) (v := .ref (z 1)) (C := RX10) (T := TX10) (N := 40) hx hb hg inX10 hown hK hP 1 rfl rfl 1 (by decide) (hg _ q_5_225) (fun _ h9 => h9) rfl dX10_notes_96 ?_
  refine lv_bipush (v := 53) hx hb dX10_notes_99 (by decide) ?_
  refine lv_dup2_11 hx hb dX10_notes_101 rfl rfl ?_
  refine va_iald hx hb hK hP 2 0 rfl rfl (vin (by decide +kernel)) dX10_notes_102 ?_
  refine tpi (y := 0) (rfl) ?_
  refine lv_iconst (v := 1) hx hb dX10_notes_103 (by decide) ?_
  refine lv_iadd hx hb dX10_notes_104 ?_
  refine tpi (y := 1) (by decide +kernel) ?_
  refine va_iast hx hb hK hP hD hS 2 0 rfl rfl (vin (by decide +kernel)) dX10_notes_105 (fun H locs hP hD hS => ?_)
  have hP : va_P V.1 vwCl [(z 17, aI V 7 (fun _ => 0)), (z 0, .inr (10, mo z 0 0 0 0 0 0 0 0 0 0 (-1) 0 p0 0 0 0)), (z 1, aI V 3075 (upd (upd (upd (fun _ => 0) 51 p1) 52 p2) 53 1))] H := hP
  have hD : va_D A [(z 17, aI V 7 (fun _ => 0)), (z 0, .inr (10, mo z 0 0 0 0 0 0 0 0 0 0 (-1) 0 p0 0 0 0)), (z 1, aI V 3075 (upd (upd (upd (fun _ => 0) 51 p1) 52 p2) 53 1))] := hD
  exact fiV hx hb hr hlk hK hP hD hS dX10_notes_106 (Nat.le_of_ble_eq_true rfl) (Nat.le_of_ble_eq_true rfl) (rfl)
theorem dX10_draw_0 : decode cX10_draw 0 = .ok (.aload_n 0, 1) := by decide +kernel
theorem q_7_152 : Cond.constant "BeaconDelayModel" 329 (1103515245 : Int32) ∈ gw := gw_7 (i := 152) (by decide +kernel) rfl
theorem dX10_draw_1 : decode cX10_draw 1 = .ok (.ldc_w 329, 3) := by decide +kernel
theorem dX10_draw_4 : decode cX10_draw 4 = .ok (.aload_n 0, 1) := by decide +kernel
theorem q_6_3 : Cond.fieldLink "BeaconDelayModel" 330 "BeaconDelayModel" "x" "I" ∈ gw := gw_6 (i := 3) (by decide +kernel) rfl
theorem dX10_draw_5 : decode cX10_draw 5 = .ok (.getfield 330, 3) := by decide +kernel
theorem dX10_draw_8 : decode cX10_draw 8 = .ok (.imul, 1) := by decide +kernel
theorem dX10_draw_9 : decode cX10_draw 9 = .ok (.sipush 12345, 3) := by decide +kernel
theorem dX10_draw_12 : decode cX10_draw 12 = .ok (.iadd, 1) := by decide +kernel
theorem dX10_draw_13 : decode cX10_draw 13 = .ok (.putfield 330, 3) := by decide +kernel
theorem dX10_draw_16 : decode cX10_draw 16 = .ok (.aload_n 0, 1) := by decide +kernel
theorem dX10_draw_17 : decode cX10_draw 17 = .ok (.getfield 330, 3) := by decide +kernel
theorem dX10_draw_20 : decode cX10_draw 20 = .ok (.bipush 16, 2) := by decide +kernel
theorem dX10_draw_22 : decode cX10_draw 22 = .ok (.iushr, 1) := by decide +kernel
theorem dX10_draw_23 : decode cX10_draw 23 = .ok (.iload_n 1, 1) := by decide +kernel
theorem dX10_draw_24 : decode cX10_draw 24 = .ok (.irem, 1) := by decide +kernel
theorem dX10_draw_25 : decode cX10_draw 25 = .ok (.ireturn, 1) := by decide +kernel
set_option maxHeartbeats 4000000 in
set_option maxRecDepth 100000 in
theorem c_X10_draw_0 (l : Launch) (V : GV) (z : Nat → Nat) (p0 : Int32) : Ct l V yX10_draw (.code yX10_draw cX10_draw 2 (some .int)) 1 [.ref (z 0), .int 6] [(z 0, .inr (10, mo z 0 0 0 0 0 0 0 0 0 0 (-1) 0 p0 0 0 0))] 0 0 (QI V (fun (r : Int32) (w : va_W) => (rmd (shd ((1103515245 * p0) + 12345)) 6 = 0 ∧ r = 0 ∧ w = [(z 0, .inr (10, mo z 0 0 0 0 0 0 0 0 0 0 (-1) 0 ((1103515245 * p0) + 12345) 0 0 0))]) ∨ (rmd (shd ((1103515245 * p0) + 12345)) 6 = 1 ∧ r = 1 ∧ w = [(z 0, .inr (10, mo z 0 0 0 0 0 0 0 0 0 0 (-1) 0 ((1103515245 * p0) + 12345) 0 0 0))]) ∨ (rmd (shd ((1103515245 * p0) + 12345)) 6 = 2 ∧ r = 2 ∧ w = [(z 0, .inr (10, mo z 0 0 0 0 0 0 0 0 0 0 (-1) 0 ((1103515245 * p0) + 12345) 0 0 0))]) ∨ (rmd (shd ((1103515245 * p0) + 12345)) 6 = 3 ∧ r = 3 ∧ w = [(z 0, .inr (10, mo z 0 0 0 0 0 0 0 0 0 0 (-1) 0 ((1103515245 * p0) + 12345) 0 0 0))]) ∨ (rmd (shd ((1103515245 * p0) + 12345)) 6 = 4 ∧ r = 4 ∧ w = [(z 0, .inr (10, mo z 0 0 0 0 0 0 0 0 0 0 (-1) 0 ((1103515245 * p0) + 12345) 0 0 0))]) ∨ (rmd (shd ((1103515245 * p0) + 12345)) 6 = 5 ∧ r = 5 ∧ w = [(z 0, .inr (10, mo z 0 0 0 0 0 0 0 0 0 0 (-1) 0 ((1103515245 * p0) + 12345) 0 0 0))]))) := by
  refine Ct.of (by decide) (Nat.le_of_ble_eq_true rfl) (fun p e s m below meth c A ls hx hb hr hml hown hlk hnm hg hP hK hD hE hA hS hl => ?_)
  have hl : lv_has ls 2 [(0, .ref (z 0)), (1, .int 6)] := hl
  refine lv_aload_n hx hb dX10_draw_0 rfl (lv_at hl 0 rfl) ?_
  refine lv_ldcw (v := 1103515245) hx hb hown (hg _ q_7_152) dX10_draw_1 ?_
  refine lv_aload_n hx hb dX10_draw_4 rfl (lv_at hl 0 rfl) ?_
  refine va_get (ci := 10) (v := .int p0) (C := RX10) (T := TX10) (N := 40) hx hb hg inX10 hown hK hP 0 rfl rfl 19 (by decide) (hg _ q_6_3) (fun _ h9 => h9) rfl dX10_draw_5 ?_
  refine lv_imul hx hb dX10_draw_8 ?_
  refine lv_sipush (v := 12345) hx hb dX10_draw_9 (by decide) ?_
  refine lv_iadd hx hb dX10_draw_12 ?_
  refine va_put (ci := 10) (v := .int ((1103515245 * p0) + 12345)) (ty := .int) (C := RX10) (T := TX10) (N := 40) hx hb hg inX10 tyX10 tyX10_ok nmX10 hown hK hP hD hS 0 rfl rfl 19 (by decide) (hg _ q_6_3) (fun _ h9 => h9) rfl (by decide +kernel) rfl rfl (Nat.le_of_ble_eq_true rfl) dX10_draw_13 (fun H locs hP hD hS => ?_)
  have hP : va_P V.1 vwCl [(z 0, .inr (10, mo z 0 0 0 0 0 0 0 0 0 0 (-1) 0 ((1103515245 * p0) + 12345) 0 0 0))] H := hP
  have hD : va_D A [(z 0, .inr (10, mo z 0 0 0 0 0 0 0 0 0 0 (-1) 0 ((1103515245 * p0) + 12345) 0 0 0))] := hD
  refine lv_aload_n hx hb dX10_draw_16 rfl (lv_at hl 0 rfl) ?_
  refine va_get (ci := 10) (v := .int ((1103515245 * p0) + 12345)) (C := RX10) (T := TX10) (N := 40) hx hb hg inX10 hown hK hP 0 rfl rfl 19 (by decide) (hg _ q_6_3) (fun _ h9 => h9) rfl dX10_draw_17 ?_
  refine lv_bipush (v := 16) hx hb dX10_draw_20 (by decide) ?_
  refine lv_iushr (v := ((((1103515245 * p0) + 12345).toUInt32 >>> ((16 : Int32).toUInt32 &&& Int32.toUInt32 31)).toInt32)) hx hb dX10_draw_22 rfl ?_
  refine lv_iload_n hx hb dX10_draw_23 rfl (lv_at hl 1 rfl) ?_
  refine lv_irem hx hb dX10_draw_24 (by decide) ?_
  rcases rem6 ((1103515245 * p0) + 12345) with e_1 | e_2 | e_3 | e_4 | e_5 | e_6
  · refine tpi (y := 0) e_1 ?_
    exact fiI hx hb hr hlk hK hP hD hS dX10_draw_25 (Nat.le_of_ble_eq_true rfl) (Nat.le_of_ble_eq_true rfl) (Or.inl ⟨e_1, rfl, rfl⟩)
  · refine tpi (y := 1) e_2 ?_
    exact fiI hx hb hr hlk hK hP hD hS dX10_draw_25 (Nat.le_of_ble_eq_true rfl) (Nat.le_of_ble_eq_true rfl) (Or.inr (Or.inl ⟨e_2, rfl, rfl⟩))
  · refine tpi (y := 2) e_3 ?_
    exact fiI hx hb hr hlk hK hP hD hS dX10_draw_25 (Nat.le_of_ble_eq_true rfl) (Nat.le_of_ble_eq_true rfl) (Or.inr (Or.inr (Or.inl ⟨e_3, rfl, rfl⟩)))
  · refine tpi (y := 3) e_4 ?_
    exact fiI hx hb hr hlk hK hP hD hS dX10_draw_25 (Nat.le_of_ble_eq_true rfl) (Nat.le_of_ble_eq_true rfl) (Or.inr (Or.inr (Or.inr (Or.inl ⟨e_4, rfl, rfl⟩))))
  · refine tpi (y := 4) e_5 ?_
    exact fiI hx hb hr hlk hK hP hD hS dX10_draw_25 (Nat.le_of_ble_eq_true rfl) (Nat.le_of_ble_eq_true rfl) (Or.inr (Or.inr (Or.inr (Or.inr (Or.inl ⟨e_5, rfl, rfl⟩)))))
  · refine tpi (y := 5) e_6 ?_
    exact fiI hx hb hr hlk hK hP hD hS dX10_draw_25 (Nat.le_of_ble_eq_true rfl) (Nat.le_of_ble_eq_true rfl) (Or.inr (Or.inr (Or.inr (Or.inr (Or.inr (⟨e_6, rfl, rfl⟩))))))
set_option maxHeartbeats 4000000 in
set_option maxRecDepth 100000 in
theorem c_X10_draw_1 (l : Launch) (V : GV) (z : Nat → Nat) (p2 : Int32) : Ct l V yX10_draw (.code yX10_draw cX10_draw 2 (some .int)) 1 [.ref (z 0), .int 4] [(z 0, .inr (10, mo z 0 0 0 0 0 0 0 0 0 0 (-1) 0 p2 0 0 0))] 0 0 (QI V (fun (r : Int32) (w : va_W) => (rmd (shd ((1103515245 * p2) + 12345)) 4 = 0 ∧ r = 0 ∧ w = [(z 0, .inr (10, mo z 0 0 0 0 0 0 0 0 0 0 (-1) 0 ((1103515245 * p2) + 12345) 0 0 0))]) ∨ (rmd (shd ((1103515245 * p2) + 12345)) 4 = 1 ∧ r = 1 ∧ w = [(z 0, .inr (10, mo z 0 0 0 0 0 0 0 0 0 0 (-1) 0 ((1103515245 * p2) + 12345) 0 0 0))]) ∨ (rmd (shd ((1103515245 * p2) + 12345)) 4 = 2 ∧ r = 2 ∧ w = [(z 0, .inr (10, mo z 0 0 0 0 0 0 0 0 0 0 (-1) 0 ((1103515245 * p2) + 12345) 0 0 0))]) ∨ (rmd (shd ((1103515245 * p2) + 12345)) 4 = 3 ∧ r = 3 ∧ w = [(z 0, .inr (10, mo z 0 0 0 0 0 0 0 0 0 0 (-1) 0 ((1103515245 * p2) + 12345) 0 0 0))]))) := by
  refine Ct.of (by decide) (Nat.le_of_ble_eq_true rfl) (fun p e s m below meth c A ls hx hb hr hml hown hlk hnm hg hP hK hD hE hA hS hl => ?_)
  have hl : lv_has ls 2 [(0, .ref (z 0)), (1, .int 4)] := hl
  refine lv_aload_n hx hb dX10_draw_0 rfl (lv_at hl 0 rfl) ?_
  refine lv_ldcw (v := 1103515245) hx hb hown (hg _ q_7_152) dX10_draw_1 ?_
  refine lv_aload_n hx hb dX10_draw_4 rfl (lv_at hl 0 rfl) ?_
  refine va_get (ci := 10) (v := .int p2) (C := RX10) (T := TX10) (N := 40) hx hb hg inX10 hown hK hP 0 rfl rfl 19 (by decide) (hg _ q_6_3) (fun _ h9 => h9) rfl dX10_draw_5 ?_
  refine lv_imul hx hb dX10_draw_8 ?_
  refine lv_sipush (v := 12345) hx hb dX10_draw_9 (by decide) ?_
  refine lv_iadd hx hb dX10_draw_12 ?_
  refine va_put (ci := 10) (v := .int ((1103515245 * p2) + 12345)) (ty := .int) (C := RX10) (T := TX10) (N := 40) hx hb hg inX10 tyX10 tyX10_ok nmX10 hown hK hP hD hS 0 rfl rfl 19 (by decide) (hg _ q_6_3) (fun _ h9 => h9) rfl (by decide +kernel) rfl rfl (Nat.le_of_ble_eq_true rfl) dX10_draw_13 (fun H locs hP hD hS => ?_)
  have hP : va_P V.1 vwCl [(z 0, .inr (10, mo z 0 0 0 0 0 0 0 0 0 0 (-1) 0 ((1103515245 * p2) + 12345) 0 0 0))] H := hP
  have hD : va_D A [(z 0, .inr (10, mo z 0 0 0 0 0 0 0 0 0 0 (-1) 0 ((1103515245 * p2) + 12345) 0 0 0))] := hD
  refine lv_aload_n hx hb dX10_draw_16 rfl (lv_at hl 0 rfl) ?_
  refine va_get (ci := 10) (v := .int ((1103515245 * p2) + 12345)) (C := RX10) (T := TX10) (N := 40) hx hb hg inX10 hown hK hP 0 rfl rfl 19 (by decide) (hg _ q_6_3) (fun _ h9 => h9) rfl dX10_draw_17 ?_
  refine lv_bipush (v := 16) hx hb dX10_draw_20 (by decide) ?_
  refine lv_iushr (v := ((((1103515245 * p2) + 12345).toUInt32 >>> ((16 : Int32).toUInt32 &&& Int32.toUInt32 31)).toInt32)) hx hb dX10_draw_22 rfl ?_
  refine lv_iload_n hx hb dX10_draw_23 rfl (lv_at hl 1 rfl) ?_
  refine lv_irem hx hb dX10_draw_24 (by decide) ?_
  rcases rem4 ((1103515245 * p2) + 12345) with e_1 | e_2 | e_3 | e_4
  · refine tpi (y := 0) e_1 ?_
    exact fiI hx hb hr hlk hK hP hD hS dX10_draw_25 (Nat.le_of_ble_eq_true rfl) (Nat.le_of_ble_eq_true rfl) (Or.inl ⟨e_1, rfl, rfl⟩)
  · refine tpi (y := 1) e_2 ?_
    exact fiI hx hb hr hlk hK hP hD hS dX10_draw_25 (Nat.le_of_ble_eq_true rfl) (Nat.le_of_ble_eq_true rfl) (Or.inr (Or.inl ⟨e_2, rfl, rfl⟩))
  · refine tpi (y := 2) e_3 ?_
    exact fiI hx hb hr hlk hK hP hD hS dX10_draw_25 (Nat.le_of_ble_eq_true rfl) (Nat.le_of_ble_eq_true rfl) (Or.inr (Or.inr (Or.inl ⟨e_3, rfl, rfl⟩)))
  · refine tpi (y := 3) e_4 ?_
    exact fiI hx hb hr hlk hK hP hD hS dX10_draw_25 (Nat.le_of_ble_eq_true rfl) (Nat.le_of_ble_eq_true rfl) (Or.inr (Or.inr (Or.inr (⟨e_4, rfl, rfl⟩))))
set_option maxHeartbeats 4000000 in
set_option maxRecDepth 100000 in
theorem c_X10_draw_2 (l : Launch) (V : GV) (z : Nat → Nat) (p2 : Int32) : Ct l V yX10_draw (.code yX10_draw cX10_draw 2 (some .int)) 1 [.ref (z 0), .int 10] [(z 0, .inr (10, mo z 0 0 0 0 0 0 0 0 0 0 (-1) 0 p2 0 0 0))] 0 0 (QI V (fun (r : Int32) (w : va_W) => (rmd (shd ((1103515245 * p2) + 12345)) 10 = 0 ∧ r = 0 ∧ w = [(z 0, .inr (10, mo z 0 0 0 0 0 0 0 0 0 0 (-1) 0 ((1103515245 * p2) + 12345) 0 0 0))]) ∨ (rmd (shd ((1103515245 * p2) + 12345)) 10 = 1 ∧ r = 1 ∧ w = [(z 0, .inr (10, mo z 0 0 0 0 0 0 0 0 0 0 (-1) 0 ((1103515245 * p2) + 12345) 0 0 0))]) ∨ (rmd (shd ((1103515245 * p2) + 12345)) 10 = 2 ∧ r = 2 ∧ w = [(z 0, .inr (10, mo z 0 0 0 0 0 0 0 0 0 0 (-1) 0 ((1103515245 * p2) + 12345) 0 0 0))]) ∨ (rmd (shd ((1103515245 * p2) + 12345)) 10 = 3 ∧ r = 3 ∧ w = [(z 0, .inr (10, mo z 0 0 0 0 0 0 0 0 0 0 (-1) 0 ((1103515245 * p2) + 12345) 0 0 0))]) ∨ (rmd (shd ((1103515245 * p2) + 12345)) 10 = 4 ∧ r = 4 ∧ w = [(z 0, .inr (10, mo z 0 0 0 0 0 0 0 0 0 0 (-1) 0 ((1103515245 * p2) + 12345) 0 0 0))]) ∨ (rmd (shd ((1103515245 * p2) + 12345)) 10 = 5 ∧ r = 5 ∧ w = [(z 0, .inr (10, mo z 0 0 0 0 0 0 0 0 0 0 (-1) 0 ((1103515245 * p2) + 12345) 0 0 0))]) ∨ (rmd (shd ((1103515245 * p2) + 12345)) 10 = 6 ∧ r = 6 ∧ w = [(z 0, .inr (10, mo z 0 0 0 0 0 0 0 0 0 0 (-1) 0 ((1103515245 * p2) + 12345) 0 0 0))]) ∨ (rmd (shd ((1103515245 * p2) + 12345)) 10 = 7 ∧ r = 7 ∧ w = [(z 0, .inr (10, mo z 0 0 0 0 0 0 0 0 0 0 (-1) 0 ((1103515245 * p2) + 12345) 0 0 0))]) ∨ (rmd (shd ((1103515245 * p2) + 12345)) 10 = 8 ∧ r = 8 ∧ w = [(z 0, .inr (10, mo z 0 0 0 0 0 0 0 0 0 0 (-1) 0 ((1103515245 * p2) + 12345) 0 0 0))]) ∨ (rmd (shd ((1103515245 * p2) + 12345)) 10 = 9 ∧ r = 9 ∧ w = [(z 0, .inr (10, mo z 0 0 0 0 0 0 0 0 0 0 (-1) 0 ((1103515245 * p2) + 12345) 0 0 0))]))) := by
  refine Ct.of (by decide) (Nat.le_of_ble_eq_true rfl) (fun p e s m below meth c A ls hx hb hr hml hown hlk hnm hg hP hK hD hE hA hS hl => ?_)
  have hl : lv_has ls 2 [(0, .ref (z 0)), (1, .int 10)] := hl
  refine lv_aload_n hx hb dX10_draw_0 rfl (lv_at hl 0 rfl) ?_
  refine lv_ldcw (v := 1103515245) hx hb hown (hg _ q_7_152) dX10_draw_1 ?_
  refine lv_aload_n hx hb dX10_draw_4 rfl (lv_at hl 0 rfl) ?_
  refine va_get (ci := 10) (v := .int p2) (C := RX10) (T := TX10) (N := 40) hx hb hg inX10 hown hK hP 0 rfl rfl 19 (by decide) (hg _ q_6_3) (fun _ h9 => h9) rfl dX10_draw_5 ?_
  refine lv_imul hx hb dX10_draw_8 ?_
  refine lv_sipush (v := 12345) hx hb dX10_draw_9 (by decide) ?_
  refine lv_iadd hx hb dX10_draw_12 ?_
  refine va_put (ci := 10) (v := .int ((1103515245 * p2) + 12345)) (ty := .int) (C := RX10) (T := TX10) (N := 40) hx hb hg inX10 tyX10 tyX10_ok nmX10 hown hK hP hD hS 0 rfl rfl 19 (by decide) (hg _ q_6_3) (fun _ h9 => h9) rfl (by decide +kernel) rfl rfl (Nat.le_of_ble_eq_true rfl) dX10_draw_13 (fun H locs hP hD hS => ?_)
  have hP : va_P V.1 vwCl [(z 0, .inr (10, mo z 0 0 0 0 0 0 0 0 0 0 (-1) 0 ((1103515245 * p2) + 12345) 0 0 0))] H := hP
  have hD : va_D A [(z 0, .inr (10, mo z 0 0 0 0 0 0 0 0 0 0 (-1) 0 ((1103515245 * p2) + 12345) 0 0 0))] := hD
  refine lv_aload_n hx hb dX10_draw_16 rfl (lv_at hl 0 rfl) ?_
  refine va_get (ci := 10) (v := .int ((1103515245 * p2) + 12345)) (C := RX10) (T := TX10) (N := 40) hx hb hg inX10 hown hK hP 0 rfl rfl 19 (by decide) (hg _ q_6_3) (fun _ h9 => h9) rfl dX10_draw_17 ?_
  refine lv_bipush (v := 16) hx hb dX10_draw_20 (by decide) ?_
  refine lv_iushr (v := ((((1103515245 * p2) + 12345).toUInt32 >>> ((16 : Int32).toUInt32 &&& Int32.toUInt32 31)).toInt32)) hx hb dX10_draw_22 rfl ?_
  refine lv_iload_n hx hb dX10_draw_23 rfl (lv_at hl 1 rfl) ?_
  refine lv_irem hx hb dX10_draw_24 (by decide) ?_
  rcases rem10 ((1103515245 * p2) + 12345) with e_1 | e_2 | e_3 | e_4 | e_5 | e_6 | e_7 | e_8 | e_9 | e_10
  · refine tpi (y := 0) e_1 ?_
    exact fiI hx hb hr hlk hK hP hD hS dX10_draw_25 (Nat.le_of_ble_eq_true rfl) (Nat.le_of_ble_eq_true rfl) (Or.inl ⟨e_1, rfl, rfl⟩)
  · refine tpi (y := 1) e_2 ?_
    exact fiI hx hb hr hlk hK hP hD hS dX10_draw_25 (Nat.le_of_ble_eq_true rfl) (Nat.le_of_ble_eq_true rfl) (Or.inr (Or.inl ⟨e_2, rfl, rfl⟩))
  · refine tpi (y := 2) e_3 ?_
    exact fiI hx hb hr hlk hK hP hD hS dX10_draw_25 (Nat.le_of_ble_eq_true rfl) (Nat.le_of_ble_eq_true rfl) (Or.inr (Or.inr (Or.inl ⟨e_3, rfl, rfl⟩)))
  · refine tpi (y := 3) e_4 ?_
    exact fiI hx hb hr hlk hK hP hD hS dX10_draw_25 (Nat.le_of_ble_eq_true rfl) (Nat.le_of_ble_eq_true rfl) (Or.inr (Or.inr (Or.inr (Or.inl ⟨e_4, rfl, rfl⟩))))
  · refine tpi (y := 4) e_5 ?_
    exact fiI hx hb hr hlk hK hP hD hS dX10_draw_25 (Nat.le_of_ble_eq_true rfl) (Nat.le_of_ble_eq_true rfl) (Or.inr (Or.inr (Or.inr (Or.inr (Or.inl ⟨e_5, rfl, rfl⟩)))))
  · refine tpi (y := 5) e_6 ?_
    exact fiI hx hb hr hlk hK hP hD hS dX10_draw_25 (Nat.le_of_ble_eq_true rfl) (Nat.le_of_ble_eq_true rfl) (Or.inr (Or.inr (Or.inr (Or.inr (Or.inr (Or.inl ⟨e_6, rfl, rfl⟩))))))
  · refine tpi (y := 6) e_7 ?_
    exact fiI hx hb hr hlk hK hP hD hS dX10_draw_25 (Nat.le_of_ble_eq_true rfl) (Nat.le_of_ble_eq_true rfl) (Or.inr (Or.inr (Or.inr (Or.inr (Or.inr (Or.inr (Or.inl ⟨e_7, rfl, rfl⟩)))))))
  · refine tpi (y := 7) e_8 ?_
    exact fiI hx hb hr hlk hK hP hD hS dX10_draw_25 (Nat.le_of_ble_eq_true rfl) (Nat.le_of_ble_eq_true rfl) (Or.inr (Or.inr (Or.inr (Or.inr (Or.inr (Or.inr (Or.inr (Or.inl ⟨e_8, rfl, rfl⟩))))))))
  · refine tpi (y := 8) e_9 ?_
    exact fiI hx hb hr hlk hK hP hD hS dX10_draw_25 (Nat.le_of_ble_eq_true rfl) (Nat.le_of_ble_eq_true rfl) (Or.inr (Or.inr (Or.inr (Or.inr (Or.inr (Or.inr (Or.inr (Or.inr (Or.inl ⟨e_9, rfl, rfl⟩)))))))))
  · refine tpi (y := 9) e_10 ?_
    exact fiI hx hb hr hlk hK hP hD hS dX10_draw_25 (Nat.le_of_ble_eq_true rfl) (Nat.le_of_ble_eq_true rfl) (Or.inr (Or.inr (Or.inr (Or.inr (Or.inr (Or.inr (Or.inr (Or.inr (Or.inr (⟨e_10, rfl, rfl⟩))))))))))
set_option maxHeartbeats 4000000 in
set_option maxRecDepth 100000 in
theorem c_X10_draw_3 (l : Launch) (V : GV) (z : Nat → Nat) (p0 : Int32) : Ct l V yX10_draw (.code yX10_draw cX10_draw 2 (some .int)) 1 [.ref (z 0), .int 4] [(z 0, .inr (10, mo z 0 0 0 0 0 0 0 0 0 0 (-1) 0 p0 0 0 0))] 0 0 (QI V (fun (r : Int32) (w : va_W) => (rmd (shd ((1103515245 * p0) + 12345)) 4 = 0 ∧ r = 0 ∧ w = [(z 0, .inr (10, mo z 0 0 0 0 0 0 0 0 0 0 (-1) 0 ((1103515245 * p0) + 12345) 0 0 0))]) ∨ (rmd (shd ((1103515245 * p0) + 12345)) 4 = 1 ∧ r = 1 ∧ w = [(z 0, .inr (10, mo z 0 0 0 0 0 0 0 0 0 0 (-1) 0 ((1103515245 * p0) + 12345) 0 0 0))]) ∨ (rmd (shd ((1103515245 * p0) + 12345)) 4 = 2 ∧ r = 2 ∧ w = [(z 0, .inr (10, mo z 0 0 0 0 0 0 0 0 0 0 (-1) 0 ((1103515245 * p0) + 12345) 0 0 0))]) ∨ (rmd (shd ((1103515245 * p0) + 12345)) 4 = 3 ∧ r = 3 ∧ w = [(z 0, .inr (10, mo z 0 0 0 0 0 0 0 0 0 0 (-1) 0 ((1103515245 * p0) + 12345) 0 0 0))]))) := by
  refine Ct.of (by decide) (Nat.le_of_ble_eq_true rfl) (fun p e s m below meth c A ls hx hb hr hml hown hlk hnm hg hP hK hD hE hA hS hl => ?_)
  have hl : lv_has ls 2 [(0, .ref (z 0)), (1, .int 4)] := hl
  refine lv_aload_n hx hb dX10_draw_0 rfl (lv_at hl 0 rfl) ?_
  refine lv_ldcw (v := 1103515245) hx hb hown (hg _ q_7_152) dX10_draw_1 ?_
  refine lv_aload_n hx hb dX10_draw_4 rfl (lv_at hl 0 rfl) ?_
  refine va_get (ci := 10) (v := .int p0) (C := RX10) (T := TX10) (N := 40) hx hb hg inX10 hown hK hP 0 rfl rfl 19 (by decide) (hg _ q_6_3) (fun _ h9 => h9) rfl dX10_draw_5 ?_
  refine lv_imul hx hb dX10_draw_8 ?_
  refine lv_sipush (v := 12345) hx hb dX10_draw_9 (by decide) ?_
  refine lv_iadd hx hb dX10_draw_12 ?_
  refine va_put (ci := 10) (v := .int ((1103515245 * p0) + 12345)) (ty := .int) (C := RX10) (T := TX10) (N := 40) hx hb hg inX10 tyX10 tyX10_ok nmX10 hown hK hP hD hS 0 rfl rfl 19 (by decide) (hg _ q_6_3) (fun _ h9 => h9) rfl (by decide +kernel) rfl rfl (Nat.le_of_ble_eq_true rfl) dX10_draw_13 (fun H locs hP hD hS => ?_)
  have hP : va_P V.1 vwCl [(z 0, .inr (10, mo z 0 0 0 0 0 0 0 0 0 0 (-1) 0 ((1103515245 * p0) + 12345) 0 0 0))] H := hP
  have hD : va_D A [(z 0, .inr (10, mo z 0 0 0 0 0 0 0 0 0 0 (-1) 0 ((1103515245 * p0) + 12345) 0 0 0))] := hD
  refine lv_aload_n hx hb dX10_draw_16 rfl (lv_at hl 0 rfl) ?_
  refine va_get (ci := 10) (v := .int ((1103515245 * p0) + 12345)) (C := RX10) (T := TX10) (N := 40) hx hb hg inX10 hown hK hP 0 rfl rfl 19 (by decide) (hg _ q_6_3) (fun _ h9 => h9) rfl dX10_draw_17 ?_
  refine lv_bipush (v := 16) hx hb dX10_draw_20 (by decide) ?_
  refine lv_iushr (v := ((((1103515245 * p0) + 12345).toUInt32 >>> ((16 : Int32).toUInt32 &&& Int32.toUInt32 31)).toInt32)) hx hb dX10_draw_22 rfl ?_
  refine lv_iload_n hx hb dX10_draw_23 rfl (lv_at hl 1 rfl) ?_
  refine lv_irem hx hb dX10_draw_24 (by decide) ?_
  rcases rem4 ((1103515245 * p0) + 12345) with e_1 | e_2 | e_3 | e_4
  · refine tpi (y := 0) e_1 ?_
    exact fiI hx hb hr hlk hK hP hD hS dX10_draw_25 (Nat.le_of_ble_eq_true rfl) (Nat.le_of_ble_eq_true rfl) (Or.inl ⟨e_1, rfl, rfl⟩)
  · refine tpi (y := 1) e_2 ?_
    exact fiI hx hb hr hlk hK hP hD hS dX10_draw_25 (Nat.le_of_ble_eq_true rfl) (Nat.le_of_ble_eq_true rfl) (Or.inr (Or.inl ⟨e_2, rfl, rfl⟩))
  · refine tpi (y := 2) e_3 ?_
    exact fiI hx hb hr hlk hK hP hD hS dX10_draw_25 (Nat.le_of_ble_eq_true rfl) (Nat.le_of_ble_eq_true rfl) (Or.inr (Or.inr (Or.inl ⟨e_3, rfl, rfl⟩)))
  · refine tpi (y := 3) e_4 ?_
    exact fiI hx hb hr hlk hK hP hD hS dX10_draw_25 (Nat.le_of_ble_eq_true rfl) (Nat.le_of_ble_eq_true rfl) (Or.inr (Or.inr (Or.inr (⟨e_4, rfl, rfl⟩))))
set_option maxHeartbeats 4000000 in
set_option maxRecDepth 100000 in
theorem c_X10_draw_4 (l : Launch) (V : GV) (z : Nat → Nat) (p0 : Int32) : Ct l V yX10_draw (.code yX10_draw cX10_draw 2 (some .int)) 1 [.ref (z 0), .int 10] [(z 0, .inr (10, mo z 0 0 0 0 0 0 0 0 0 0 (-1) 0 p0 0 0 0))] 0 0 (QI V (fun (r : Int32) (w : va_W) => (rmd (shd ((1103515245 * p0) + 12345)) 10 = 0 ∧ r = 0 ∧ w = [(z 0, .inr (10, mo z 0 0 0 0 0 0 0 0 0 0 (-1) 0 ((1103515245 * p0) + 12345) 0 0 0))]) ∨ (rmd (shd ((1103515245 * p0) + 12345)) 10 = 1 ∧ r = 1 ∧ w = [(z 0, .inr (10, mo z 0 0 0 0 0 0 0 0 0 0 (-1) 0 ((1103515245 * p0) + 12345) 0 0 0))]) ∨ (rmd (shd ((1103515245 * p0) + 12345)) 10 = 2 ∧ r = 2 ∧ w = [(z 0, .inr (10, mo z 0 0 0 0 0 0 0 0 0 0 (-1) 0 ((1103515245 * p0) + 12345) 0 0 0))]) ∨ (rmd (shd ((1103515245 * p0) + 12345)) 10 = 3 ∧ r = 3 ∧ w = [(z 0, .inr (10, mo z 0 0 0 0 0 0 0 0 0 0 (-1) 0 ((1103515245 * p0) + 12345) 0 0 0))]) ∨ (rmd (shd ((1103515245 * p0) + 12345)) 10 = 4 ∧ r = 4 ∧ w = [(z 0, .inr (10, mo z 0 0 0 0 0 0 0 0 0 0 (-1) 0 ((1103515245 * p0) + 12345) 0 0 0))]) ∨ (rmd (shd ((1103515245 * p0) + 12345)) 10 = 5 ∧ r = 5 ∧ w = [(z 0, .inr (10, mo z 0 0 0 0 0 0 0 0 0 0 (-1) 0 ((1103515245 * p0) + 12345) 0 0 0))]) ∨ (rmd (shd ((1103515245 * p0) + 12345)) 10 = 6 ∧ r = 6 ∧ w = [(z 0, .inr (10, mo z 0 0 0 0 0 0 0 0 0 0 (-1) 0 ((1103515245 * p0) + 12345) 0 0 0))]) ∨ (rmd (shd ((1103515245 * p0) + 12345)) 10 = 7 ∧ r = 7 ∧ w = [(z 0, .inr (10, mo z 0 0 0 0 0 0 0 0 0 0 (-1) 0 ((1103515245 * p0) + 12345) 0 0 0))]) ∨ (rmd (shd ((1103515245 * p0) + 12345)) 10 = 8 ∧ r = 8 ∧ w = [(z 0, .inr (10, mo z 0 0 0 0 0 0 0 0 0 0 (-1) 0 ((1103515245 * p0) + 12345) 0 0 0))]) ∨ (rmd (shd ((1103515245 * p0) + 12345)) 10 = 9 ∧ r = 9 ∧ w = [(z 0, .inr (10, mo z 0 0 0 0 0 0 0 0 0 0 (-1) 0 ((1103515245 * p0) + 12345) 0 0 0))]))) := by
  refine Ct.of (by decide) (Nat.le_of_ble_eq_true rfl) (fun p e s m below meth c A ls hx hb hr hml hown hlk hnm hg hP hK hD hE hA hS hl => ?_)
  have hl : lv_has ls 2 [(0, .ref (z 0)), (1, .int 10)] := hl
  refine lv_aload_n hx hb dX10_draw_0 rfl (lv_at hl 0 rfl) ?_
  refine lv_ldcw (v := 1103515245) hx hb hown (hg _ q_7_152) dX10_draw_1 ?_
  refine lv_aload_n hx hb dX10_draw_4 rfl (lv_at hl 0 rfl) ?_
  refine va_get (ci := 10) (v := .int p0) (C := RX10) (T := TX10) (N := 40) hx hb hg inX10 hown hK hP 0 rfl rfl 19 (by decide) (hg _ q_6_3) (fun _ h9 => h9) rfl dX10_draw_5 ?_
  refine lv_imul hx hb dX10_draw_8 ?_
  refine lv_sipush (v := 12345) hx hb dX10_draw_9 (by decide) ?_
  refine lv_iadd hx hb dX10_draw_12 ?_
  refine va_put (ci := 10) (v := .int ((1103515245 * p0) + 12345)) (ty := .int) (C := RX10) (T := TX10) (N := 40) hx hb hg inX10 tyX10 tyX10_ok nmX10 hown hK hP hD hS 0 rfl rfl 19 (by decide) (hg _ q_6_3) (fun _ h9 => h9) rfl (by decide +kernel) rfl rfl (Nat.le_of_ble_eq_true rfl) dX10_draw_13 (fun H locs hP hD hS => ?_)
  have hP : va_P V.1 vwCl [(z 0, .inr (10, mo z 0 0 0 0 0 0 0 0 0 0 (-1) 0 ((1103515245 * p0) + 12345) 0 0 0))] H := hP
  have hD : va_D A [(z 0, .inr (10, mo z 0 0 0 0 0 0 0 0 0 0 (-1) 0 ((1103515245 * p0) + 12345) 0 0 0))] := hD
  refine lv_aload_n hx hb dX10_draw_16 rfl (lv_at hl 0 rfl) ?_
  refine va_get (ci := 10) (v := .int ((1103515245 * p0) + 12345)) (C := RX10) (T := TX10) (N := 40) hx hb hg inX10 hown hK hP 0 rfl rfl 19 (by decide) (hg _ q_6_3) (fun _ h9 => h9) rfl dX10_draw_17 ?_
  refine lv_bipush (v := 16) hx hb dX10_draw_20 (by decide) ?_
  refine lv_iushr (v := ((((1103515245 * p0) + 12345).toUInt32 >>> ((16 : Int32).toUInt32 &&& Int32.toUInt32 31)).toInt32)) hx hb dX10_draw_22 rfl ?_
  refine lv_iload_n hx hb dX10_draw_23 rfl (lv_at hl 1 rfl) ?_
  refine lv_irem hx hb dX10_draw_24 (by decide) ?_
  rcases rem10 ((1103515245 * p0) + 12345) with e_1 | e_2 | e_3 | e_4 | e_5 | e_6 | e_7 | e_8 | e_9 | e_10
  · refine tpi (y := 0) e_1 ?_
    exact fiI hx hb hr hlk hK hP hD hS dX10_draw_25 (Nat.le_of_ble_eq_true rfl) (Nat.le_of_ble_eq_true rfl) (Or.inl ⟨e_1, rfl, rfl⟩)
  · refine tpi (y := 1) e_2 ?_
    exact fiI hx hb hr hlk hK hP hD hS dX10_draw_25 (Nat.le_of_ble_eq_true rfl) (Nat.le_of_ble_eq_true rfl) (Or.inr (Or.inl ⟨e_2, rfl, rfl⟩))
  · refine tpi (y := 2) e_3 ?_
    exact fiI hx hb hr hlk hK hP hD hS dX10_draw_25 (Nat.le_of_ble_eq_true rfl) (Nat.le_of_ble_eq_true rfl) (Or.inr (Or.inr (Or.inl ⟨e_3, rfl, rfl⟩)))
  · refine tpi (y := 3) e_4 ?_
    exact fiI hx hb hr hlk hK hP hD hS dX10_draw_25 (Nat.le_of_ble_eq_true rfl) (Nat.le_of_ble_eq_true rfl) (Or.inr (Or.inr (Or.inr (Or.inl ⟨e_4, rfl, rfl⟩))))
  · refine tpi (y := 4) e_5 ?_
    exact fiI hx hb hr hlk hK hP hD hS dX10_draw_25 (Nat.le_of_ble_eq_true rfl) (Nat.le_of_ble_eq_true rfl) (Or.inr (Or.inr (Or.inr (Or.inr (Or.inl ⟨e_5, rfl, rfl⟩)))))
  · refine tpi (y := 5) e_6 ?_
    exact fiI hx hb hr hlk hK hP hD hS dX10_draw_25 (Nat.le_of_ble_eq_true rfl) (Nat.le_of_ble_eq_true rfl) (Or.inr (Or.inr (Or.inr (Or.inr (Or.inr (Or.inl ⟨e_6, rfl, rfl⟩))))))
  · refine tpi (y := 6) e_7 ?_
    exact fiI hx hb hr hlk hK hP hD hS dX10_draw_25 (Nat.le_of_ble_eq_true rfl) (Nat.le_of_ble_eq_true rfl) (Or.inr (Or.inr (Or.inr (Or.inr (Or.inr (Or.inr (Or.inl ⟨e_7, rfl, rfl⟩)))))))
  · refine tpi (y := 7) e_8 ?_
    exact fiI hx hb hr hlk hK hP hD hS dX10_draw_25 (Nat.le_of_ble_eq_true rfl) (Nat.le_of_ble_eq_true rfl) (Or.inr (Or.inr (Or.inr (Or.inr (Or.inr (Or.inr (Or.inr (Or.inl ⟨e_8, rfl, rfl⟩))))))))
  · refine tpi (y := 8) e_9 ?_
    exact fiI hx hb hr hlk hK hP hD hS dX10_draw_25 (Nat.le_of_ble_eq_true rfl) (Nat.le_of_ble_eq_true rfl) (Or.inr (Or.inr (Or.inr (Or.inr (Or.inr (Or.inr (Or.inr (Or.inr (Or.inl ⟨e_9, rfl, rfl⟩)))))))))
  · refine tpi (y := 9) e_10 ?_
    exact fiI hx hb hr hlk hK hP hD hS dX10_draw_25 (Nat.le_of_ble_eq_true rfl) (Nat.le_of_ble_eq_true rfl) (Or.inr (Or.inr (Or.inr (Or.inr (Or.inr (Or.inr (Or.inr (Or.inr (Or.inr (⟨e_10, rfl, rfl⟩))))))))))
theorem dX10_drawn_0 : decode cX10_drawn 0 = .ok (.aload_n 0, 1) := by decide +kernel
theorem dX10_drawn_1 : decode cX10_drawn 1 = .ok (.bipush 6, 2) := by decide +kernel
theorem q_7_151 : Cond.code yX10_draw prog_12_method_73_code 2 (some FieldType.int) ∈ gw := gw_7 (i := 151) (rfl) rfl
theorem q_7_150 : Cond.instanceMethod yX10_draw ∈ gw := gw_7 (i := 150) (by decide +kernel) rfl
theorem q_s_100 : Cond.selects "BeaconDelayModel" yX10_draw yX10_draw ∈ gw := gw_s (i := 100) (by decide +kernel) rfl
theorem mt_X10_draw : MtV yX10_draw cX10_draw 2 (some .int) 1 := ⟨⟨q_7_151, q_1_9, by decide +kernel, by decide +kernel, by decide +kernel⟩, q_7_150, q_s_100⟩
theorem q_7_148 : Cond.methodLink "BeaconDelayModel" 333 yX10_draw ∈ gw := gw_7 (i := 148) (by decide +kernel) rfl
theorem dX10_drawn_3 : decode cX10_drawn 3 = .ok (.invokevirtual 333, 3) := by decide +kernel
theorem dX10_drawn_6 : decode cX10_drawn 6 = .ok (.istore_n 1, 1) := by decide +kernel
theorem dX10_drawn_7 : decode cX10_drawn 7 = .ok (.iload_n 1, 1) := by decide +kernel
theorem dX10_drawn_8 : decode cX10_drawn 8 = .ok (.iconst 3, 1) := by decide +kernel
theorem dX10_drawn_9 : decode cX10_drawn 9 = .ok (.if_icmp .ge 7, 3) := by decide +kernel
theorem dX10_drawn_12 : decode cX10_drawn 12 = .ok (.iconst 0, 1) := by decide +kernel
theorem dX10_drawn_13 : decode cX10_drawn 13 = .ok (.goto 41, 3) := by decide +kernel
theorem dX10_drawn_54 : decode cX10_drawn 54 = .ok (.ireturn, 1) := by decide +kernel
theorem dX10_drawn_16 : decode cX10_drawn 16 = .ok (.iload_n 1, 1) := by decide +kernel
theorem dX10_drawn_17 : decode cX10_drawn 17 = .ok (.iconst 3, 1) := by decide +kernel
theorem dX10_drawn_18 : decode cX10_drawn 18 = .ok (.if_icmp .ne 11, 3) := by decide +kernel
theorem dX10_drawn_21 : decode cX10_drawn 21 = .ok (.aload_n 0, 1) := by decide +kernel
theorem dX10_drawn_22 : decode cX10_drawn 22 = .ok (.iconst 4, 1) := by decide +kernel
theorem dX10_drawn_23 : decode cX10_drawn 23 = .ok (.invokevirtual 333, 3) := by decide +kernel
theorem dX10_drawn_26 : decode cX10_drawn 26 = .ok (.goto 28, 3) := by decide +kernel
theorem dX10_drawn_29 : decode cX10_drawn 29 = .ok (.iload_n 1, 1) := by decide +kernel
theorem dX10_drawn_30 : decode cX10_drawn 30 = .ok (.iconst 4, 1) := by decide +kernel
theorem dX10_drawn_31 : decode cX10_drawn 31 = .ok (.if_icmp .ne 14, 3) := by decide +kernel
theorem dX10_drawn_34 : decode cX10_drawn 34 = .ok (.bipush 10, 2) := by decide +kernel
theorem dX10_drawn_36 : decode cX10_drawn 36 = .ok (.aload_n 0, 1) := by decide +kernel
theorem dX10_drawn_37 : decode cX10_drawn 37 = .ok (.iconst 4, 1) := by decide +kernel
theorem dX10_drawn_38 : decode cX10_drawn 38 = .ok (.invokevirtual 333, 3) := by decide +kernel
theorem dX10_drawn_41 : decode cX10_drawn 41 = .ok (.iadd, 1) := by decide +kernel
theorem dX10_drawn_42 : decode cX10_drawn 42 = .ok (.goto 12, 3) := by decide +kernel
theorem dX10_drawn_45 : decode cX10_drawn 45 = .ok (.bipush 20, 2) := by decide +kernel
theorem dX10_drawn_47 : decode cX10_drawn 47 = .ok (.aload_n 0, 1) := by decide +kernel
theorem dX10_drawn_48 : decode cX10_drawn 48 = .ok (.bipush 10, 2) := by decide +kernel
theorem dX10_drawn_50 : decode cX10_drawn 50 = .ok (.invokevirtual 333, 3) := by decide +kernel
theorem dX10_drawn_53 : decode cX10_drawn 53 = .ok (.iadd, 1) := by decide +kernel
set_option maxHeartbeats 4000000 in
set_option maxRecDepth 100000 in
theorem c_X10_drawn_0 (l : Launch) (V : GV) (z : Nat → Nat) (p0 : Int32) : Ct l V yX10_drawn (.code yX10_drawn cX10_drawn 2 (some .int)) 2 [.ref (z 0)] [(z 0, .inr (10, mo z 0 0 0 0 0 0 0 0 0 0 (-1) 0 p0 0 0 0))] 0 0 (QI V (fun (r : Int32) (w : va_W) => (rmd (shd ((1103515245 * p0) + 12345)) 6 = 0 ∧ r = 0 ∧ w = [(z 0, .inr (10, mo z 0 0 0 0 0 0 0 0 0 0 (-1) 0 ((1103515245 * p0) + 12345) 0 0 0))]) ∨ (rmd (shd ((1103515245 * p0) + 12345)) 6 = 1 ∧ r = 0 ∧ w = [(z 0, .inr (10, mo z 0 0 0 0 0 0 0 0 0 0 (-1) 0 ((1103515245 * p0) + 12345) 0 0 0))]) ∨ (rmd (shd ((1103515245 * p0) + 12345)) 6 = 2 ∧ r = 0 ∧ w = [(z 0, .inr (10, mo z 0 0 0 0 0 0 0 0 0 0 (-1) 0 ((1103515245 * p0) + 12345) 0 0 0))]) ∨ (rmd (shd ((1103515245 * p0) + 12345)) 6 = 3 ∧ rmd (shd ((1103515245 * ((1103515245 * p0) + 12345)) + 12345)) 4 = 0 ∧ r = 0 ∧ w = [(z 0, .inr (10, mo z 0 0 0 0 0 0 0 0 0 0 (-1) 0 ((1103515245 * ((1103515245 * p0) + 12345)) + 12345) 0 0 0))]) ∨ (rmd (shd ((1103515245 * p0) + 12345)) 6 = 3 ∧ rmd (shd ((1103515245 * ((1103515245 * p0) + 12345)) + 12345)) 4 = 1 ∧ r = 1 ∧ w = [(z 0, .inr (10, mo z 0 0 0 0 0 0 0 0 0 0 (-1) 0 ((1103515245 * ((1103515245 * p0) + 12345)) + 12345) 0 0 0))]) ∨ (rmd (shd ((1103515245 * p0) + 12345)) 6 = 3 ∧ rmd (shd ((1103515245 * ((1103515245 * p0) + 12345)) + 12345)) 4 = 2 ∧ r = 2 ∧ w = [(z 0, .inr (10, mo z 0 0 0 0 0 0 0 0 0 0 (-1) 0 ((1103515245 * ((1103515245 * p0) + 12345)) + 12345) 0 0 0))]) ∨ (rmd (shd ((1103515245 * p0) + 12345)) 6 = 3 ∧ rmd (shd ((1103515245 * ((1103515245 * p0) + 12345)) + 12345)) 4 = 3 ∧ r = 3 ∧ w = [(z 0, .inr (10, mo z 0 0 0 0 0 0 0 0 0 0 (-1) 0 ((1103515245 * ((1103515245 * p0) + 12345)) + 12345) 0 0 0))]) ∨ (rmd (shd ((1103515245 * p0) + 12345)) 6 = 4 ∧ rmd (shd ((1103515245 * ((1103515245 * p0) + 12345)) + 12345)) 4 = 0 ∧ r = 10 ∧ w = [(z 0, .inr (10, mo z 0 0 0 0 0 0 0 0 0 0 (-1) 0 ((1103515245 * ((1103515245 * p0) + 12345)) + 12345) 0 0 0))]) ∨ (rmd (shd ((1103515245 * p0) + 12345)) 6 = 4 ∧ rmd (shd ((1103515245 * ((1103515245 * p0) + 12345)) + 12345)) 4 = 1 ∧ r = 11 ∧ w = [(z 0, .inr (10, mo z 0 0 0 0 0 0 0 0 0 0 (-1) 0 ((1103515245 * ((1103515245 * p0) + 12345)) + 12345) 0 0 0))]) ∨ (rmd (shd ((1103515245 * p0) + 12345)) 6 = 4 ∧ rmd (shd ((1103515245 * ((1103515245 * p0) + 12345)) + 12345)) 4 = 2 ∧ r = 12 ∧ w = [(z 0, .inr (10, mo z 0 0 0 0 0 0 0 0 0 0 (-1) 0 ((1103515245 * ((1103515245 * p0) + 12345)) + 12345) 0 0 0))]) ∨ (rmd (shd ((1103515245 * p0) + 12345)) 6 = 4 ∧ rmd (shd ((1103515245 * ((1103515245 * p0) + 12345)) + 12345)) 4 = 3 ∧ r = 13 ∧ w = [(z 0, .inr (10, mo z 0 0 0 0 0 0 0 0 0 0 (-1) 0 ((1103515245 * ((1103515245 * p0) + 12345)) + 12345) 0 0 0))]) ∨ (rmd (shd ((1103515245 * p0) + 12345)) 6 = 5 ∧ rmd (shd ((1103515245 * ((1103515245 * p0) + 12345)) + 12345)) 10 = 0 ∧ r = 20 ∧ w = [(z 0, .inr (10, mo z 0 0 0 0 0 0 0 0 0 0 (-1) 0 ((1103515245 * ((1103515245 * p0) + 12345)) + 12345) 0 0 0))]) ∨ (rmd (shd ((1103515245 * p0) + 12345)) 6 = 5 ∧ rmd (shd ((1103515245 * ((1103515245 * p0) + 12345)) + 12345)) 10 = 1 ∧ r = 21 ∧ w = [(z 0, .inr (10, mo z 0 0 0 0 0 0 0 0 0 0 (-1) 0 ((1103515245 * ((1103515245 * p0) + 12345)) + 12345) 0 0 0))]) ∨ (rmd (shd ((1103515245 * p0) + 12345)) 6 = 5 ∧ rmd (shd ((1103515245 * ((1103515245 * p0) + 12345)) + 12345)) 10 = 2 ∧ r = 22 ∧ w = [(z 0, .inr (10, mo z 0 0 0 0 0 0 0 0 0 0 (-1) 0 ((1103515245 * ((1103515245 * p0) + 12345)) + 12345) 0 0 0))]) ∨ (rmd (shd ((1103515245 * p0) + 12345)) 6 = 5 ∧ rmd (shd ((1103515245 * ((1103515245 * p0) + 12345)) + 12345)) 10 = 3 ∧ r = 23 ∧ w = [(z 0, .inr (10, mo z 0 0 0 0 0 0 0 0 0 0 (-1) 0 ((1103515245 * ((1103515245 * p0) + 12345)) + 12345) 0 0 0))]) ∨ (rmd (shd ((1103515245 * p0) + 12345)) 6 = 5 ∧ rmd (shd ((1103515245 * ((1103515245 * p0) + 12345)) + 12345)) 10 = 4 ∧ r = 24 ∧ w = [(z 0, .inr (10, mo z 0 0 0 0 0 0 0 0 0 0 (-1) 0 ((1103515245 * ((1103515245 * p0) + 12345)) + 12345) 0 0 0))]) ∨ (rmd (shd ((1103515245 * p0) + 12345)) 6 = 5 ∧ rmd (shd ((1103515245 * ((1103515245 * p0) + 12345)) + 12345)) 10 = 5 ∧ r = 25 ∧ w = [(z 0, .inr (10, mo z 0 0 0 0 0 0 0 0 0 0 (-1) 0 ((1103515245 * ((1103515245 * p0) + 12345)) + 12345) 0 0 0))]) ∨ (rmd (shd ((1103515245 * p0) + 12345)) 6 = 5 ∧ rmd (shd ((1103515245 * ((1103515245 * p0) + 12345)) + 12345)) 10 = 6 ∧ r = 26 ∧ w = [(z 0, .inr (10, mo z 0 0 0 0 0 0 0 0 0 0 (-1) 0 ((1103515245 * ((1103515245 * p0) + 12345)) + 12345) 0 0 0))]) ∨ (rmd (shd ((1103515245 * p0) + 12345)) 6 = 5 ∧ rmd (shd ((1103515245 * ((1103515245 * p0) + 12345)) + 12345)) 10 = 7 ∧ r = 27 ∧ w = [(z 0, .inr (10, mo z 0 0 0 0 0 0 0 0 0 0 (-1) 0 ((1103515245 * ((1103515245 * p0) + 12345)) + 12345) 0 0 0))]) ∨ (rmd (shd ((1103515245 * p0) + 12345)) 6 = 5 ∧ rmd (shd ((1103515245 * ((1103515245 * p0) + 12345)) + 12345)) 10 = 8 ∧ r = 28 ∧ w = [(z 0, .inr (10, mo z 0 0 0 0 0 0 0 0 0 0 (-1) 0 ((1103515245 * ((1103515245 * p0) + 12345)) + 12345) 0 0 0))]) ∨ (rmd (shd ((1103515245 * p0) + 12345)) 6 = 5 ∧ rmd (shd ((1103515245 * ((1103515245 * p0) + 12345)) + 12345)) 10 = 9 ∧ r = 29 ∧ w = [(z 0, .inr (10, mo z 0 0 0 0 0 0 0 0 0 0 (-1) 0 ((1103515245 * ((1103515245 * p0) + 12345)) + 12345) 0 0 0))]))) := by
  refine Ct.of (by decide) (Nat.le_of_ble_eq_true rfl) (fun p e s m below meth c A ls hx hb hr hml hown hlk hnm hg hP hK hD hE hA hS hl => ?_)
  have hl : lv_has ls 2 [(0, .ref (z 0))] := hl
  refine lv_aload_n hx hb dX10_drawn_0 rfl (lv_at hl 0 rfl) ?_
  refine lv_bipush (v := 6) hx hb dX10_drawn_1 (by decide) ?_
  refine jnI (wr := []) (rnV (rest := []) ⟨hx, hb, hml, hown, hg⟩ (c_X10_draw_0 l V z p0) mt_X10_draw q_7_148 ⟨Nat.le_of_ble_eq_true rfl, Nat.le_of_ble_eq_true rfl⟩ hK hP hD hS hA hE [0] rfl rfl 0 rfl rfl rfl rfl hl.1 rfl (Nat.le_of_ble_eq_true rfl) dX10_drawn_3 ⟨Nat.le_of_ble_eq_true rfl, Nat.le_of_ble_eq_true rfl⟩) hP hD hS hA [0] [] rfl rfl rfl (by decide) (fun r_1 w H locs hw hP hD hS => ?_)
  rcases hw with ⟨c_2, rfl, rfl⟩ | ⟨c_3, rfl, rfl⟩ | ⟨c_4, rfl, rfl⟩ | ⟨c_5, rfl, rfl⟩ | ⟨c_6, rfl, rfl⟩ | ⟨c_7, rfl, rfl⟩
  · have hP : va_P V.1 vwCl [(z 0, .inr (10, mo z 0 0 0 0 0 0 0 0 0 0 (-1) 0 ((1103515245 * p0) + 12345) 0 0 0))] H := hP
    have hD : va_D A [(z 0, .inr (10, mo z 0 0 0 0 0 0 0 0 0 0 (-1) 0 ((1103515245 * p0) + 12345) 0 0 0))] := hD
    refine lv_istore_n (lv' := [(1, .int 0), (0, .ref (z 0))]) hx hb dX10_drawn_6 rfl hl (by decide) rfl (fun ls hl => ?_)
    refine lv_iload_n hx hb dX10_drawn_7 rfl (lv_at hl 0 rfl) ?_
    refine lv_iconst (v := 3) hx hb dX10_drawn_8 (by decide) ?_
    refine lv_icmp_ge (tgt := 16) hx hb dX10_drawn_9 (by decide) (fun c_8 => absurd c_8 (by decide)) (fun _ => ?_)
    refine lv_iconst (v := 0) hx hb dX10_drawn_12 (by decide) ?_
    refine lv_goto (tgt := 54) hx hb dX10_drawn_13 (by decide) ?_
    exact fiI hx hb hr hlk hK hP hD hS dX10_drawn_54 (Nat.le_of_ble_eq_true rfl) (Nat.le_of_ble_eq_true rfl) (Or.inl ⟨c_2, rfl, rfl⟩)
  · have hP : va_P V.1 vwCl [(z 0, .inr (10, mo z 0 0 0 0 0 0 0 0 0 0 (-1) 0 ((1103515245 * p0) + 12345) 0 0 0))] H := hP
    have hD : va_D A [(z 0, .inr (10, mo z 0 0 0 0 0 0 0 0 0 0 (-1) 0 ((1103515245 * p0) + 12345) 0 0 0))] := hD
    refine lv_istore_n (lv' := [(1, .int 1), (0, .ref (z 0))]) hx hb dX10_drawn_6 rfl hl (by decide) rfl (fun ls hl => ?_)
    refine lv_iload_n hx hb dX10_drawn_7 rfl (lv_at hl 0 rfl) ?_
    refine lv_iconst (v := 3) hx hb dX10_drawn_8 (by decide) ?_
    refine lv_icmp_ge (tgt := 16) hx hb dX10_drawn_9 (by decide) (fun c_9 => absurd c_9 (by decide)) (fun _ => ?_)
    refine lv_iconst (v := 0) hx hb dX10_drawn_12 (by decide) ?_
    refine lv_goto (tgt := 54) hx hb dX10_drawn_13 (by decide) ?_
    exact fiI hx hb hr hlk hK hP hD hS dX10_drawn_54 (Nat.le_of_ble_eq_true rfl) (Nat.le_of_ble_eq_true rfl) (Or.inr (Or.inl ⟨c_3, rfl, rfl⟩))
  · have hP : va_P V.1 vwCl [(z 0, .inr (10, mo z 0 0 0 0 0 0 0 0 0 0 (-1) 0 ((1103515245 * p0) + 12345) 0 0 0))] H := hP
    have hD : va_D A [(z 0, .inr (10, mo z 0 0 0 0 0 0 0 0 0 0 (-1) 0 ((1103515245 * p0) + 12345) 0 0 0))] := hD
    refine lv_istore_n (lv' := [(1, .int 2), (0, .ref (z 0))]) hx hb dX10_drawn_6 rfl hl (by decide) rfl (fun ls hl => ?_)
    refine lv_iload_n hx hb dX10_drawn_7 rfl (lv_at hl 0 rfl) ?_
    refine lv_iconst (v := 3) hx hb dX10_drawn_8 (by decide) ?_
    refine lv_icmp_ge (tgt := 16) hx hb dX10_drawn_9 (by decide) (fun c_10 => absurd c_10 (by decide)) (fun _ => ?_)
    refine lv_iconst (v := 0) hx hb dX10_drawn_12 (by decide) ?_
    refine lv_goto (tgt := 54) hx hb dX10_drawn_13 (by decide) ?_
    exact fiI hx hb hr hlk hK hP hD hS dX10_drawn_54 (Nat.le_of_ble_eq_true rfl) (Nat.le_of_ble_eq_true rfl) (Or.inr (Or.inr (Or.inl ⟨c_4, rfl, rfl⟩)))
  · have hP : va_P V.1 vwCl [(z 0, .inr (10, mo z 0 0 0 0 0 0 0 0 0 0 (-1) 0 ((1103515245 * p0) + 12345) 0 0 0))] H := hP
    have hD : va_D A [(z 0, .inr (10, mo z 0 0 0 0 0 0 0 0 0 0 (-1) 0 ((1103515245 * p0) + 12345) 0 0 0))] := hD
    refine lv_istore_n (lv' := [(1, .int 3), (0, .ref (z 0))]) hx hb dX10_drawn_6 rfl hl (by decide) rfl (fun ls hl => ?_)
    refine lv_iload_n hx hb dX10_drawn_7 rfl (lv_at hl 0 rfl) ?_
    refine lv_iconst (v := 3) hx hb dX10_drawn_8 (by decide) ?_
    refine lv_icmp_ge (tgt := 16) hx hb dX10_drawn_9 (by decide) (fun _ => ?_) (fun c_11 => absurd c_11 (by decide))
    refine lv_iload_n hx hb dX10_drawn_16 rfl (lv_at hl 0 rfl) ?_
    refine lv_iconst (v := 3) hx hb dX10_drawn_17 (by decide) ?_
    refine lv_icmp_ne (tgt := 29) hx hb dX10_drawn_18 (by decide) (fun c_12 => absurd c_12 (by decide)) (fun _ => ?_)
    refine lv_aload_n hx hb dX10_drawn_21 rfl (lv_at hl 1 rfl) ?_
    refine lv_iconst (v := 4) hx hb dX10_drawn_22 (by decide) ?_
    refine jnI (wr := []) (rnV (rest := []) ⟨hx, hb, hml, hown, hg⟩ (c_X10_draw_3 l V z (((1103515245 * p0) + 12345))) mt_X10_draw q_7_148 ⟨Nat.le_of_ble_eq_true rfl, Nat.le_of_ble_eq_true rfl⟩ hK hP hD hS hA hE [0] rfl rfl 0 rfl rfl rfl rfl hl.1 rfl (Nat.le_of_ble_eq_true rfl) dX10_drawn_23 ⟨Nat.le_of_ble_eq_true rfl, Nat.le_of_ble_eq_true rfl⟩) hP hD hS hA [0] [] rfl rfl rfl (by decide) (fun r_13 w H locs hw hP hD hS => ?_)
    rcases hw with ⟨c_14, rfl, rfl⟩ | ⟨c_15, rfl, rfl⟩ | ⟨c_16, rfl, rfl⟩ | ⟨c_17, rfl, rfl⟩
    · have hP : va_P V.1 vwCl [(z 0, .inr (10, mo z 0 0 0 0 0 0 0 0 0 0 (-1) 0 ((1103515245 * ((1103515245 * p0) + 12345)) + 12345) 0 0 0))] H := hP
      have hD : va_D A [(z 0, .inr (10, mo z 0 0 0 0 0 0 0 0 0 0 (-1) 0 ((1103515245 * ((1103515245 * p0) + 12345)) + 12345) 0 0 0))] := hD
      refine lv_goto (tgt := 54) hx hb dX10_drawn_26 (by decide) ?_
      exact fiI hx hb hr hlk hK hP hD hS dX10_drawn_54 (Nat.le_of_ble_eq_true rfl) (Nat.le_of_ble_eq_true rfl) (Or.inr (Or.inr (Or.inr (Or.inl ⟨c_5, c_14, rfl, rfl⟩))))
    · have hP : va_P V.1 vwCl [(z 0, .inr (10, mo z 0 0 0 0 0 0 0 0 0 0 (-1) 0 ((1103515245 * ((1103515245 * p0) + 12345)) + 12345) 0 0 0))] H := hP
      have hD : va_D A [(z 0, .inr (10, mo z 0 0 0 0 0 0 0 0 0 0 (-1) 0 ((1103515245 * ((1103515245 * p0) + 12345)) + 12345) 0 0 0))] := hD
      refine lv_goto (tgt := 54) hx hb dX10_drawn_26 (by decide) ?_
      exact fiI hx hb hr hlk hK hP hD hS dX10_drawn_54 (Nat.le_of_ble_eq_true rfl) (Nat.le_of_ble_eq_true rfl) (Or.inr (Or.inr (Or.inr (Or.inr (Or.inl ⟨c_5, c_15, rfl, rfl⟩)))))
    · have hP : va_P V.1 vwCl [(z 0, .inr (10, mo z 0 0 0 0 0 0 0 0 0 0 (-1) 0 ((1103515245 * ((1103515245 * p0) + 12345)) + 12345) 0 0 0))] H := hP
      have hD : va_D A [(z 0, .inr (10, mo z 0 0 0 0 0 0 0 0 0 0 (-1) 0 ((1103515245 * ((1103515245 * p0) + 12345)) + 12345) 0 0 0))] := hD
      refine lv_goto (tgt := 54) hx hb dX10_drawn_26 (by decide) ?_
      exact fiI hx hb hr hlk hK hP hD hS dX10_drawn_54 (Nat.le_of_ble_eq_true rfl) (Nat.le_of_ble_eq_true rfl) (Or.inr (Or.inr (Or.inr (Or.inr (Or.inr (Or.inl ⟨c_5, c_16, rfl, rfl⟩))))))
    · have hP : va_P V.1 vwCl [(z 0, .inr (10, mo z 0 0 0 0 0 0 0 0 0 0 (-1) 0 ((1103515245 * ((1103515245 * p0) + 12345)) + 12345) 0 0 0))] H := hP
      have hD : va_D A [(z 0, .inr (10, mo z 0 0 0 0 0 0 0 0 0 0 (-1) 0 ((1103515245 * ((1103515245 * p0) + 12345)) + 12345) 0 0 0))] := hD
      refine lv_goto (tgt := 54) hx hb dX10_drawn_26 (by decide) ?_
      exact fiI hx hb hr hlk hK hP hD hS dX10_drawn_54 (Nat.le_of_ble_eq_true rfl) (Nat.le_of_ble_eq_true rfl) (Or.inr (Or.inr (Or.inr (Or.inr (Or.inr (Or.inr (Or.inl ⟨c_5, c_17, rfl, rfl⟩)))))))
  · have hP : va_P V.1 vwCl [(z 0, .inr (10, mo z 0 0 0 0 0 0 0 0 0 0 (-1) 0 ((1103515245 * p0) + 12345) 0 0 0))] H := hP
    have hD : va_D A [(z 0, .inr (10, mo z 0 0 0 0 0 0 0 0 0 0 (-1) 0 ((1103515245 * p0) + 12345) 0 0 0))] := hD
    refine lv_istore_n (lv' := [(1, .int 4), (0, .ref (z 0))]) hx hb dX10_drawn_6 rfl hl (by decide) rfl (fun ls hl => ?_)
    refine lv_iload_n hx hb dX10_drawn_7 rfl (lv_at hl 0 rfl) ?_
    refine lv_iconst (v := 3) hx hb dX10_drawn_8 (by decide) ?_
    refine lv_icmp_ge (tgt := 16) hx hb dX10_drawn_9 (by decide) (fun _ => ?_) (fun c_18 => absurd c_18 (by decide))
    refine lv_iload_n hx hb dX10_drawn_16 rfl (lv_at hl 0 rfl) ?_
    refine lv_iconst (v := 3) hx hb dX10_drawn_17 (by decide) ?_
    refine lv_icmp_ne (tgt := 29) hx hb dX10_drawn_18 (by decide) (fun _ => ?_) (fun c_19 => absurd c_19 (by decide))
    refine lv_iload_n hx hb dX10_drawn_29 rfl (lv_at hl 0 rfl) ?_
    refine lv_iconst (v := 4) hx hb dX10_drawn_30 (by decide) ?_
    refine lv_icmp_ne (tgt := 45) hx hb dX10_drawn_31 (by decide) (fun c_20 => absurd c_20 (by decide)) (fun _ => ?_)
    refine lv_bipush (v := 10) hx hb dX10_drawn_34 (by decide) ?_
    refine lv_aload_n hx hb dX10_drawn_36 rfl (lv_at hl 1 rfl) ?_
    refine lv_iconst (v := 4) hx hb dX10_drawn_37 (by decide) ?_
    refine jnI (wr := []) (rnV (rest := [.int 10]) ⟨hx, hb, hml, hown, hg⟩ (c_X10_draw_3 l V z (((1103515245 * p0) + 12345))) mt_X10_draw q_7_148 ⟨Nat.le_of_ble_eq_true rfl, Nat.le_of_ble_eq_true rfl⟩ hK hP hD hS hA hE [0] rfl rfl 0 rfl rfl rfl rfl hl.1 rfl (Nat.le_of_ble_eq_true rfl) dX10_drawn_38 ⟨Nat.le_of_ble_eq_true rfl, Nat.le_of_ble_eq_true rfl⟩) hP hD hS hA [0] [] rfl rfl rfl (by decide) (fun r_21 w H locs hw hP hD hS => ?_)
    rcases hw with ⟨c_22, rfl, rfl⟩ | ⟨c_23, rfl, rfl⟩ | ⟨c_24, rfl, rfl⟩ | ⟨c_25, rfl, rfl⟩
    · have hP : va_P V.1 vwCl [(z 0, .inr (10, mo z 0 0 0 0 0 0 0 0 0 0 (-1) 0 ((1103515245 * ((1103515245 * p0) + 12345)) + 12345) 0 0 0))] H := hP
      have hD : va_D A [(z 0, .inr (10, mo z 0 0 0 0 0 0 0 0 0 0 (-1) 0 ((1103515245 * ((1103515245 * p0) + 12345)) + 12345) 0 0 0))] := hD
      refine lv_iadd hx hb dX10_drawn_41 ?_
      refine tpi (y := 10) (by decide +kernel) ?_
      refine lv_goto (tgt := 54) hx hb dX10_drawn_42 (by decide) ?_
      exact fiI hx hb hr hlk hK hP hD hS dX10_drawn_54 (Nat.le_of_ble_eq_true rfl) (Nat.le_of_ble_eq_true rfl) (Or.inr (Or.inr (Or.inr (Or.inr (Or.inr (Or.inr (Or.inr (Or.inl ⟨c_6, c_22, rfl, rfl⟩))))))))
    · have hP : va_P V.1 vwCl [(z 0, .inr (10, mo z 0 0 0 0 0 0 0 0 0 0 (-1) 0 ((1103515245 * ((1103515245 * p0) + 12345)) + 12345) 0 0 0))] H := hP
      have hD : va_D A [(z 0, .inr (10, mo z 0 0 0 0 0 0 0 0 0 0 (-1) 0 ((1103515245 * ((1103515245 * p0) + 12345)) + 12345) 0 0 0))] := hD
      refine lv_iadd hx hb dX10_drawn_41 ?_
      refine tpi (y := 11) (by decide +kernel) ?_
      refine lv_goto (tgt := 54) hx hb dX10_drawn_42 (by decide) ?_
      exact fiI hx hb hr hlk hK hP hD hS dX10_drawn_54 (Nat.le_of_ble_eq_true rfl) (Nat.le_of_ble_eq_true rfl) (Or.inr (Or.inr (Or.inr (Or.inr (Or.inr (Or.inr (Or.inr (Or.inr (Or.inl ⟨c_6, c_23, rfl, rfl⟩)))))))))
    · have hP : va_P V.1 vwCl [(z 0, .inr (10, mo z 0 0 0 0 0 0 0 0 0 0 (-1) 0 ((1103515245 * ((1103515245 * p0) + 12345)) + 12345) 0 0 0))] H := hP
      have hD : va_D A [(z 0, .inr (10, mo z 0 0 0 0 0 0 0 0 0 0 (-1) 0 ((1103515245 * ((1103515245 * p0) + 12345)) + 12345) 0 0 0))] := hD
      refine lv_iadd hx hb dX10_drawn_41 ?_
      refine tpi (y := 12) (by decide +kernel) ?_
      refine lv_goto (tgt := 54) hx hb dX10_drawn_42 (by decide) ?_
      exact fiI hx hb hr hlk hK hP hD hS dX10_drawn_54 (Nat.le_of_ble_eq_true rfl) (Nat.le_of_ble_eq_true rfl) (Or.inr (Or.inr (Or.inr (Or.inr (Or.inr (Or.inr (Or.inr (Or.inr (Or.inr (Or.inl ⟨c_6, c_24, rfl, rfl⟩))))))))))
    · have hP : va_P V.1 vwCl [(z 0, .inr (10, mo z 0 0 0 0 0 0 0 0 0 0 (-1) 0 ((1103515245 * ((1103515245 * p0) + 12345)) + 12345) 0 0 0))] H := hP
      have hD : va_D A [(z 0, .inr (10, mo z 0 0 0 0 0 0 0 0 0 0 (-1) 0 ((1103515245 * ((1103515245 * p0) + 12345)) + 12345) 0 0 0))] := hD
      refine lv_iadd hx hb dX10_drawn_41 ?_
      refine tpi (y := 13) (by decide +kernel) ?_
      refine lv_goto (tgt := 54) hx hb dX10_drawn_42 (by decide) ?_
      exact fiI hx hb hr hlk hK hP hD hS dX10_drawn_54 (Nat.le_of_ble_eq_true rfl) (Nat.le_of_ble_eq_true rfl) (Or.inr (Or.inr (Or.inr (Or.inr (Or.inr (Or.inr (Or.inr (Or.inr (Or.inr (Or.inr (Or.inl ⟨c_6, c_25, rfl, rfl⟩)))))))))))
  · have hP : va_P V.1 vwCl [(z 0, .inr (10, mo z 0 0 0 0 0 0 0 0 0 0 (-1) 0 ((1103515245 * p0) + 12345) 0 0 0))] H := hP
    have hD : va_D A [(z 0, .inr (10, mo z 0 0 0 0 0 0 0 0 0 0 (-1) 0 ((1103515245 * p0) + 12345) 0 0 0))] := hD
    refine lv_istore_n (lv' := [(1, .int 5), (0, .ref (z 0))]) hx hb dX10_drawn_6 rfl hl (by decide) rfl (fun ls hl => ?_)
    refine lv_iload_n hx hb dX10_drawn_7 rfl (lv_at hl 0 rfl) ?_
    refine lv_iconst (v := 3) hx hb dX10_drawn_8 (by decide) ?_
    refine lv_icmp_ge (tgt := 16) hx hb dX10_drawn_9 (by decide) (fun _ => ?_) (fun c_26 => absurd c_26 (by decide))
    refine lv_iload_n hx hb dX10_drawn_16 rfl (lv_at hl 0 rfl) ?_
    refine lv_iconst (v := 3) hx hb dX10_drawn_17 (by decide) ?_
    refine lv_icmp_ne (tgt := 29) hx hb dX10_drawn_18 (by decide) (fun _ => ?_) (fun c_27 => absurd c_27 (by decide))
    refine lv_iload_n hx hb dX10_drawn_29 rfl (lv_at hl 0 rfl) ?_
    refine lv_iconst (v := 4) hx hb dX10_drawn_30 (by decide) ?_
    refine lv_icmp_ne (tgt := 45) hx hb dX10_drawn_31 (by decide) (fun _ => ?_) (fun c_28 => absurd c_28 (by decide))
    refine lv_bipush (v := 20) hx hb dX10_drawn_45 (by decide) ?_
    refine lv_aload_n hx hb dX10_drawn_47 rfl (lv_at hl 1 rfl) ?_
    refine lv_bipush (v := 10) hx hb dX10_drawn_48 (by decide) ?_
    refine jnI (wr := []) (rnV (rest := [.int 20]) ⟨hx, hb, hml, hown, hg⟩ (c_X10_draw_4 l V z (((1103515245 * p0) + 12345))) mt_X10_draw q_7_148 ⟨Nat.le_of_ble_eq_true rfl, Nat.le_of_ble_eq_true rfl⟩ hK hP hD hS hA hE [0] rfl rfl 0 rfl rfl rfl rfl hl.1 rfl (Nat.le_of_ble_eq_true rfl) dX10_drawn_50 ⟨Nat.le_of_ble_eq_true rfl, Nat.le_of_ble_eq_true rfl⟩) hP hD hS hA [0] [] rfl rfl rfl (by decide) (fun r_29 w H locs hw hP hD hS => ?_)
    rcases hw with ⟨c_30, rfl, rfl⟩ | ⟨c_31, rfl, rfl⟩ | ⟨c_32, rfl, rfl⟩ | ⟨c_33, rfl, rfl⟩ | ⟨c_34, rfl, rfl⟩ | ⟨c_35, rfl, rfl⟩ | ⟨c_36, rfl, rfl⟩ | ⟨c_37, rfl, rfl⟩ | ⟨c_38, rfl, rfl⟩ | ⟨c_39, rfl, rfl⟩
    · have hP : va_P V.1 vwCl [(z 0, .inr (10, mo z 0 0 0 0 0 0 0 0 0 0 (-1) 0 ((1103515245 * ((1103515245 * p0) + 12345)) + 12345) 0 0 0))] H := hP
      have hD : va_D A [(z 0, .inr (10, mo z 0 0 0 0 0 0 0 0 0 0 (-1) 0 ((1103515245 * ((1103515245 * p0) + 12345)) + 12345) 0 0 0))] := hD
      refine lv_iadd hx hb dX10_drawn_53 ?_
      refine tpi (y := 20) (by decide +kernel) ?_
      exact fiI hx hb hr hlk hK hP hD hS dX10_drawn_54 (Nat.le_of_ble_eq_true rfl) (Nat.le_of_ble_eq_true rfl) (Or.inr (Or.inr (Or.inr (Or.inr (Or.inr (Or.inr (Or.inr (Or.inr (Or.inr (Or.inr (Or.inr (Or.inl ⟨c_7, c_30, rfl, rfl⟩))))))))))))
    · have hP : va_P V.1 vwCl [(z 0, .inr (10, mo z 0 0 0 0 0 0 0 0 0 0 (-1) 0 ((1103515245 * ((1103515245 * p0) + 12345)) + 12345) 0 0 0))] H := hP
      have hD : va_D A [(z 0, .inr (10, mo z 0 0 0 0 0 0 0 0 0 0 (-1) 0 ((1103515245 * ((1103515245 * p0) + 12345)) + 12345) 0 0 0))] := hD
      refine lv_iadd hx hb dX10_drawn_53 ?_
      refine tpi (y := 21) (by decide +kernel) ?_
      exact fiI hx hb hr hlk hK hP hD hS dX10_drawn_54 (Nat.le_of_ble_eq_true rfl) (Nat.le_of_ble_eq_true rfl) (Or.inr (Or.inr (Or.inr (Or.inr (Or.inr (Or.inr (Or.inr (Or.inr (Or.inr (Or.inr (Or.inr (Or.inr (Or.inl ⟨c_7, c_31, rfl, rfl⟩)))))))))))))
    · have hP : va_P V.1 vwCl [(z 0, .inr (10, mo z 0 0 0 0 0 0 0 0 0 0 (-1) 0 ((1103515245 * ((1103515245 * p0) + 12345)) + 12345) 0 0 0))] H := hP
      have hD : va_D A [(z 0, .inr (10, mo z 0 0 0 0 0 0 0 0 0 0 (-1) 0 ((1103515245 * ((1103515245 * p0) + 12345)) + 12345) 0 0 0))] := hD
      refine lv_iadd hx hb dX10_drawn_53 ?_
      refine tpi (y := 22) (by decide +kernel) ?_
      exact fiI hx hb hr hlk hK hP hD hS dX10_drawn_54 (Nat.le_of_ble_eq_true rfl) (Nat.le_of_ble_eq_true rfl) (Or.inr (Or.inr (Or.inr (Or.inr (Or.inr (Or.inr (Or.inr (Or.inr (Or.inr (Or.inr (Or.inr (Or.inr (Or.inr (Or.inl ⟨c_7, c_32, rfl, rfl⟩))))))))))))))
    · have hP : va_P V.1 vwCl [(z 0, .inr (10, mo z 0 0 0 0 0 0 0 0 0 0 (-1) 0 ((1103515245 * ((1103515245 * p0) + 12345)) + 12345) 0 0 0))] H := hP
      have hD : va_D A [(z 0, .inr (10, mo z 0 0 0 0 0 0 0 0 0 0 (-1) 0 ((1103515245 * ((1103515245 * p0) + 12345)) + 12345) 0 0 0))] := hD
      refine lv_iadd hx hb dX10_drawn_53 ?_
      refine tpi (y := 23) (by decide +kernel) ?_
      exact fiI hx hb hr hlk hK hP hD hS dX10_drawn_54 (Nat.le_of_ble_eq_true rfl) (Nat.le_of_ble_eq_true rfl) (Or.inr (Or.inr (Or.inr (Or.inr (Or.inr (Or.inr (Or.inr (Or.inr (Or.inr (Or.inr (Or.inr (Or.inr (Or.inr (Or.inr (Or.inl ⟨c_7, c_33, rfl, rfl⟩)))))))))))))))
    · have hP : va_P V.1 vwCl [(z 0, .inr (10, mo z 0 0 0 0 0 0 0 0 0 0 (-1) 0 ((1103515245 * ((1103515245 * p0) + 12345)) + 12345) 0 0 0))] H := hP
      have hD : va_D A [(z 0, .inr (10, mo z 0 0 0 0 0 0 0 0 0 0 (-1) 0 ((1103515245 * ((1103515245 * p0) + 12345)) + 12345) 0 0 0))] := hD
      refine lv_iadd hx hb dX10_drawn_53 ?_
      refine tpi (y := 24) (by decide +kernel) ?_
      exact fiI hx hb hr hlk hK hP hD hS dX10_drawn_54 (Nat.le_of_ble_eq_true rfl) (Nat.le_of_ble_eq_true rfl) (Or.inr (Or.inr (Or.inr (Or.inr (Or.inr (Or.inr (Or.inr (Or.inr (Or.inr (Or.inr (Or.inr (Or.inr (Or.inr (Or.inr (Or.inr (Or.inl ⟨c_7, c_34, rfl, rfl⟩))))))))))))))))
    · have hP : va_P V.1 vwCl [(z 0, .inr (10, mo z 0 0 0 0 0 0 0 0 0 0 (-1) 0 ((1103515245 * ((1103515245 * p0) + 12345)) + 12345) 0 0 0))] H := hP
      have hD : va_D A [(z 0, .inr (10, mo z 0 0 0 0 0 0 0 0 0 0 (-1) 0 ((1103515245 * ((1103515245 * p0) + 12345)) + 12345) 0 0 0))] := hD
      refine lv_iadd hx hb dX10_drawn_53 ?_
      refine tpi (y := 25) (by decide +kernel) ?_
      exact fiI hx hb hr hlk hK hP hD hS dX10_drawn_54 (Nat.le_of_ble_eq_true rfl) (Nat.le_of_ble_eq_true rfl) (Or.inr (Or.inr (Or.inr (Or.inr (Or.inr (Or.inr (Or.inr (Or.inr (Or.inr (Or.inr (Or.inr (Or.inr (Or.inr (Or.inr (Or.inr (Or.inr (Or.inl ⟨c_7, c_35, rfl, rfl⟩)))))))))))))))))
    · have hP : va_P V.1 vwCl [(z 0, .inr (10, mo z 0 0 0 0 0 0 0 0 0 0 (-1) 0 ((1103515245 * ((1103515245 * p0) + 12345)) + 12345) 0 0 0))] H := hP
      have hD : va_D A [(z 0, .inr (10, mo z 0 0 0 0 0 0 0 0 0 0 (-1) 0 ((1103515245 * ((1103515245 * p0) + 12345)) + 12345) 0 0 0))] := hD
      refine lv_iadd hx hb dX10_drawn_53 ?_
      refine tpi (y := 26) (by decide +kernel) ?_
      exact fiI hx hb hr hlk hK hP hD hS dX10_drawn_54 (Nat.le_of_ble_eq_true rfl) (Nat.le_of_ble_eq_true rfl) (Or.inr (Or.inr (Or.inr (Or.inr (Or.inr (Or.inr (Or.inr (Or.inr (Or.inr (Or.inr (Or.inr (Or.inr (Or.inr (Or.inr (Or.inr (Or.inr (Or.inr (Or.inl ⟨c_7, c_36, rfl, rfl⟩))))))))))))))))))
    · have hP : va_P V.1 vwCl [(z 0, .inr (10, mo z 0 0 0 0 0 0 0 0 0 0 (-1) 0 ((1103515245 * ((1103515245 * p0) + 12345)) + 12345) 0 0 0))] H := hP
      have hD : va_D A [(z 0, .inr (10, mo z 0 0 0 0 0 0 0 0 0 0 (-1) 0 ((1103515245 * ((1103515245 * p0) + 12345)) + 12345) 0 0 0))] := hD
      refine lv_iadd hx hb dX10_drawn_53 ?_
      refine tpi (y := 27) (by decide +kernel) ?_
      exact fiI hx hb hr hlk hK hP hD hS dX10_drawn_54 (Nat.le_of_ble_eq_true rfl) (Nat.le_of_ble_eq_true rfl) (Or.inr (Or.inr (Or.inr (Or.inr (Or.inr (Or.inr (Or.inr (Or.inr (Or.inr (Or.inr (Or.inr (Or.inr (Or.inr (Or.inr (Or.inr (Or.inr (Or.inr (Or.inr (Or.inl ⟨c_7, c_37, rfl, rfl⟩)))))))))))))))))))
    · have hP : va_P V.1 vwCl [(z 0, .inr (10, mo z 0 0 0 0 0 0 0 0 0 0 (-1) 0 ((1103515245 * ((1103515245 * p0) + 12345)) + 12345) 0 0 0))] H := hP
      have hD : va_D A [(z 0, .inr (10, mo z 0 0 0 0 0 0 0 0 0 0 (-1) 0 ((1103515245 * ((1103515245 * p0) + 12345)) + 12345) 0 0 0))] := hD
      refine lv_iadd hx hb dX10_drawn_53 ?_
      refine tpi (y := 28) (by decide +kernel) ?_
      exact fiI hx hb hr hlk hK hP hD hS dX10_drawn_54 (Nat.le_of_ble_eq_true rfl) (Nat.le_of_ble_eq_true rfl) (Or.inr (Or.inr (Or.inr (Or.inr (Or.inr (Or.inr (Or.inr (Or.inr (Or.inr (Or.inr (Or.inr (Or.inr (Or.inr (Or.inr (Or.inr (Or.inr (Or.inr (Or.inr (Or.inr (Or.inl ⟨c_7, c_38, rfl, rfl⟩))))))))))))))))))))
    · have hP : va_P V.1 vwCl [(z 0, .inr (10, mo z 0 0 0 0 0 0 0 0 0 0 (-1) 0 ((1103515245 * ((1103515245 * p0) + 12345)) + 12345) 0 0 0))] H := hP
      have hD : va_D A [(z 0, .inr (10, mo z 0 0 0 0 0 0 0 0 0 0 (-1) 0 ((1103515245 * ((1103515245 * p0) + 12345)) + 12345) 0 0 0))] := hD
      refine lv_iadd hx hb dX10_drawn_53 ?_
      refine tpi (y := 29) (by decide +kernel) ?_
      exact fiI hx hb hr hlk hK hP hD hS dX10_drawn_54 (Nat.le_of_ble_eq_true rfl) (Nat.le_of_ble_eq_true rfl) (Or.inr (Or.inr (Or.inr (Or.inr (Or.inr (Or.inr (Or.inr (Or.inr (Or.inr (Or.inr (Or.inr (Or.inr (Or.inr (Or.inr (Or.inr (Or.inr (Or.inr (Or.inr (Or.inr (Or.inr (⟨c_7, c_39, rfl, rfl⟩)))))))))))))))))))))
theorem dX10_whyNot_0 : decode cX10_whyNot 0 = .ok (.lload_n 1, 1) := by decide +kernel
theorem dX10_whyNot_1 : decode cX10_whyNot 1 = .ok (.lconst 0, 1) := by decide +kernel
theorem dX10_whyNot_2 : decode cX10_whyNot 2 = .ok (.ldc2_w 296, 3) := by decide +kernel
theorem dX10_whyNot_5 : decode cX10_whyNot 5 = .ok (.invokestatic 159, 3) := by decide +kernel
theorem dX10_whyNot_8 : decode cX10_whyNot 8 = .ok (.ifCond .eq 17, 3) := by decide +kernel
theorem dX10_whyNot_11 : decode cX10_whyNot 11 = .ok (.aload_n 0, 1) := by decide +kernel
theorem dX10_whyNot_12 : decode cX10_whyNot 12 = .ok (.lload_n 1, 1) := by decide +kernel
theorem dX10_whyNot_13 : decode cX10_whyNot 13 = .ok (.invokevirtual 266, 3) := by decide +kernel
theorem dX10_whyNot_16 : decode cX10_whyNot 16 = .ok (.ifCond .eq 7, 3) := by decide +kernel
theorem dX10_whyNot_19 : decode cX10_whyNot 19 = .ok (.iconst 0, 1) := by decide +kernel
theorem dX10_whyNot_20 : decode cX10_whyNot 20 = .ok (.goto 4, 3) := by decide +kernel
theorem dX10_whyNot_24 : decode cX10_whyNot 24 = .ok (.ireturn, 1) := by decide +kernel
set_option maxHeartbeats 4000000 in
set_option maxRecDepth 100000 in
theorem c_X10_whyNot_0 (l : Launch) (V : GV) (z : Nat → Nat) (p2 : Int32) : Ct l V yX10_whyNot (.code yX10_whyNot cX10_whyNot 3 (some .int)) 2 [.ref (z 0), .long 0] [(z 0, .inr (10, mo z 0 0 0 0 0 0 0 0 0 0 (-1) 0 p2 0 0 0))] 0 0 (QI V (fun (r : Int32) (w : va_W) => (r = 0 ∧ w = [(z 0, .inr (10, mo z 0 0 0 0 0 0 0 0 0 0 (-1) 0 p2 0 0 0))]))) := by
  refine Ct.of (by decide) (Nat.le_of_ble_eq_true rfl) (fun p e s m below meth c A ls hx hb hr hml hown hlk hnm hg hP hK hD hE hA hS hl => ?_)
  have hl : lv_has ls 3 [(0, .ref (z 0)), (1, .long 0)] := hl
  refine lv_lload_n hx hb dX10_whyNot_0 rfl (lv_at hl 1 rfl) ?_
  refine lv_lconst (v := 0) hx hb dX10_whyNot_1 (by decide) ?_
  refine lv_ldc2 (v := 9) hx hb hown (hg _ q_7_97) dX10_whyNot_2 ?_
  refine jnI (wr := [(z 0, .inr (10, mo z 0 0 0 0 0 0 0 0 0 0 (-1) 0 p2 0 0 0))]) (rnS (rest := []) ⟨hx, hb, hml, hown, hg⟩ (c_X10_within_0 l V 0 0 9) mt_X10_within q_6_114 ⟨Nat.le_of_ble_eq_true rfl, Nat.le_of_ble_eq_true rfl⟩ hK hP hD hS hA hE [] rfl rfl rfl hl.1 rfl (Nat.le_of_ble_eq_true rfl) dX10_whyNot_5 ⟨Nat.le_of_ble_eq_true rfl, Nat.le_of_ble_eq_true rfl⟩) hP hD hS hA [] [0] rfl rfl rfl (by decide) (fun r_1 w H locs hw hP hD hS => ?_)
  rcases hw with ⟨c_2, rfl, rfl⟩ | ⟨c_3, c_4, rfl, rfl⟩ | ⟨c_5, c_6, rfl, rfl⟩
  · exact absurd c_2 (by decide)
  · exact absurd c_4 (by decide)
  · have hP : va_P V.1 vwCl [(z 0, .inr (10, mo z 0 0 0 0 0 0 0 0 0 0 (-1) 0 p2 0 0 0))] H := hP
    have hD : va_D A [(z 0, .inr (10, mo z 0 0 0 0 0 0 0 0 0 0 (-1) 0 p2 0 0 0))] := hD
    refine lv_if_eq (tgt := 25) hx hb dX10_whyNot_8 (by decide) (fun c_7 => absurd c_7 (by decide)) (fun _ => ?_)
    refine lv_aload_n hx hb dX10_whyNot_11 rfl (lv_at hl 0 rfl) ?_
    refine lv_lload_n hx hb dX10_whyNot_12 rfl (lv_at hl 1 rfl) ?_
    refine jnI (wr := [(z 0, .inr (10, mo z 0 0 0 0 0 0 0 0 0 0 (-1) 0 p2 0 0 0))]) (rnV (rest := []) ⟨hx, hb, hml, hown, hg⟩ (c_X10_isNight_1 l V z) mt_X10_isNight q_7_7 ⟨Nat.le_of_ble_eq_true rfl, Nat.le_of_ble_eq_true rfl⟩ hK hP hD hS hA hE [] rfl rfl 0 rfl rfl rfl rfl hl.1 rfl (Nat.le_of_ble_eq_true rfl) dX10_whyNot_13 ⟨Nat.le_of_ble_eq_true rfl, Nat.le_of_ble_eq_true rfl⟩) hP hD hS hA [] [0] rfl rfl rfl (by decide) (fun r_8 w H locs hw hP hD hS => ?_)
    obtain ⟨rfl, rfl⟩ := hw
    have hP : va_P V.1 vwCl [(z 0, .inr (10, mo z 0 0 0 0 0 0 0 0 0 0 (-1) 0 p2 0 0 0))] H := hP
    have hD : va_D A [(z 0, .inr (10, mo z 0 0 0 0 0 0 0 0 0 0 (-1) 0 p2 0 0 0))] := hD
    refine lv_if_eq (tgt := 23) hx hb dX10_whyNot_16 (by decide) (fun c_9 => absurd c_9 (by decide)) (fun _ => ?_)
    refine lv_iconst (v := 0) hx hb dX10_whyNot_19 (by decide) ?_
    refine lv_goto (tgt := 24) hx hb dX10_whyNot_20 (by decide) ?_
    exact fiI hx hb hr hlk hK hP hD hS dX10_whyNot_24 (Nat.le_of_ble_eq_true rfl) (Nat.le_of_ble_eq_true rfl) (⟨rfl, rfl⟩)
set_option maxHeartbeats 4000000 in
set_option maxRecDepth 100000 in
theorem c_X10_standNow_3 (l : Launch) (V : GV) (z : Nat → Nat) (p0 : Int32) (p1 : Int32) (p2 : Int32) : Ct l V yX10_standNow (.code yX10_standNow cX10_standNow 3 (some .int)) 1 [.ref (z 0)] [(z 1, aI V 3075 (upd (upd (fun _ => 0) 51 p0) 52 p1)), (z 0, .inr (10, mo z 0 0 0 0 0 0 0 0 0 0 (-1) 0 p2 0 0 0))] 0 0 (QI V (fun (r : Int32) (w : va_W) => (r = 0 ∧ w = [(z 1, aI V 3075 (upd (upd (fun _ => 0) 51 p0) 52 p1)), (z 0, .inr (10, mo z 0 0 0 0 0 0 0 0 0 0 (-1) 0 p2 0 0 0))]))) := by
  refine Ct.of (by decide) (Nat.le_of_ble_eq_true rfl) (fun p e s m below meth c A ls hx hb hr hml hown hlk hnm hg hP hK hD hE hA hS hl => ?_)
  have hl : lv_has ls 3 [(0, .ref (z 0))] := hl
  refine lv_sipush (v := 625) hx hb dX10_standNow_0 (by decide) ?_
  refine lv_aload_n hx hb dX10_standNow_3 rfl (lv_at hl 0 rfl) ?_
  refine va_get (ci := 10) (v := .ref (z 1)) (C := RX10) (T := TX10) (N := 40) hx hb hg inX10 hown hK hP 1 rfl rfl 1 (by decide) (hg _ q_5_225) (fun _ h9 => h9) rfl dX10_standNow_4 ?_
  refine lv_bipush (v := 50) hx hb dX10_standNow_7 (by decide) ?_
  refine va_iald hx hb hK hP 0 0 rfl rfl (vin (by decide +kernel)) dX10_standNow_9 ?_
  refine tpi (y := 0) (rfl) ?_
  refine lv_imul hx hb dX10_standNow_10 ?_
  refine tpi (y := 0) (by decide +kernel) ?_
  refine lv_istore_n (lv' := [(1, .int 0), (0, .ref (z 0))]) hx hb dX10_standNow_11 rfl hl (by decide) rfl (fun ls hl => ?_)
  refine lv_iconst (v := 0) hx hb dX10_standNow_12 (by decide) ?_
  refine lv_istore_n (lv' := [(2, .int 0), (1, .int 0), (0, .ref (z 0))]) hx hb dX10_standNow_13 rfl hl (by decide) rfl (fun ls hl => ?_)
  refine lv_iload_n hx hb dX10_standNow_14 rfl (lv_at hl 0 rfl) ?_
  refine lv_aload_n hx hb dX10_standNow_15 rfl (lv_at hl 2 rfl) ?_
  refine va_get (ci := 10) (v := .ref (z 1)) (C := RX10) (T := TX10) (N := 40) hx hb hg inX10 hown hK hP 1 rfl rfl 1 (by decide) (hg _ q_5_225) (fun _ h9 => h9) rfl dX10_standNow_16 ?_
  refine lv_iconst (v := 1) hx hb dX10_standNow_19 (by decide) ?_
  refine va_iald hx hb hK hP 0 0 rfl rfl (vin (by decide +kernel)) dX10_standNow_20 ?_
  refine tpi (y := 0) (rfl) ?_
  refine lv_icmp_ge (tgt := 47) hx hb dX10_standNow_21 (by decide) (fun _ => ?_) (fun c_1 => absurd c_1 (by decide))
  refine lv_iload_n hx hb dX10_standNow_47 rfl (lv_at hl 1 rfl) ?_
  exact fiI hx hb hr hlk hK hP hD hS dX10_standNow_48 (Nat.le_of_ble_eq_true rfl) (Nat.le_of_ble_eq_true rfl) (⟨rfl, rfl⟩)
set_option maxHeartbeats 4000000 in
set_option maxRecDepth 100000 in
theorem c_X10_nightTo_4 (l : Launch) (V : GV) (z : Nat → Nat) (p0 : Int32) (p1 : Int32) (p2 : Int32) : Ct l V yX10_nightTo (.code yX10_nightTo cX10_nightTo 6 (some .int)) 1 [.ref (z 0), .int 0, .int 0, .int p0] [(z 1, aI V 3075 (upd (upd (fun _ => 0) 51 p0) 52 p1)), (z 0, .inr (10, mo z 0 0 0 0 0 0 0 0 0 0 (-1) 0 p2 0 0 0))] 0 0 (QI V (fun (r : Int32) (w : va_W) => (r = 0 ∧ w = [(z 1, aI V 3075 (upd (upd (fun _ => 0) 51 p0) 52 p1)), (z 0, .inr (10, mo z 0 0 0 0 0 0 0 0 0 0 (-1) 0 p2 0 0 0))]))) := by
  refine Ct.of (by decide) (Nat.le_of_ble_eq_true rfl) (fun p e s m below meth c A ls hx hb hr hml hown hlk hnm hg hP hK hD hE hA hS hl => ?_)
  have hl : lv_has ls 6 [(0, .ref (z 0)), (1, .int 0), (2, .int 0), (3, .int p0)] := hl
  refine lv_iconst (v := 0) hx hb dX10_nightTo_0 (by decide) ?_
  refine lv_istore (lv' := [(4, .int 0), (0, .ref (z 0)), (1, .int 0), (2, .int 0), (3, .int p0)]) hx hb dX10_nightTo_1 hl (by decide) rfl (fun ls hl => ?_)
  refine lv_iconst (v := 0) hx hb dX10_nightTo_3 (by decide) ?_
  refine lv_istore (lv' := [(5, .int 0), (4, .int 0), (0, .ref (z 0)), (1, .int 0), (2, .int 0), (3, .int p0)]) hx hb dX10_nightTo_4 hl (by decide) rfl (fun ls hl => ?_)
  refine lv_iload hx hb dX10_nightTo_6 (lv_at hl 0 rfl) ?_
  refine lv_aload_n hx hb dX10_nightTo_8 rfl (lv_at hl 2 rfl) ?_
  refine va_get (ci := 10) (v := .ref (z 1)) (C := RX10) (T := TX10) (N := 40) hx hb hg inX10 hown hK hP 1 rfl rfl 1 (by decide) (hg _ q_5_225) (fun _ h9 => h9) rfl dX10_nightTo_9 ?_
  refine lv_iconst (v := 1) hx hb dX10_nightTo_12 (by decide) ?_
  refine va_iald hx hb hK hP 0 0 rfl rfl (vin (by decide +kernel)) dX10_nightTo_13 ?_
  refine tpi (y := 0) (rfl) ?_
  refine lv_icmp_ge (tgt := 98) hx hb dX10_nightTo_14 (by decide) (fun _ => ?_) (fun c_1 => absurd c_1 (by decide))
  refine lv_iload hx hb dX10_nightTo_98 (lv_at hl 1 rfl) ?_
  exact fiI hx hb hr hlk hK hP hD hS dX10_nightTo_100 (Nat.le_of_ble_eq_true rfl) (Nat.le_of_ble_eq_true rfl) (⟨rfl, rfl⟩)
set_option maxHeartbeats 4000000 in
set_option maxRecDepth 100000 in
theorem c_X10_isStand_2 (l : Launch) (V : GV) (z : Nat → Nat) (p0 : Int32) (p1 : Int32) (p2 : Int32) : Ct l V yX10_isStand (.code yX10_isStand cX10_isStand 3 none) 2 [.ref (z 0), .int 0] [(z 1, aI V 3075 (upd (upd (fun _ => 0) 51 p0) 52 p1)), (z 0, .inr (10, mo z 0 0 0 0 0 0 0 0 0 0 (-1) 0 p2 0 0 0))] 0 0 (QV V (fun (w : va_W) => (w = [(z 1, aI V 3075 (upd (upd (fun _ => 0) 51 p0) 52 p1)), (z 0, .inr (10, mo z 0 0 0 0 0 0 0 0 0 0 (-1) 0 p2 0 0 0))]))) := by
  refine Ct.of (by decide) (Nat.le_of_ble_eq_true rfl) (fun p e s m below meth c A ls hx hb hr hml hown hlk hnm hg hP hK hD hE hA hS hl => ?_)
  have hl : lv_has ls 3 [(0, .ref (z 0)), (1, .int 0)] := hl
  refine lv_iconst (v := 0) hx hb dX10_isStand_0 (by decide) ?_
  refine lv_istore_n (lv' := [(2, .int 0), (0, .ref (z 0)), (1, .int 0)]) hx hb dX10_isStand_1 rfl hl (by decide) rfl (fun ls hl => ?_)
  refine lv_iload_n hx hb dX10_isStand_2 rfl (lv_at hl 0 rfl) ?_
  refine lv_aload_n hx hb dX10_isStand_3 rfl (lv_at hl 1 rfl) ?_
  refine va_get (ci := 10) (v := .ref (z 1)) (C := RX10) (T := TX10) (N := 40) hx hb hg inX10 hown hK hP 1 rfl rfl 1 (by decide) (hg _ q_5_225) (fun _ h9 => h9) rfl dX10_isStand_4 ?_
  refine lv_iconst (v := 1) hx hb dX10_isStand_7 (by decide) ?_
  refine va_iald hx hb hK hP 0 0 rfl rfl (vin (by decide +kernel)) dX10_isStand_8 ?_
  refine tpi (y := 0) (rfl) ?_
  refine lv_icmp_ge (tgt := 32) hx hb dX10_isStand_9 (by decide) (fun _ => ?_) (fun c_1 => absurd c_1 (by decide))
  refine lv_aload_n hx hb dX10_isStand_32 rfl (lv_at hl 1 rfl) ?_
  refine va_get (ci := 10) (v := .ref (z 1)) (C := RX10) (T := TX10) (N := 40) hx hb hg inX10 hown hK hP 1 rfl rfl 1 (by decide) (hg _ q_5_225) (fun _ h9 => h9) rfl dX10_isStand_33 ?_
  refine lv_bipush (v := 50) hx hb dX10_isStand_36 (by decide) ?_
  refine lv_iload_n hx hb dX10_isStand_38 rfl (lv_at hl 2 rfl) ?_
  refine jnI (wr := [(z 1, aI V 3075 (upd (upd (fun _ => 0) 51 p0) 52 p1)), (z 0, .inr (10, mo z 0 0 0 0 0 0 0 0 0 0 (-1) 0 p2 0 0 0))]) (rnS (rest := [.int 50, .ref (z 1)]) ⟨hx, hb, hml, hown, hg⟩ (c_X10_tookIn_0 l V) mt_X10_tookIn q_7_29 ⟨Nat.le_of_ble_eq_true rfl, Nat.le_of_ble_eq_true rfl⟩ hK hP hD hS hA hE [] rfl rfl rfl hl.1 rfl (Nat.le_of_ble_eq_true rfl) dX10_isStand_39 ⟨Nat.le_of_ble_eq_true rfl, Nat.le_of_ble_eq_true rfl⟩) hP hD hS hA [] [0, 1] rfl rfl rfl (by decide) (fun r_2 w H locs hw hP hD hS => ?_)
  obtain ⟨rfl, rfl⟩ := hw
  have hP : va_P V.1 vwCl [(z 1, aI V 3075 (upd (upd (fun _ => 0) 51 p0) 52 p1)), (z 0, .inr (10, mo z 0 0 0 0 0 0 0 0 0 0 (-1) 0 p2 0 0 0))] H := hP
  have hD : va_D A [(z 1, aI V 3075 (upd (upd (fun _ => 0) 51 p0) 52 p1)), (z 0, .inr (10, mo z 0 0 0 0 0 0 0 0 0 0 (-1) 0 p2 0 0 0))] := hD
  refine va_iast hx hb hK hP hD hS 0 0 rfl rfl (vin (by decide +kernel)) dX10_isStand_42 (fun H locs hP hD hS => ?_)
  have hP : va_P V.1 vwCl [(z 1, aI V 3075 (upd (upd (upd (fun _ => 0) 51 p0) 52 p1) 50 0)), (z 0, .inr (10, mo z 0 0 0 0 0 0 0 0 0 0 (-1) 0 p2 0 0 0))] H := hP
  have hD : va_D A [(z 1, aI V 3075 (upd (upd (upd (fun _ => 0) 51 p0) 52 p1) 50 0)), (z 0, .inr (10, mo z 0 0 0 0 0 0 0 0 0 0 (-1) 0 p2 0 0 0))] := hD
  have hP : va_P V.1 vwCl [(z 1, aI V 3075 (upd (upd (fun _ => 0) 51 p0) 52 p1)), (z 0, .inr (10, mo z 0 0 0 0 0 0 0 0 0 0 (-1) 0 p2 0 0 0))] H := by rw [updid (k := 50) (v := 0) rfl] at hP; exact hP
  have hD : va_D A [(z 1, aI V 3075 (upd (upd (fun _ => 0) 51 p0) 52 p1)), (z 0, .inr (10, mo z 0 0 0 0 0 0 0 0 0 0 (-1) 0 p2 0 0 0))] := by rw [updid (k := 50) (v := 0) rfl] at hD; exact hD
  exact fiV hx hb hr hlk hK hP hD hS dX10_isStand_43 (Nat.le_of_ble_eq_true rfl) (Nat.le_of_ble_eq_true rfl) (rfl)
set_option maxHeartbeats 4000000 in
set_option maxRecDepth 100000 in
theorem c_X10_goesNight_3 (l : Launch) (V : GV) (z : Nat → Nat) (p0 : Int32) (p1 : Int32) (p2 : Int32) : Ct l V yX10_goesNight (.code yX10_goesNight cX10_goesNight 2 none) 3 [.ref (z 0), .int 0] [(z 1, aI V 3075 (upd (upd (fun _ => 0) 51 p0) 52 p1)), (z 0, .inr (10, mo z 0 0 0 0 0 0 0 0 0 0 (-1) 0 p2 0 0 0))] 0 0 (QV V (fun (w : va_W) => (w = [(z 1, aI V 3075 (upd (upd (fun _ => 0) 51 p0) 52 (p1 + 1))), (z 0, .inr (10, mo z 0 0 0 0 0 0 0 0 0 0 (-1) 0 p2 0 0 0))]))) := by
  refine Ct.of (by decide) (Nat.le_of_ble_eq_true rfl) (fun p e s m below meth c A ls hx hb hr hml hown hlk hnm hg hP hK hD hE hA hS hl => ?_)
  have hl : lv_has ls 2 [(0, .ref (z 0)), (1, .int 0)] := hl
  refine lv_aload_n hx hb dX10_goesNight_0 rfl (lv_at hl 0 rfl) ?_
  refine lv_aload_n hx hb dX10_goesNight_1 rfl (lv_at hl 0 rfl) ?_
  refine lv_aload_n hx hb dX10_goesNight_2 rfl (lv_at hl 0 rfl) ?_
  refine jnI (wr := []) (rnV (rest := [.ref (z 0), .ref (z 0)]) ⟨hx, hb, hml, hown, hg⟩ (c_X10_standNow_3 l V z p0 p1 p2) mt_X10_standNow q_7_11 ⟨Nat.le_of_ble_eq_true rfl, Nat.le_of_ble_eq_true rfl⟩ hK hP hD hS hA hE [0, 1] rfl rfl 1 rfl rfl rfl rfl hl.1 rfl (Nat.le_of_ble_eq_true rfl) dX10_goesNight_3 ⟨Nat.le_of_ble_eq_true rfl, Nat.le_of_ble_eq_true rfl⟩) hP hD hS hA [0, 1] [] rfl rfl rfl (by decide) (fun r_1 w H locs hw hP hD hS => ?_)
  obtain ⟨rfl, rfl⟩ := hw
  have hP : va_P V.1 vwCl [(z 1, aI V 3075 (upd (upd (fun _ => 0) 51 p0) 52 p1)), (z 0, .inr (10, mo z 0 0 0 0 0 0 0 0 0 0 (-1) 0 p2 0 0 0))] H := hP
  have hD : va_D A [(z 1, aI V 3075 (upd (upd (fun _ => 0) 51 p0) 52 p1)), (z 0, .inr (10, mo z 0 0 0 0 0 0 0 0 0 0 (-1) 0 p2 0 0 0))] := hD
  refine lv_iload_n hx hb dX10_goesNight_6 rfl (lv_at hl 1 rfl) ?_
  refine lv_aload_n hx hb dX10_goesNight_7 rfl (lv_at hl 0 rfl) ?_
  refine va_get (ci := 10) (v := .ref (z 1)) (C := RX10) (T := TX10) (N := 40) hx hb hg inX10 hown hK hP 1 rfl rfl 1 (by decide) (hg _ q_5_225) (fun _ h9 => h9) rfl dX10_goesNight_8 ?_
  refine lv_bipush (v := 51) hx hb dX10_goesNight_11 (by decide) ?_
  refine va_iald hx hb hK hP 0 0 rfl rfl (vin (by decide +kernel)) dX10_goesNight_13 ?_
  refine tpi (y := p0) (rfl) ?_
  refine jnI (wr := []) (rnV (rest := [.ref (z 0)]) ⟨hx, hb, hml, hown, hg⟩ (c_X10_nightTo_4 l V z p0 p1 p2) mt_X10_nightTo q_7_18 ⟨Nat.le_of_ble_eq_true rfl, Nat.le_of_ble_eq_true rfl⟩ hK hP hD hS hA hE [0, 1] rfl rfl 1 rfl rfl rfl rfl hl.1 rfl (Nat.le_of_ble_eq_true rfl) dX10_goesNight_14 ⟨Nat.le_of_ble_eq_true rfl, Nat.le_of_ble_eq_true rfl⟩) hP hD hS hA [0, 1] [] rfl rfl rfl (by decide) (fun r_2 w H locs hw hP hD hS => ?_)
  obtain ⟨rfl, rfl⟩ := hw
  have hP : va_P V.1 vwCl [(z 1, aI V 3075 (upd (upd (fun _ => 0) 51 p0) 52 p1)), (z 0, .inr (10, mo z 0 0 0 0 0 0 0 0 0 0 (-1) 0 p2 0 0 0))] H := hP
  have hD : va_D A [(z 1, aI V 3075 (upd (upd (fun _ => 0) 51 p0) 52 p1)), (z 0, .inr (10, mo z 0 0 0 0 0 0 0 0 0 0 (-1) 0 p2 0 0 0))] := hD
  refine jnV (wr := []) (rnV (rest := []) ⟨hx, hb, hml, hown, hg⟩ (c_X10_isStand_2 l V z p0 p1 p2) mt_X10_isStand q_7_68 ⟨Nat.le_of_ble_eq_true rfl, Nat.le_of_ble_eq_true rfl⟩ hK hP hD hS hA hE [0, 1] rfl rfl 1 rfl rfl rfl rfl hl.1 rfl (Nat.le_of_ble_eq_true rfl) dX10_goesNight_17 ⟨Nat.le_of_ble_eq_true rfl, Nat.le_of_ble_eq_true rfl⟩) hP hD hS hA [0, 1] [] rfl rfl rfl (by decide) (fun  w H locs hw hP hD hS => ?_)
  subst hw
  have hP : va_P V.1 vwCl [(z 1, aI V 3075 (upd (upd (fun _ => 0) 51 p0) 52 p1)), (z 0, .inr (10, mo z 0 0 0 0 0 0 0 0 0 0 (-1) 0 p2 0 0 0))] H := hP
  have hD : va_D A [(z 1, aI V 3075 (upd (upd (fun _ => 0) 51 p0) 52 p1)), (z 0, .inr (10, mo z 0 0 0 0 0 0 0 0 0 0 (-1) 0 p2 0 0 0))] := hD
  refine lv_aload_n hx hb dX10_goesNight_20 rfl (lv_at hl 0 rfl) ?_
  refine va_get (ci := 10) (v := .ref (z 1)) (C := RX10) (T := TX10) (N := 40) hx hb hg inX10 hown hK hP 1 rfl rfl 1 (by decide) (hg _ q_5_225) (fun _ h9 => h9) rfl dX10_goesNight_21 ?_
  refine lv_bipush (v := 52) hx hb dX10_goesNight_24 (by decide) ?_
  refine lv_dup2_11 hx hb dX10_goesNight_26 rfl rfl ?_
  refine va_iald hx hb hK hP 0 0 rfl rfl (vin (by decide +kernel)) dX10_goesNight_27 ?_
  refine tpi (y := p1) (rfl) ?_
  refine lv_iconst (v := 1) hx hb dX10_goesNight_28 (by decide) ?_
  refine lv_iadd hx hb dX10_goesNight_29 ?_
  refine va_iast hx hb hK hP hD hS 0 0 rfl rfl (vin (by decide +kernel)) dX10_goesNight_30 (fun H locs hP hD hS => ?_)
  have hP : va_P V.1 vwCl [(z 1, aI V 3075 (upd (upd (upd (fun _ => 0) 51 p0) 52 p1) 52 (p1 + 1))), (z 0, .inr (10, mo z 0 0 0 0 0 0 0 0 0 0 (-1) 0 p2 0 0 0))] H := hP
  have hD : va_D A [(z 1, aI V 3075 (upd (upd (upd (fun _ => 0) 51 p0) 52 p1) 52 (p1 + 1))), (z 0, .inr (10, mo z 0 0 0 0 0 0 0 0 0 0 (-1) 0 p2 0 0 0))] := hD
  have hP : va_P V.1 vwCl [(z 1, aI V 3075 (upd (upd (fun _ => 0) 51 p0) 52 (p1 + 1))), (z 0, .inr (10, mo z 0 0 0 0 0 0 0 0 0 0 (-1) 0 p2 0 0 0))] H := by rw [updup] at hP; exact hP
  have hD : va_D A [(z 1, aI V 3075 (upd (upd (fun _ => 0) 51 p0) 52 (p1 + 1))), (z 0, .inr (10, mo z 0 0 0 0 0 0 0 0 0 0 (-1) 0 p2 0 0 0))] := by rw [updup] at hD; exact hD
  exact fiV hx hb hr hlk hK hP hD hS dX10_goesNight_31 (Nat.le_of_ble_eq_true rfl) (Nat.le_of_ble_eq_true rfl) (rfl)
theorem dX10_does_0 : decode cX10_does 0 = .ok (.iload_n 1, 1) := by decide +kernel
theorem dX10_does_1 : decode cX10_does 1 = .ok (.bipush 10, 2) := by decide +kernel
theorem dX10_does_3 : decode cX10_does 3 = .ok (.if_icmp .ge 11, 3) := by decide +kernel
theorem dX10_does_6 : decode cX10_does 6 = .ok (.aload_n 0, 1) := by decide +kernel
theorem dX10_does_7 : decode cX10_does 7 = .ok (.iload_n 1, 1) := by decide +kernel
theorem dX10_does_8 : decode cX10_does 8 = .ok (.invokevirtual 281, 3) := by decide +kernel
theorem dX10_does_11 : decode cX10_does 11 = .ok (.goto 31, 3) := by decide +kernel
theorem dX10_does_42 : decode cX10_does 42 = .ok (.return_, 1) := by decide +kernel
set_option maxHeartbeats 4000000 in
set_option maxRecDepth 100000 in
theorem c_X10_does_0 (l : Launch) (V : GV) (z : Nat → Nat) (p0 : Int32) (p1 : Int32) (p2 : Int32) : Ct l V yX10_does (.code yX10_does cX10_does 2 none) 4 [.ref (z 0), .int 0] [(z 1, aI V 3075 (upd (upd (fun _ => 0) 51 p0) 52 p1)), (z 0, .inr (10, mo z 0 0 0 0 0 0 0 0 0 0 (-1) 0 p2 0 0 0))] 0 0 (QV V (fun (w : va_W) => (w = [(z 1, aI V 3075 (upd (upd (fun _ => 0) 51 p0) 52 (p1 + 1))), (z 0, .inr (10, mo z 0 0 0 0 0 0 0 0 0 0 (-1) 0 p2 0 0 0))]))) := by
  refine Ct.of (by decide) (Nat.le_of_ble_eq_true rfl) (fun p e s m below meth c A ls hx hb hr hml hown hlk hnm hg hP hK hD hE hA hS hl => ?_)
  have hl : lv_has ls 2 [(0, .ref (z 0)), (1, .int 0)] := hl
  refine lv_iload_n hx hb dX10_does_0 rfl (lv_at hl 1 rfl) ?_
  refine lv_bipush (v := 10) hx hb dX10_does_1 (by decide) ?_
  refine lv_icmp_ge (tgt := 14) hx hb dX10_does_3 (by decide) (fun c_1 => absurd c_1 (by decide)) (fun _ => ?_)
  refine lv_aload_n hx hb dX10_does_6 rfl (lv_at hl 0 rfl) ?_
  refine lv_iload_n hx hb dX10_does_7 rfl (lv_at hl 1 rfl) ?_
  refine jnV (wr := []) (rnV (rest := []) ⟨hx, hb, hml, hown, hg⟩ (c_X10_goesNight_3 l V z p0 p1 p2) mt_X10_goesNight q_7_64 ⟨Nat.le_of_ble_eq_true rfl, Nat.le_of_ble_eq_true rfl⟩ hK hP hD hS hA hE [0, 1] rfl rfl 1 rfl rfl rfl rfl hl.1 rfl (Nat.le_of_ble_eq_true rfl) dX10_does_8 ⟨Nat.le_of_ble_eq_true rfl, Nat.le_of_ble_eq_true rfl⟩) hP hD hS hA [0, 1] [] rfl rfl rfl (by decide) (fun  w H locs hw hP hD hS => ?_)
  subst hw
  have hP : va_P V.1 vwCl [(z 1, aI V 3075 (upd (upd (fun _ => 0) 51 p0) 52 (p1 + 1))), (z 0, .inr (10, mo z 0 0 0 0 0 0 0 0 0 0 (-1) 0 p2 0 0 0))] H := hP
  have hD : va_D A [(z 1, aI V 3075 (upd (upd (fun _ => 0) 51 p0) 52 (p1 + 1))), (z 0, .inr (10, mo z 0 0 0 0 0 0 0 0 0 0 (-1) 0 p2 0 0 0))] := hD
  refine lv_goto (tgt := 42) hx hb dX10_does_11 (by decide) ?_
  exact fiV hx hb hr hlk hK hP hD hS dX10_does_42 (Nat.le_of_ble_eq_true rfl) (Nat.le_of_ble_eq_true rfl) (rfl)
set_option maxHeartbeats 4000000 in
set_option maxRecDepth 100000 in
theorem c_X10_isNight_5 (l : Launch) (V : GV) (z : Nat → Nat) (p0 : Int32) (p1 : Int32) (p2 : Int32) : Ct l V yX10_isNight (.code yX10_isNight cX10_isNight 3 (some .boolean)) 2 [.ref (z 0), .long 1] [(z 1, aI V 3075 (upd (upd (fun _ => 0) 51 p0) 52 p1)), (z 0, .inr (10, mo z 0 0 0 0 0 0 0 0 0 0 (-1) 0 p2 0 0 0))] 0 0 (QI V (fun (r : Int32) (w : va_W) => (r = 0 ∧ w = [(z 1, aI V 3075 (upd (upd (fun _ => 0) 51 p0) 52 p1)), (z 0, .inr (10, mo z 0 0 0 0 0 0 0 0 0 0 (-1) 0 p2 0 0 0))]))) := by
  refine Ct.of (by decide) (Nat.le_of_ble_eq_true rfl) (fun p e s m below meth c A ls hx hb hr hml hown hlk hnm hg hP hK hD hE hA hS hl => ?_)
  have hl : lv_has ls 3 [(0, .ref (z 0)), (1, .long 1)] := hl
  refine lv_lload_n hx hb dX10_isNight_0 rfl (lv_at hl 1 rfl) ?_
  refine lv_lconst (v := 0) hx hb dX10_isNight_1 (by decide) ?_
  refine W.lcmp hx hb dX10_isNight_2 ?_
  refine lv_if_eq (tgt := 23) hx hb dX10_isNight_3 (by decide) (fun c_1 => absurd ((lg_cmp_eq _ _).mp c_1) (by decide)) (fun _ => ?_)
  refine lv_lload_n hx hb dX10_isNight_6 rfl (lv_at hl 1 rfl) ?_
  refine lv_lconst (v := 1) hx hb dX10_isNight_7 (by decide) ?_
  refine lv_aload_n hx hb dX10_isNight_8 rfl (lv_at hl 0 rfl) ?_
  refine va_get (ci := 10) (v := .ref (z 1)) (C := RX10) (T := TX10) (N := 40) hx hb hg inX10 hown hK hP 1 rfl rfl 1 (by decide) (hg _ q_5_225) (fun _ h9 => h9) rfl dX10_isNight_9 ?_
  refine lv_iconst (v := 1) hx hb dX10_isNight_12 (by decide) ?_
  refine va_iald hx hb hK hP 0 0 rfl rfl (vin (by decide +kernel)) dX10_isNight_13 ?_
  refine tpi (y := 0) (rfl) ?_
  refine lv_iconst (v := 1) hx hb dX10_isNight_14 (by decide) ?_
  refine lv_isub hx hb dX10_isNight_15 ?_
  refine tpi (y := (-1)) (by decide +kernel) ?_
  refine lv_i2l (v := (-1)) hx hb dX10_isNight_16 (by decide +kernel) ?_
  refine jnI (wr := [(z 1, aI V 3075 (upd (upd (fun _ => 0) 51 p0) 52 p1)), (z 0, .inr (10, mo z 0 0 0 0 0 0 0 0 0 0 (-1) 0 p2 0 0 0))]) (rnS (rest := []) ⟨hx, hb, hml, hown, hg⟩ (c_X10_within_0 l V 1 1 ((-1))) mt_X10_within q_6_114 ⟨Nat.le_of_ble_eq_true rfl, Nat.le_of_ble_eq_true rfl⟩ hK hP hD hS hA hE [] rfl rfl rfl hl.1 rfl (Nat.le_of_ble_eq_true rfl) dX10_isNight_17 ⟨Nat.le_of_ble_eq_true rfl, Nat.le_of_ble_eq_true rfl⟩) hP hD hS hA [] [0, 1] rfl rfl rfl (by decide) (fun r_2 w H locs hw hP hD hS => ?_)
  rcases hw with ⟨c_3, rfl, rfl⟩ | ⟨c_4, c_5, rfl, rfl⟩ | ⟨c_6, c_7, rfl, rfl⟩
  · exact absurd c_3 (by decide)
  · have hP : va_P V.1 vwCl [(z 1, aI V 3075 (upd (upd (fun _ => 0) 51 p0) 52 p1)), (z 0, .inr (10, mo z 0 0 0 0 0 0 0 0 0 0 (-1) 0 p2 0 0 0))] H := hP
    have hD : va_D A [(z 1, aI V 3075 (upd (upd (fun _ => 0) 51 p0) 52 p1)), (z 0, .inr (10, mo z 0 0 0 0 0 0 0 0 0 0 (-1) 0 p2 0 0 0))] := hD
    refine lv_if_eq (tgt := 27) hx hb dX10_isNight_20 (by decide) (fun _ => ?_) (fun c_8 => absurd c_8 (by decide))
    refine lv_iconst (v := 0) hx hb dX10_isNight_27 (by decide) ?_
    exact fiZ rfl hx hb hr hlk hK hP hD hS dX10_isNight_28 (Nat.le_of_ble_eq_true rfl) (Nat.le_of_ble_eq_true rfl) (⟨rfl, rfl⟩)
  · exact absurd c_7 (by decide)
theorem dX10_whyNot_23 : decode cX10_whyNot 23 = .ok (.iconst 1, 1) := by decide +kernel
set_option maxHeartbeats 4000000 in
set_option maxRecDepth 100000 in
theorem c_X10_whyNot_1 (l : Launch) (V : GV) (z : Nat → Nat) (p0 : Int32) (p1 : Int32) (p2 : Int32) : Ct l V yX10_whyNot (.code yX10_whyNot cX10_whyNot 3 (some .int)) 3 [.ref (z 0), .long 1] [(z 1, aI V 3075 (upd (upd (fun _ => 0) 51 p0) 52 p1)), (z 0, .inr (10, mo z 0 0 0 0 0 0 0 0 0 0 (-1) 0 p2 0 0 0))] 0 0 (QI V (fun (r : Int32) (w : va_W) => (r = 1 ∧ w = [(z 1, aI V 3075 (upd (upd (fun _ => 0) 51 p0) 52 p1)), (z 0, .inr (10, mo z 0 0 0 0 0 0 0 0 0 0 (-1) 0 p2 0 0 0))]))) := by
  refine Ct.of (by decide) (Nat.le_of_ble_eq_true rfl) (fun p e s m below meth c A ls hx hb hr hml hown hlk hnm hg hP hK hD hE hA hS hl => ?_)
  have hl : lv_has ls 3 [(0, .ref (z 0)), (1, .long 1)] := hl
  refine lv_lload_n hx hb dX10_whyNot_0 rfl (lv_at hl 1 rfl) ?_
  refine lv_lconst (v := 0) hx hb dX10_whyNot_1 (by decide) ?_
  refine lv_ldc2 (v := 9) hx hb hown (hg _ q_7_97) dX10_whyNot_2 ?_
  refine jnI (wr := [(z 1, aI V 3075 (upd (upd (fun _ => 0) 51 p0) 52 p1)), (z 0, .inr (10, mo z 0 0 0 0 0 0 0 0 0 0 (-1) 0 p2 0 0 0))]) (rnS (rest := []) ⟨hx, hb, hml, hown, hg⟩ (c_X10_within_0 l V 1 0 9) mt_X10_within q_6_114 ⟨Nat.le_of_ble_eq_true rfl, Nat.le_of_ble_eq_true rfl⟩ hK hP hD hS hA hE [] rfl rfl rfl hl.1 rfl (Nat.le_of_ble_eq_true rfl) dX10_whyNot_5 ⟨Nat.le_of_ble_eq_true rfl, Nat.le_of_ble_eq_true rfl⟩) hP hD hS hA [] [0, 1] rfl rfl rfl (by decide) (fun r_1 w H locs hw hP hD hS => ?_)
  rcases hw with ⟨c_2, rfl, rfl⟩ | ⟨c_3, c_4, rfl, rfl⟩ | ⟨c_5, c_6, rfl, rfl⟩
  · exact absurd c_2 (by decide)
  · exact absurd c_4 (by decide)
  · have hP : va_P V.1 vwCl [(z 1, aI V 3075 (upd (upd (fun _ => 0) 51 p0) 52 p1)), (z 0, .inr (10, mo z 0 0 0 0 0 0 0 0 0 0 (-1) 0 p2 0 0 0))] H := hP
    have hD : va_D A [(z 1, aI V 3075 (upd (upd (fun _ => 0) 51 p0) 52 p1)), (z 0, .inr (10, mo z 0 0 0 0 0 0 0 0 0 0 (-1) 0 p2 0 0 0))] := hD
    refine lv_if_eq (tgt := 25) hx hb dX10_whyNot_8 (by decide) (fun c_7 => absurd c_7 (by decide)) (fun _ => ?_)
    refine lv_aload_n hx hb dX10_whyNot_11 rfl (lv_at hl 0 rfl) ?_
    refine lv_lload_n hx hb dX10_whyNot_12 rfl (lv_at hl 1 rfl) ?_
    refine jnI (wr := []) (rnV (rest := []) ⟨hx, hb, hml, hown, hg⟩ (c_X10_isNight_5 l V z p0 p1 p2) mt_X10_isNight q_7_7 ⟨Nat.le_of_ble_eq_true rfl, Nat.le_of_ble_eq_true rfl⟩ hK hP hD hS hA hE [0, 1] rfl rfl 1 rfl rfl rfl rfl hl.1 rfl (Nat.le_of_ble_eq_true rfl) dX10_whyNot_13 ⟨Nat.le_of_ble_eq_true rfl, Nat.le_of_ble_eq_true rfl⟩) hP hD hS hA [0, 1] [] rfl rfl rfl (by decide) (fun r_8 w H locs hw hP hD hS => ?_)
    obtain ⟨rfl, rfl⟩ := hw
    have hP : va_P V.1 vwCl [(z 1, aI V 3075 (upd (upd (fun _ => 0) 51 p0) 52 p1)), (z 0, .inr (10, mo z 0 0 0 0 0 0 0 0 0 0 (-1) 0 p2 0 0 0))] H := hP
    have hD : va_D A [(z 1, aI V 3075 (upd (upd (fun _ => 0) 51 p0) 52 p1)), (z 0, .inr (10, mo z 0 0 0 0 0 0 0 0 0 0 (-1) 0 p2 0 0 0))] := hD
    refine lv_if_eq (tgt := 23) hx hb dX10_whyNot_16 (by decide) (fun _ => ?_) (fun c_9 => absurd c_9 (by decide))
    refine lv_iconst (v := 1) hx hb dX10_whyNot_23 (by decide) ?_
    exact fiI hx hb hr hlk hK hP hD hS dX10_whyNot_24 (Nat.le_of_ble_eq_true rfl) (Nat.le_of_ble_eq_true rfl) (⟨rfl, rfl⟩)
set_option maxHeartbeats 4000000 in
set_option maxRecDepth 100000 in
theorem c_X10_isNight_6 (l : Launch) (V : GV) (z : Nat → Nat) (p0 : Int32) (p1 : Int32) (p2 : Int32) : Ct l V yX10_isNight (.code yX10_isNight cX10_isNight 3 (some .boolean)) 2 [.ref (z 0), .long 2] [(z 1, aI V 3075 (upd (upd (fun _ => 0) 51 p0) 52 p1)), (z 0, .inr (10, mo z 0 0 0 0 0 0 0 0 0 0 (-1) 0 p2 0 0 0))] 0 0 (QI V (fun (r : Int32) (w : va_W) => (r = 0 ∧ w = [(z 1, aI V 3075 (upd (upd (fun _ => 0) 51 p0) 52 p1)), (z 0, .inr (10, mo z 0 0 0 0 0 0 0 0 0 0 (-1) 0 p2 0 0 0))]))) := by
  refine Ct.of (by decide) (Nat.le_of_ble_eq_true rfl) (fun p e s m below meth c A ls hx hb hr hml hown hlk hnm hg hP hK hD hE hA hS hl => ?_)
  have hl : lv_has ls 3 [(0, .ref (z 0)), (1, .long 2)] := hl
  refine lv_lload_n hx hb dX10_isNight_0 rfl (lv_at hl 1 rfl) ?_
  refine lv_lconst (v := 0) hx hb dX10_isNight_1 (by decide) ?_
  refine W.lcmp hx hb dX10_isNight_2 ?_
  refine lv_if_eq (tgt := 23) hx hb dX10_isNight_3 (by decide) (fun c_1 => absurd ((lg_cmp_eq _ _).mp c_1) (by decide)) (fun _ => ?_)
  refine lv_lload_n hx hb dX10_isNight_6 rfl (lv_at hl 1 rfl) ?_
  refine lv_lconst (v := 1) hx hb dX10_isNight_7 (by decide) ?_
  refine lv_aload_n hx hb dX10_isNight_8 rfl (lv_at hl 0 rfl) ?_
  refine va_get (ci := 10) (v := .ref (z 1)) (C := RX10) (T := TX10) (N := 40) hx hb hg inX10 hown hK hP 1 rfl rfl 1 (by decide) (hg _ q_5_225) (fun _ h9 => h9) rfl dX10_isNight_9 ?_
  refine lv_iconst (v := 1) hx hb dX10_isNight_12 (by decide) ?_
  refine va_iald hx hb hK hP 0 0 rfl rfl (vin (by decide +kernel)) dX10_isNight_13 ?_
  refine tpi (y := 0) (rfl) ?_
  refine lv_iconst (v := 1) hx hb dX10_isNight_14 (by decide) ?_
  refine lv_isub hx hb dX10_isNight_15 ?_
  refine tpi (y := (-1)) (by decide +kernel) ?_
  refine lv_i2l (v := (-1)) hx hb dX10_isNight_16 (by decide +kernel) ?_
  refine jnI (wr := [(z 1, aI V 3075 (upd (upd (fun _ => 0) 51 p0) 52 p1)), (z 0, .inr (10, mo z 0 0 0 0 0 0 0 0 0 0 (-1) 0 p2 0 0 0))]) (rnS (rest := []) ⟨hx, hb, hml, hown, hg⟩ (c_X10_within_0 l V 2 1 ((-1))) mt_X10_within q_6_114 ⟨Nat.le_of_ble_eq_true rfl, Nat.le_of_ble_eq_true rfl⟩ hK hP hD hS hA hE [] rfl rfl rfl hl.1 rfl (Nat.le_of_ble_eq_true rfl) dX10_isNight_17 ⟨Nat.le_of_ble_eq_true rfl, Nat.le_of_ble_eq_true rfl⟩) hP hD hS hA [] [0, 1] rfl rfl rfl (by decide) (fun r_2 w H locs hw hP hD hS => ?_)
  rcases hw with ⟨c_3, rfl, rfl⟩ | ⟨c_4, c_5, rfl, rfl⟩ | ⟨c_6, c_7, rfl, rfl⟩
  · exact absurd c_3 (by decide)
  · have hP : va_P V.1 vwCl [(z 1, aI V 3075 (upd (upd (fun _ => 0) 51 p0) 52 p1)), (z 0, .inr (10, mo z 0 0 0 0 0 0 0 0 0 0 (-1) 0 p2 0 0 0))] H := hP
    have hD : va_D A [(z 1, aI V 3075 (upd (upd (fun _ => 0) 51 p0) 52 p1)), (z 0, .inr (10, mo z 0 0 0 0 0 0 0 0 0 0 (-1) 0 p2 0 0 0))] := hD
    refine lv_if_eq (tgt := 27) hx hb dX10_isNight_20 (by decide) (fun _ => ?_) (fun c_8 => absurd c_8 (by decide))
    refine lv_iconst (v := 0) hx hb dX10_isNight_27 (by decide) ?_
    exact fiZ rfl hx hb hr hlk hK hP hD hS dX10_isNight_28 (Nat.le_of_ble_eq_true rfl) (Nat.le_of_ble_eq_true rfl) (⟨rfl, rfl⟩)
  · exact absurd c_7 (by decide)
set_option maxHeartbeats 4000000 in
set_option maxRecDepth 100000 in
theorem c_X10_whyNot_2 (l : Launch) (V : GV) (z : Nat → Nat) (p0 : Int32) (p1 : Int32) (p2 : Int32) : Ct l V yX10_whyNot (.code yX10_whyNot cX10_whyNot 3 (some .int)) 3 [.ref (z 0), .long 2] [(z 1, aI V 3075 (upd (upd (fun _ => 0) 51 p0) 52 p1)), (z 0, .inr (10, mo z 0 0 0 0 0 0 0 0 0 0 (-1) 0 p2 0 0 0))] 0 0 (QI V (fun (r : Int32) (w : va_W) => (r = 1 ∧ w = [(z 1, aI V 3075 (upd (upd (fun _ => 0) 51 p0) 52 p1)), (z 0, .inr (10, mo z 0 0 0 0 0 0 0 0 0 0 (-1) 0 p2 0 0 0))]))) := by
  refine Ct.of (by decide) (Nat.le_of_ble_eq_true rfl) (fun p e s m below meth c A ls hx hb hr hml hown hlk hnm hg hP hK hD hE hA hS hl => ?_)
  have hl : lv_has ls 3 [(0, .ref (z 0)), (1, .long 2)] := hl
  refine lv_lload_n hx hb dX10_whyNot_0 rfl (lv_at hl 1 rfl) ?_
  refine lv_lconst (v := 0) hx hb dX10_whyNot_1 (by decide) ?_
  refine lv_ldc2 (v := 9) hx hb hown (hg _ q_7_97) dX10_whyNot_2 ?_
  refine jnI (wr := [(z 1, aI V 3075 (upd (upd (fun _ => 0) 51 p0) 52 p1)), (z 0, .inr (10, mo z 0 0 0 0 0 0 0 0 0 0 (-1) 0 p2 0 0 0))]) (rnS (rest := []) ⟨hx, hb, hml, hown, hg⟩ (c_X10_within_0 l V 2 0 9) mt_X10_within q_6_114 ⟨Nat.le_of_ble_eq_true rfl, Nat.le_of_ble_eq_true rfl⟩ hK hP hD hS hA hE [] rfl rfl rfl hl.1 rfl (Nat.le_of_ble_eq_true rfl) dX10_whyNot_5 ⟨Nat.le_of_ble_eq_true rfl, Nat.le_of_ble_eq_true rfl⟩) hP hD hS hA [] [0, 1] rfl rfl rfl (by decide) (fun r_1 w H locs hw hP hD hS => ?_)
  rcases hw with ⟨c_2, rfl, rfl⟩ | ⟨c_3, c_4, rfl, rfl⟩ | ⟨c_5, c_6, rfl, rfl⟩
  · exact absurd c_2 (by decide)
  · exact absurd c_4 (by decide)
  · have hP : va_P V.1 vwCl [(z 1, aI V 3075 (upd (upd (fun _ => 0) 51 p0) 52 p1)), (z 0, .inr (10, mo z 0 0 0 0 0 0 0 0 0 0 (-1) 0 p2 0 0 0))] H := hP
    have hD : va_D A [(z 1, aI V 3075 (upd (upd (fun _ => 0) 51 p0) 52 p1)), (z 0, .inr (10, mo z 0 0 0 0 0 0 0 0 0 0 (-1) 0 p2 0 0 0))] := hD
    refine lv_if_eq (tgt := 25) hx hb dX10_whyNot_8 (by decide) (fun c_7 => absurd c_7 (by decide)) (fun _ => ?_)
    refine lv_aload_n hx hb dX10_whyNot_11 rfl (lv_at hl 0 rfl) ?_
    refine lv_lload_n hx hb dX10_whyNot_12 rfl (lv_at hl 1 rfl) ?_
    refine jnI (wr := []) (rnV (rest := []) ⟨hx, hb, hml, hown, hg⟩ (c_X10_isNight_6 l V z p0 p1 p2) mt_X10_isNight q_7_7 ⟨Nat.le_of_ble_eq_true rfl, Nat.le_of_ble_eq_true rfl⟩ hK hP hD hS hA hE [0, 1] rfl rfl 1 rfl rfl rfl rfl hl.1 rfl (Nat.le_of_ble_eq_true rfl) dX10_whyNot_13 ⟨Nat.le_of_ble_eq_true rfl, Nat.le_of_ble_eq_true rfl⟩) hP hD hS hA [0, 1] [] rfl rfl rfl (by decide) (fun r_8 w H locs hw hP hD hS => ?_)
    obtain ⟨rfl, rfl⟩ := hw
    have hP : va_P V.1 vwCl [(z 1, aI V 3075 (upd (upd (fun _ => 0) 51 p0) 52 p1)), (z 0, .inr (10, mo z 0 0 0 0 0 0 0 0 0 0 (-1) 0 p2 0 0 0))] H := hP
    have hD : va_D A [(z 1, aI V 3075 (upd (upd (fun _ => 0) 51 p0) 52 p1)), (z 0, .inr (10, mo z 0 0 0 0 0 0 0 0 0 0 (-1) 0 p2 0 0 0))] := hD
    refine lv_if_eq (tgt := 23) hx hb dX10_whyNot_16 (by decide) (fun _ => ?_) (fun c_9 => absurd c_9 (by decide))
    refine lv_iconst (v := 1) hx hb dX10_whyNot_23 (by decide) ?_
    exact fiI hx hb hr hlk hK hP hD hS dX10_whyNot_24 (Nat.le_of_ble_eq_true rfl) (Nat.le_of_ble_eq_true rfl) (⟨rfl, rfl⟩)
set_option maxHeartbeats 4000000 in
set_option maxRecDepth 100000 in
theorem c_X10_isNight_7 (l : Launch) (V : GV) (z : Nat → Nat) (p0 : Int32) (p1 : Int32) (p2 : Int32) : Ct l V yX10_isNight (.code yX10_isNight cX10_isNight 3 (some .boolean)) 2 [.ref (z 0), .long 3] [(z 1, aI V 3075 (upd (upd (fun _ => 0) 51 p0) 52 p1)), (z 0, .inr (10, mo z 0 0 0 0 0 0 0 0 0 0 (-1) 0 p2 0 0 0))] 0 0 (QI V (fun (r : Int32) (w : va_W) => (r = 0 ∧ w = [(z 1, aI V 3075 (upd (upd (fun _ => 0) 51 p0) 52 p1)), (z 0, .inr (10, mo z 0 0 0 0 0 0 0 0 0 0 (-1) 0 p2 0 0 0))]))) := by
  refine Ct.of (by decide) (Nat.le_of_ble_eq_true rfl) (fun p e s m below meth c A ls hx hb hr hml hown hlk hnm hg hP hK hD hE hA hS hl => ?_)
  have hl : lv_has ls 3 [(0, .ref (z 0)), (1, .long 3)] := hl
  refine lv_lload_n hx hb dX10_isNight_0 rfl (lv_at hl 1 rfl) ?_
  refine lv_lconst (v := 0) hx hb dX10_isNight_1 (by decide) ?_
  refine W.lcmp hx hb dX10_isNight_2 ?_
  refine lv_if_eq (tgt := 23) hx hb dX10_isNight_3 (by decide) (fun c_1 => absurd ((lg_cmp_eq _ _).mp c_1) (by decide)) (fun _ => ?_)
  refine lv_lload_n hx hb dX10_isNight_6 rfl (lv_at hl 1 rfl) ?_
  refine lv_lconst (v := 1) hx hb dX10_isNight_7 (by decide) ?_
  refine lv_aload_n hx hb dX10_isNight_8 rfl (lv_at hl 0 rfl) ?_
  refine va_get (ci := 10) (v := .ref (z 1)) (C := RX10) (T := TX10) (N := 40) hx hb hg inX10 hown hK hP 1 rfl rfl 1 (by decide) (hg _ q_5_225) (fun _ h9 => h9) rfl dX10_isNight_9 ?_
  refine lv_iconst (v := 1) hx hb dX10_isNight_12 (by decide) ?_
  refine va_iald hx hb hK hP 0 0 rfl rfl (vin (by decide +kernel)) dX10_isNight_13 ?_
  refine tpi (y := 0) (rfl) ?_
  refine lv_iconst (v := 1) hx hb dX10_isNight_14 (by decide) ?_
  refine lv_isub hx hb dX10_isNight_15 ?_
  refine tpi (y := (-1)) (by decide +kernel) ?_
  refine lv_i2l (v := (-1)) hx hb dX10_isNight_16 (by decide +kernel) ?_
  refine jnI (wr := [(z 1, aI V 3075 (upd (upd (fun _ => 0) 51 p0) 52 p1)), (z 0, .inr (10, mo z 0 0 0 0 0 0 0 0 0 0 (-1) 0 p2 0 0 0))]) (rnS (rest := []) ⟨hx, hb, hml, hown, hg⟩ (c_X10_within_0 l V 3 1 ((-1))) mt_X10_within q_6_114 ⟨Nat.le_of_ble_eq_true rfl, Nat.le_of_ble_eq_true rfl⟩ hK hP hD hS hA hE [] rfl rfl rfl hl.1 rfl (Nat.le_of_ble_eq_true rfl) dX10_isNight_17 ⟨Nat.le_of_ble_eq_true rfl, Nat.le_of_ble_eq_true rfl⟩) hP hD hS hA [] [0, 1] rfl rfl rfl (by decide) (fun r_2 w H locs hw hP hD hS => ?_)
  rcases hw with ⟨c_3, rfl, rfl⟩ | ⟨c_4, c_5, rfl, rfl⟩ | ⟨c_6, c_7, rfl, rfl⟩
  · exact absurd c_3 (by decide)
  · have hP : va_P V.1 vwCl [(z 1, aI V 3075 (upd (upd (fun _ => 0) 51 p0) 52 p1)), (z 0, .inr (10, mo z 0 0 0 0 0 0 0 0 0 0 (-1) 0 p2 0 0 0))] H := hP
    have hD : va_D A [(z 1, aI V 3075 (upd (upd (fun _ => 0) 51 p0) 52 p1)), (z 0, .inr (10, mo z 0 0 0 0 0 0 0 0 0 0 (-1) 0 p2 0 0 0))] := hD
    refine lv_if_eq (tgt := 27) hx hb dX10_isNight_20 (by decide) (fun _ => ?_) (fun c_8 => absurd c_8 (by decide))
    refine lv_iconst (v := 0) hx hb dX10_isNight_27 (by decide) ?_
    exact fiZ rfl hx hb hr hlk hK hP hD hS dX10_isNight_28 (Nat.le_of_ble_eq_true rfl) (Nat.le_of_ble_eq_true rfl) (⟨rfl, rfl⟩)
  · exact absurd c_7 (by decide)
set_option maxHeartbeats 4000000 in
set_option maxRecDepth 100000 in
theorem c_X10_whyNot_3 (l : Launch) (V : GV) (z : Nat → Nat) (p0 : Int32) (p1 : Int32) (p2 : Int32) : Ct l V yX10_whyNot (.code yX10_whyNot cX10_whyNot 3 (some .int)) 3 [.ref (z 0), .long 3] [(z 1, aI V 3075 (upd (upd (fun _ => 0) 51 p0) 52 p1)), (z 0, .inr (10, mo z 0 0 0 0 0 0 0 0 0 0 (-1) 0 p2 0 0 0))] 0 0 (QI V (fun (r : Int32) (w : va_W) => (r = 1 ∧ w = [(z 1, aI V 3075 (upd (upd (fun _ => 0) 51 p0) 52 p1)), (z 0, .inr (10, mo z 0 0 0 0 0 0 0 0 0 0 (-1) 0 p2 0 0 0))]))) := by
  refine Ct.of (by decide) (Nat.le_of_ble_eq_true rfl) (fun p e s m below meth c A ls hx hb hr hml hown hlk hnm hg hP hK hD hE hA hS hl => ?_)
  have hl : lv_has ls 3 [(0, .ref (z 0)), (1, .long 3)] := hl
  refine lv_lload_n hx hb dX10_whyNot_0 rfl (lv_at hl 1 rfl) ?_
  refine lv_lconst (v := 0) hx hb dX10_whyNot_1 (by decide) ?_
  refine lv_ldc2 (v := 9) hx hb hown (hg _ q_7_97) dX10_whyNot_2 ?_
  refine jnI (wr := [(z 1, aI V 3075 (upd (upd (fun _ => 0) 51 p0) 52 p1)), (z 0, .inr (10, mo z 0 0 0 0 0 0 0 0 0 0 (-1) 0 p2 0 0 0))]) (rnS (rest := []) ⟨hx, hb, hml, hown, hg⟩ (c_X10_within_0 l V 3 0 9) mt_X10_within q_6_114 ⟨Nat.le_of_ble_eq_true rfl, Nat.le_of_ble_eq_true rfl⟩ hK hP hD hS hA hE [] rfl rfl rfl hl.1 rfl (Nat.le_of_ble_eq_true rfl) dX10_whyNot_5 ⟨Nat.le_of_ble_eq_true rfl, Nat.le_of_ble_eq_true rfl⟩) hP hD hS hA [] [0, 1] rfl rfl rfl (by decide) (fun r_1 w H locs hw hP hD hS => ?_)
  rcases hw with ⟨c_2, rfl, rfl⟩ | ⟨c_3, c_4, rfl, rfl⟩ | ⟨c_5, c_6, rfl, rfl⟩
  · exact absurd c_2 (by decide)
  · exact absurd c_4 (by decide)
  · have hP : va_P V.1 vwCl [(z 1, aI V 3075 (upd (upd (fun _ => 0) 51 p0) 52 p1)), (z 0, .inr (10, mo z 0 0 0 0 0 0 0 0 0 0 (-1) 0 p2 0 0 0))] H := hP
    have hD : va_D A [(z 1, aI V 3075 (upd (upd (fun _ => 0) 51 p0) 52 p1)), (z 0, .inr (10, mo z 0 0 0 0 0 0 0 0 0 0 (-1) 0 p2 0 0 0))] := hD
    refine lv_if_eq (tgt := 25) hx hb dX10_whyNot_8 (by decide) (fun c_7 => absurd c_7 (by decide)) (fun _ => ?_)
    refine lv_aload_n hx hb dX10_whyNot_11 rfl (lv_at hl 0 rfl) ?_
    refine lv_lload_n hx hb dX10_whyNot_12 rfl (lv_at hl 1 rfl) ?_
    refine jnI (wr := []) (rnV (rest := []) ⟨hx, hb, hml, hown, hg⟩ (c_X10_isNight_7 l V z p0 p1 p2) mt_X10_isNight q_7_7 ⟨Nat.le_of_ble_eq_true rfl, Nat.le_of_ble_eq_true rfl⟩ hK hP hD hS hA hE [0, 1] rfl rfl 1 rfl rfl rfl rfl hl.1 rfl (Nat.le_of_ble_eq_true rfl) dX10_whyNot_13 ⟨Nat.le_of_ble_eq_true rfl, Nat.le_of_ble_eq_true rfl⟩) hP hD hS hA [0, 1] [] rfl rfl rfl (by decide) (fun r_8 w H locs hw hP hD hS => ?_)
    obtain ⟨rfl, rfl⟩ := hw
    have hP : va_P V.1 vwCl [(z 1, aI V 3075 (upd (upd (fun _ => 0) 51 p0) 52 p1)), (z 0, .inr (10, mo z 0 0 0 0 0 0 0 0 0 0 (-1) 0 p2 0 0 0))] H := hP
    have hD : va_D A [(z 1, aI V 3075 (upd (upd (fun _ => 0) 51 p0) 52 p1)), (z 0, .inr (10, mo z 0 0 0 0 0 0 0 0 0 0 (-1) 0 p2 0 0 0))] := hD
    refine lv_if_eq (tgt := 23) hx hb dX10_whyNot_16 (by decide) (fun _ => ?_) (fun c_9 => absurd c_9 (by decide))
    refine lv_iconst (v := 1) hx hb dX10_whyNot_23 (by decide) ?_
    exact fiI hx hb hr hlk hK hP hD hS dX10_whyNot_24 (Nat.le_of_ble_eq_true rfl) (Nat.le_of_ble_eq_true rfl) (⟨rfl, rfl⟩)
set_option maxHeartbeats 4000000 in
set_option maxRecDepth 100000 in
theorem c_X10_isHill_1 (l : Launch) (V : GV) (z : Nat → Nat) (p0 : Int32) (p1 : Int32) (p2 : Int32) : Ct l V yX10_isHill (.code yX10_isHill cX10_isHill 3 (some .boolean)) 2 [.ref (z 0), .long 0] [(z 1, aI V 3075 (upd (upd (fun _ => 0) 51 p0) 52 p1)), (z 0, .inr (10, mo z 0 0 0 0 0 0 0 0 0 0 (-1) 0 p2 0 0 0))] 0 0 (QI V (fun (r : Int32) (w : va_W) => (r = 0 ∧ w = [(z 1, aI V 3075 (upd (upd (fun _ => 0) 51 p0) 52 p1)), (z 0, .inr (10, mo z 0 0 0 0 0 0 0 0 0 0 (-1) 0 p2 0 0 0))]))) := by
  refine Ct.of (by decide) (Nat.le_of_ble_eq_true rfl) (fun p e s m below meth c A ls hx hb hr hml hown hlk hnm hg hP hK hD hE hA hS hl => ?_)
  have hl : lv_has ls 3 [(0, .ref (z 0)), (1, .long 0)] := hl
  refine lv_lload_n hx hb dX10_isHill_0 rfl (lv_at hl 1 rfl) ?_
  refine lv_lconst (v := 0) hx hb dX10_isHill_1 (by decide) ?_
  refine lv_aload_n hx hb dX10_isHill_2 rfl (lv_at hl 0 rfl) ?_
  refine va_get (ci := 10) (v := .ref (z 1)) (C := RX10) (T := TX10) (N := 40) hx hb hg inX10 hown hK hP 1 rfl rfl 1 (by decide) (hg _ q_5_225) (fun _ h9 => h9) rfl dX10_isHill_3 ?_
  refine lv_iconst (v := 1) hx hb dX10_isHill_6 (by decide) ?_
  refine va_iald hx hb hK hP 0 0 rfl rfl (vin (by decide +kernel)) dX10_isHill_7 ?_
  refine tpi (y := 0) (rfl) ?_
  refine lv_iconst (v := 1) hx hb dX10_isHill_8 (by decide) ?_
  refine lv_isub hx hb dX10_isHill_9 ?_
  refine tpi (y := (-1)) (by decide +kernel) ?_
  refine lv_i2l (v := (-1)) hx hb dX10_isHill_10 (by decide +kernel) ?_
  refine jnI (wr := [(z 1, aI V 3075 (upd (upd (fun _ => 0) 51 p0) 52 p1)), (z 0, .inr (10, mo z 0 0 0 0 0 0 0 0 0 0 (-1) 0 p2 0 0 0))]) (rnS (rest := []) ⟨hx, hb, hml, hown, hg⟩ (c_X10_within_0 l V 0 0 ((-1))) mt_X10_within q_6_114 ⟨Nat.le_of_ble_eq_true rfl, Nat.le_of_ble_eq_true rfl⟩ hK hP hD hS hA hE [] rfl rfl rfl hl.1 rfl (Nat.le_of_ble_eq_true rfl) dX10_isHill_11 ⟨Nat.le_of_ble_eq_true rfl, Nat.le_of_ble_eq_true rfl⟩) hP hD hS hA [] [0, 1] rfl rfl rfl (by decide) (fun r_1 w H locs hw hP hD hS => ?_)
  rcases hw with ⟨c_2, rfl, rfl⟩ | ⟨c_3, c_4, rfl, rfl⟩ | ⟨c_5, c_6, rfl, rfl⟩
  · exact absurd c_2 (by decide)
  · have hP : va_P V.1 vwCl [(z 1, aI V 3075 (upd (upd (fun _ => 0) 51 p0) 52 p1)), (z 0, .inr (10, mo z 0 0 0 0 0 0 0 0 0 0 (-1) 0 p2 0 0 0))] H := hP
    have hD : va_D A [(z 1, aI V 3075 (upd (upd (fun _ => 0) 51 p0) 52 p1)), (z 0, .inr (10, mo z 0 0 0 0 0 0 0 0 0 0 (-1) 0 p2 0 0 0))] := hD
    exact fiZ rfl hx hb hr hlk hK hP hD hS dX10_isHill_14 (Nat.le_of_ble_eq_true rfl) (Nat.le_of_ble_eq_true rfl) (⟨rfl, rfl⟩)
  · exact absurd c_6 (by decide)
set_option maxHeartbeats 4000000 in
set_option maxRecDepth 100000 in
theorem c_X10_whySteal_1 (l : Launch) (V : GV) (z : Nat → Nat) (p0 : Int32) (p1 : Int32) (p2 : Int32) : Ct l V yX10_whySteal (.code yX10_whySteal cX10_whySteal 3 (some .int)) 3 [.ref (z 0), .long 0] [(z 1, aI V 3075 (upd (upd (fun _ => 0) 51 p0) 52 p1)), (z 0, .inr (10, mo z 0 0 0 0 0 0 0 0 0 0 (-1) 0 p2 0 0 0))] 0 0 (QI V (fun (r : Int32) (w : va_W) => (r = 1 ∧ w = [(z 1, aI V 3075 (upd (upd (fun _ => 0) 51 p0) 52 p1)), (z 0, .inr (10, mo z 0 0 0 0 0 0 0 0 0 0 (-1) 0 p2 0 0 0))]))) := by
  refine Ct.of (by decide) (Nat.le_of_ble_eq_true rfl) (fun p e s m below meth c A ls hx hb hr hml hown hlk hnm hg hP hK hD hE hA hS hl => ?_)
  have hl : lv_has ls 3 [(0, .ref (z 0)), (1, .long 0)] := hl
  refine lv_aload_n hx hb dX10_whySteal_0 rfl (lv_at hl 0 rfl) ?_
  refine lv_lload_n hx hb dX10_whySteal_1 rfl (lv_at hl 1 rfl) ?_
  refine jnI (wr := []) (rnV (rest := []) ⟨hx, hb, hml, hown, hg⟩ (c_X10_isHill_1 l V z p0 p1 p2) mt_X10_isHill q_6_235 ⟨Nat.le_of_ble_eq_true rfl, Nat.le_of_ble_eq_true rfl⟩ hK hP hD hS hA hE [0, 1] rfl rfl 1 rfl rfl rfl rfl hl.1 rfl (Nat.le_of_ble_eq_true rfl) dX10_whySteal_2 ⟨Nat.le_of_ble_eq_true rfl, Nat.le_of_ble_eq_true rfl⟩) hP hD hS hA [0, 1] [] rfl rfl rfl (by decide) (fun r_1 w H locs hw hP hD hS => ?_)
  obtain ⟨rfl, rfl⟩ := hw
  have hP : va_P V.1 vwCl [(z 1, aI V 3075 (upd (upd (fun _ => 0) 51 p0) 52 p1)), (z 0, .inr (10, mo z 0 0 0 0 0 0 0 0 0 0 (-1) 0 p2 0 0 0))] H := hP
  have hD : va_D A [(z 1, aI V 3075 (upd (upd (fun _ => 0) 51 p0) 52 p1)), (z 0, .inr (10, mo z 0 0 0 0 0 0 0 0 0 0 (-1) 0 p2 0 0 0))] := hD
  refine lv_if_ne (tgt := 12) hx hb dX10_whySteal_5 (by decide) (fun c_2 => absurd c_2 (by decide)) (fun _ => ?_)
  refine lv_iconst (v := 1) hx hb dX10_whySteal_8 (by decide) ?_
  refine lv_goto (tgt := 30) hx hb dX10_whySteal_9 (by decide) ?_
  exact fiI hx hb hr hlk hK hP hD hS dX10_whySteal_30 (Nat.le_of_ble_eq_true rfl) (Nat.le_of_ble_eq_true rfl) (⟨rfl, rfl⟩)
theorem dX10_whyNot_25 : decode cX10_whyNot 25 = .ok (.lload_n 1, 1) := by decide +kernel
theorem dX10_whyNot_26 : decode cX10_whyNot 26 = .ok (.ldc2_w 298, 3) := by decide +kernel
theorem q_7_120 : Cond.constantLong "BeaconDelayModel" 300 (19 : Int64) ∈ gw := gw_7 (i := 120) (by decide +kernel) rfl
theorem dX10_whyNot_29 : decode cX10_whyNot 29 = .ok (.ldc2_w 300, 3) := by decide +kernel
theorem dX10_whyNot_32 : decode cX10_whyNot 32 = .ok (.invokestatic 159, 3) := by decide +kernel
theorem dX10_whyNot_35 : decode cX10_whyNot 35 = .ok (.ifCond .eq 15, 3) := by decide +kernel
theorem dX10_whyNot_38 : decode cX10_whyNot 38 = .ok (.aload_n 0, 1) := by decide +kernel
theorem dX10_whyNot_39 : decode cX10_whyNot 39 = .ok (.lload_n 1, 1) := by decide +kernel
theorem dX10_whyNot_40 : decode cX10_whyNot 40 = .ok (.ldc2_w 298, 3) := by decide +kernel
theorem dX10_whyNot_43 : decode cX10_whyNot 43 = .ok (.lsub, 1) := by decide +kernel
theorem dX10_whyNot_44 : decode cX10_whyNot 44 = .ok (.invokevirtual 289, 3) := by decide +kernel
theorem dX10_whyNot_47 : decode cX10_whyNot 47 = .ok (.goto 21, 3) := by decide +kernel
theorem dX10_whyNot_68 : decode cX10_whyNot 68 = .ok (.ireturn, 1) := by decide +kernel
set_option maxHeartbeats 4000000 in
set_option maxRecDepth 100000 in
theorem c_X10_whyNot_4 (l : Launch) (V : GV) (z : Nat → Nat) (p0 : Int32) (p1 : Int32) (p2 : Int32) : Ct l V yX10_whyNot (.code yX10_whyNot cX10_whyNot 3 (some .int)) 4 [.ref (z 0), .long 10] [(z 1, aI V 3075 (upd (upd (fun _ => 0) 51 p0) 52 p1)), (z 0, .inr (10, mo z 0 0 0 0 0 0 0 0 0 0 (-1) 0 p2 0 0 0))] 0 0 (QI V (fun (r : Int32) (w : va_W) => (r = 1 ∧ w = [(z 1, aI V 3075 (upd (upd (fun _ => 0) 51 p0) 52 p1)), (z 0, .inr (10, mo z 0 0 0 0 0 0 0 0 0 0 (-1) 0 p2 0 0 0))]))) := by
  refine Ct.of (by decide) (Nat.le_of_ble_eq_true rfl) (fun p e s m below meth c A ls hx hb hr hml hown hlk hnm hg hP hK hD hE hA hS hl => ?_)
  have hl : lv_has ls 3 [(0, .ref (z 0)), (1, .long 10)] := hl
  refine lv_lload_n hx hb dX10_whyNot_0 rfl (lv_at hl 1 rfl) ?_
  refine lv_lconst (v := 0) hx hb dX10_whyNot_1 (by decide) ?_
  refine lv_ldc2 (v := 9) hx hb hown (hg _ q_7_97) dX10_whyNot_2 ?_
  refine jnI (wr := [(z 1, aI V 3075 (upd (upd (fun _ => 0) 51 p0) 52 p1)), (z 0, .inr (10, mo z 0 0 0 0 0 0 0 0 0 0 (-1) 0 p2 0 0 0))]) (rnS (rest := []) ⟨hx, hb, hml, hown, hg⟩ (c_X10_within_0 l V 10 0 9) mt_X10_within q_6_114 ⟨Nat.le_of_ble_eq_true rfl, Nat.le_of_ble_eq_true rfl⟩ hK hP hD hS hA hE [] rfl rfl rfl hl.1 rfl (Nat.le_of_ble_eq_true rfl) dX10_whyNot_5 ⟨Nat.le_of_ble_eq_true rfl, Nat.le_of_ble_eq_true rfl⟩) hP hD hS hA [] [0, 1] rfl rfl rfl (by decide) (fun r_1 w H locs hw hP hD hS => ?_)
  rcases hw with ⟨c_2, rfl, rfl⟩ | ⟨c_3, c_4, rfl, rfl⟩ | ⟨c_5, c_6, rfl, rfl⟩
  · exact absurd c_2 (by decide)
  · have hP : va_P V.1 vwCl [(z 1, aI V 3075 (upd (upd (fun _ => 0) 51 p0) 52 p1)), (z 0, .inr (10, mo z 0 0 0 0 0 0 0 0 0 0 (-1) 0 p2 0 0 0))] H := hP
    have hD : va_D A [(z 1, aI V 3075 (upd (upd (fun _ => 0) 51 p0) 52 p1)), (z 0, .inr (10, mo z 0 0 0 0 0 0 0 0 0 0 (-1) 0 p2 0 0 0))] := hD
    refine lv_if_eq (tgt := 25) hx hb dX10_whyNot_8 (by decide) (fun _ => ?_) (fun c_7 => absurd c_7 (by decide))
    refine lv_lload_n hx hb dX10_whyNot_25 rfl (lv_at hl 1 rfl) ?_
    refine lv_ldc2 (v := 10) hx hb hown (hg _ q_7_102) dX10_whyNot_26 ?_
    refine lv_ldc2 (v := 19) hx hb hown (hg _ q_7_120) dX10_whyNot_29 ?_
    refine jnI (wr := [(z 1, aI V 3075 (upd (upd (fun _ => 0) 51 p0) 52 p1)), (z 0, .inr (10, mo z 0 0 0 0 0 0 0 0 0 0 (-1) 0 p2 0 0 0))]) (rnS (rest := []) ⟨hx, hb, hml, hown, hg⟩ (c_X10_within_0 l V 10 10 19) mt_X10_within q_6_114 ⟨Nat.le_of_ble_eq_true rfl, Nat.le_of_ble_eq_true rfl⟩ hK hP hD hS hA hE [] rfl rfl rfl hl.1 rfl (Nat.le_of_ble_eq_true rfl) dX10_whyNot_32 ⟨Nat.le_of_ble_eq_true rfl, Nat.le_of_ble_eq_true rfl⟩) hP hD hS hA [] [0, 1] rfl rfl rfl (by decide) (fun r_8 w H locs hw hP hD hS => ?_)
    rcases hw with ⟨c_9, rfl, rfl⟩ | ⟨c_10, c_11, rfl, rfl⟩ | ⟨c_12, c_13, rfl, rfl⟩
    · exact absurd c_9 (by decide)
    · exact absurd c_11 (by decide)
    · have hP : va_P V.1 vwCl [(z 1, aI V 3075 (upd (upd (fun _ => 0) 51 p0) 52 p1)), (z 0, .inr (10, mo z 0 0 0 0 0 0 0 0 0 0 (-1) 0 p2 0 0 0))] H := hP
      have hD : va_D A [(z 1, aI V 3075 (upd (upd (fun _ => 0) 51 p0) 52 p1)), (z 0, .inr (10, mo z 0 0 0 0 0 0 0 0 0 0 (-1) 0 p2 0 0 0))] := hD
      refine lv_if_eq (tgt := 50) hx hb dX10_whyNot_35 (by decide) (fun c_14 => absurd c_14 (by decide)) (fun _ => ?_)
      refine lv_aload_n hx hb dX10_whyNot_38 rfl (lv_at hl 0 rfl) ?_
      refine lv_lload_n hx hb dX10_whyNot_39 rfl (lv_at hl 1 rfl) ?_
      refine lv_ldc2 (v := 10) hx hb hown (hg _ q_7_102) dX10_whyNot_40 ?_
      refine lv_lsub hx hb dX10_whyNot_43 ?_
      refine tpl (y := 0) (by decide +kernel) ?_
      refine jnI (wr := []) (rnV (rest := []) ⟨hx, hb, hml, hown, hg⟩ (c_X10_whySteal_1 l V z p0 p1 p2) mt_X10_whySteal q_7_85 ⟨Nat.le_of_ble_eq_true rfl, Nat.le_of_ble_eq_true rfl⟩ hK hP hD hS hA hE [0, 1] rfl rfl 1 rfl rfl rfl rfl hl.1 rfl (Nat.le_of_ble_eq_true rfl) dX10_whyNot_44 ⟨Nat.le_of_ble_eq_true rfl, Nat.le_of_ble_eq_true rfl⟩) hP hD hS hA [0, 1] [] rfl rfl rfl (by decide) (fun r_15 w H locs hw hP hD hS => ?_)
      obtain ⟨rfl, rfl⟩ := hw
      have hP : va_P V.1 vwCl [(z 1, aI V 3075 (upd (upd (fun _ => 0) 51 p0) 52 p1)), (z 0, .inr (10, mo z 0 0 0 0 0 0 0 0 0 0 (-1) 0 p2 0 0 0))] H := hP
      have hD : va_D A [(z 1, aI V 3075 (upd (upd (fun _ => 0) 51 p0) 52 p1)), (z 0, .inr (10, mo z 0 0 0 0 0 0 0 0 0 0 (-1) 0 p2 0 0 0))] := hD
      refine lv_goto (tgt := 68) hx hb dX10_whyNot_47 (by decide) ?_
      exact fiI hx hb hr hlk hK hP hD hS dX10_whyNot_68 (Nat.le_of_ble_eq_true rfl) (Nat.le_of_ble_eq_true rfl) (⟨rfl, rfl⟩)
  · exact absurd c_6 (by decide)
set_option maxHeartbeats 4000000 in
set_option maxRecDepth 100000 in
theorem c_X10_isHill_2 (l : Launch) (V : GV) (z : Nat → Nat) (p0 : Int32) (p1 : Int32) (p2 : Int32) : Ct l V yX10_isHill (.code yX10_isHill cX10_isHill 3 (some .boolean)) 2 [.ref (z 0), .long 1] [(z 1, aI V 3075 (upd (upd (fun _ => 0) 51 p0) 52 p1)), (z 0, .inr (10, mo z 0 0 0 0 0 0 0 0 0 0 (-1) 0 p2 0 0 0))] 0 0 (QI V (fun (r : Int32) (w : va_W) => (r = 0 ∧ w = [(z 1, aI V 3075 (upd (upd (fun _ => 0) 51 p0) 52 p1)), (z 0, .inr (10, mo z 0 0 0 0 0 0 0 0 0 0 (-1) 0 p2 0 0 0))]))) := by
  refine Ct.of (by decide) (Nat.le_of_ble_eq_true rfl) (fun p e s m below meth c A ls hx hb hr hml hown hlk hnm hg hP hK hD hE hA hS hl => ?_)
  have hl : lv_has ls 3 [(0, .ref (z 0)), (1, .long 1)] := hl
  refine lv_lload_n hx hb dX10_isHill_0 rfl (lv_at hl 1 rfl) ?_
  refine lv_lconst (v := 0) hx hb dX10_isHill_1 (by decide) ?_
  refine lv_aload_n hx hb dX10_isHill_2 rfl (lv_at hl 0 rfl) ?_
  refine va_get (ci := 10) (v := .ref (z 1)) (C := RX10) (T := TX10) (N := 40) hx hb hg inX10 hown hK hP 1 rfl rfl 1 (by decide) (hg _ q_5_225) (fun _ h9 => h9) rfl dX10_isHill_3 ?_
  refine lv_iconst (v := 1) hx hb dX10_isHill_6 (by decide) ?_
  refine va_iald hx hb hK hP 0 0 rfl rfl (vin (by decide +kernel)) dX10_isHill_7 ?_
  refine tpi (y := 0) (rfl) ?_
  refine lv_iconst (v := 1) hx hb dX10_isHill_8 (by decide) ?_
  refine lv_isub hx hb dX10_isHill_9 ?_
  refine tpi (y := (-1)) (by decide +kernel) ?_
  refine lv_i2l (v := (-1)) hx hb dX10_isHill_10 (by decide +kernel) ?_
  refine jnI (wr := [(z 1, aI V 3075 (upd (upd (fun _ => 0) 51 p0) 52 p1)), (z 0, .inr (10, mo z 0 0 0 0 0 0 0 0 0 0 (-1) 0 p2 0 0 0))]) (rnS (rest := []) ⟨hx, hb, hml, hown, hg⟩ (c_X10_within_0 l V 1 0 ((-1))) mt_X10_within q_6_114 ⟨Nat.le_of_ble_eq_true rfl, Nat.le_of_ble_eq_true rfl⟩ hK hP hD hS hA hE [] rfl rfl rfl hl.1 rfl (Nat.le_of_ble_eq_true rfl) dX10_isHill_11 ⟨Nat.le_of_ble_eq_true rfl, Nat.le_of_ble_eq_true rfl⟩) hP hD hS hA [] [0, 1] rfl rfl rfl (by decide) (fun r_1 w H locs hw hP hD hS => ?_)
  rcases hw with ⟨c_2, rfl, rfl⟩ | ⟨c_3, c_4, rfl, rfl⟩ | ⟨c_5, c_6, rfl, rfl⟩
  · exact absurd c_2 (by decide)
  · have hP : va_P V.1 vwCl [(z 1, aI V 3075 (upd (upd (fun _ => 0) 51 p0) 52 p1)), (z 0, .inr (10, mo z 0 0 0 0 0 0 0 0 0 0 (-1) 0 p2 0 0 0))] H := hP
    have hD : va_D A [(z 1, aI V 3075 (upd (upd (fun _ => 0) 51 p0) 52 p1)), (z 0, .inr (10, mo z 0 0 0 0 0 0 0 0 0 0 (-1) 0 p2 0 0 0))] := hD
    exact fiZ rfl hx hb hr hlk hK hP hD hS dX10_isHill_14 (Nat.le_of_ble_eq_true rfl) (Nat.le_of_ble_eq_true rfl) (⟨rfl, rfl⟩)
  · exact absurd c_6 (by decide)
set_option maxHeartbeats 4000000 in
set_option maxRecDepth 100000 in
theorem c_X10_whySteal_2 (l : Launch) (V : GV) (z : Nat → Nat) (p0 : Int32) (p1 : Int32) (p2 : Int32) : Ct l V yX10_whySteal (.code yX10_whySteal cX10_whySteal 3 (some .int)) 3 [.ref (z 0), .long 1] [(z 1, aI V 3075 (upd (upd (fun _ => 0) 51 p0) 52 p1)), (z 0, .inr (10, mo z 0 0 0 0 0 0 0 0 0 0 (-1) 0 p2 0 0 0))] 0 0 (QI V (fun (r : Int32) (w : va_W) => (r = 1 ∧ w = [(z 1, aI V 3075 (upd (upd (fun _ => 0) 51 p0) 52 p1)), (z 0, .inr (10, mo z 0 0 0 0 0 0 0 0 0 0 (-1) 0 p2 0 0 0))]))) := by
  refine Ct.of (by decide) (Nat.le_of_ble_eq_true rfl) (fun p e s m below meth c A ls hx hb hr hml hown hlk hnm hg hP hK hD hE hA hS hl => ?_)
  have hl : lv_has ls 3 [(0, .ref (z 0)), (1, .long 1)] := hl
  refine lv_aload_n hx hb dX10_whySteal_0 rfl (lv_at hl 0 rfl) ?_
  refine lv_lload_n hx hb dX10_whySteal_1 rfl (lv_at hl 1 rfl) ?_
  refine jnI (wr := []) (rnV (rest := []) ⟨hx, hb, hml, hown, hg⟩ (c_X10_isHill_2 l V z p0 p1 p2) mt_X10_isHill q_6_235 ⟨Nat.le_of_ble_eq_true rfl, Nat.le_of_ble_eq_true rfl⟩ hK hP hD hS hA hE [0, 1] rfl rfl 1 rfl rfl rfl rfl hl.1 rfl (Nat.le_of_ble_eq_true rfl) dX10_whySteal_2 ⟨Nat.le_of_ble_eq_true rfl, Nat.le_of_ble_eq_true rfl⟩) hP hD hS hA [0, 1] [] rfl rfl rfl (by decide) (fun r_1 w H locs hw hP hD hS => ?_)
  obtain ⟨rfl, rfl⟩ := hw
  have hP : va_P V.1 vwCl [(z 1, aI V 3075 (upd (upd (fun _ => 0) 51 p0) 52 p1)), (z 0, .inr (10, mo z 0 0 0 0 0 0 0 0 0 0 (-1) 0 p2 0 0 0))] H := hP
  have hD : va_D A [(z 1, aI V 3075 (upd (upd (fun _ => 0) 51 p0) 52 p1)), (z 0, .inr (10, mo z 0 0 0 0 0 0 0 0 0 0 (-1) 0 p2 0 0 0))] := hD
  refine lv_if_ne (tgt := 12) hx hb dX10_whySteal_5 (by decide) (fun c_2 => absurd c_2 (by decide)) (fun _ => ?_)
  refine lv_iconst (v := 1) hx hb dX10_whySteal_8 (by decide) ?_
  refine lv_goto (tgt := 30) hx hb dX10_whySteal_9 (by decide) ?_
  exact fiI hx hb hr hlk hK hP hD hS dX10_whySteal_30 (Nat.le_of_ble_eq_true rfl) (Nat.le_of_ble_eq_true rfl) (⟨rfl, rfl⟩)
set_option maxHeartbeats 4000000 in
set_option maxRecDepth 100000 in
theorem c_X10_whyNot_5 (l : Launch) (V : GV) (z : Nat → Nat) (p0 : Int32) (p1 : Int32) (p2 : Int32) : Ct l V yX10_whyNot (.code yX10_whyNot cX10_whyNot 3 (some .int)) 4 [.ref (z 0), .long 11] [(z 1, aI V 3075 (upd (upd (fun _ => 0) 51 p0) 52 p1)), (z 0, .inr (10, mo z 0 0 0 0 0 0 0 0 0 0 (-1) 0 p2 0 0 0))] 0 0 (QI V (fun (r : Int32) (w : va_W) => (r = 1 ∧ w = [(z 1, aI V 3075 (upd (upd (fun _ => 0) 51 p0) 52 p1)), (z 0, .inr (10, mo z 0 0 0 0 0 0 0 0 0 0 (-1) 0 p2 0 0 0))]))) := by
  refine Ct.of (by decide) (Nat.le_of_ble_eq_true rfl) (fun p e s m below meth c A ls hx hb hr hml hown hlk hnm hg hP hK hD hE hA hS hl => ?_)
  have hl : lv_has ls 3 [(0, .ref (z 0)), (1, .long 11)] := hl
  refine lv_lload_n hx hb dX10_whyNot_0 rfl (lv_at hl 1 rfl) ?_
  refine lv_lconst (v := 0) hx hb dX10_whyNot_1 (by decide) ?_
  refine lv_ldc2 (v := 9) hx hb hown (hg _ q_7_97) dX10_whyNot_2 ?_
  refine jnI (wr := [(z 1, aI V 3075 (upd (upd (fun _ => 0) 51 p0) 52 p1)), (z 0, .inr (10, mo z 0 0 0 0 0 0 0 0 0 0 (-1) 0 p2 0 0 0))]) (rnS (rest := []) ⟨hx, hb, hml, hown, hg⟩ (c_X10_within_0 l V 11 0 9) mt_X10_within q_6_114 ⟨Nat.le_of_ble_eq_true rfl, Nat.le_of_ble_eq_true rfl⟩ hK hP hD hS hA hE [] rfl rfl rfl hl.1 rfl (Nat.le_of_ble_eq_true rfl) dX10_whyNot_5 ⟨Nat.le_of_ble_eq_true rfl, Nat.le_of_ble_eq_true rfl⟩) hP hD hS hA [] [0, 1] rfl rfl rfl (by decide) (fun r_1 w H locs hw hP hD hS => ?_)
  rcases hw with ⟨c_2, rfl, rfl⟩ | ⟨c_3, c_4, rfl, rfl⟩ | ⟨c_5, c_6, rfl, rfl⟩
  · exact absurd c_2 (by decide)
  · have hP : va_P V.1 vwCl [(z 1, aI V 3075 (upd (upd (fun _ => 0) 51 p0) 52 p1)), (z 0, .inr (10, mo z 0 0 0 0 0 0 0 0 0 0 (-1) 0 p2 0 0 0))] H := hP
    have hD : va_D A [(z 1, aI V 3075 (upd (upd (fun _ => 0) 51 p0) 52 p1)), (z 0, .inr (10, mo z 0 0 0 0 0 0 0 0 0 0 (-1) 0 p2 0 0 0))] := hD
    refine lv_if_eq (tgt := 25) hx hb dX10_whyNot_8 (by decide) (fun _ => ?_) (fun c_7 => absurd c_7 (by decide))
    refine lv_lload_n hx hb dX10_whyNot_25 rfl (lv_at hl 1 rfl) ?_
    refine lv_ldc2 (v := 10) hx hb hown (hg _ q_7_102) dX10_whyNot_26 ?_
    refine lv_ldc2 (v := 19) hx hb hown (hg _ q_7_120) dX10_whyNot_29 ?_
    refine jnI (wr := [(z 1, aI V 3075 (upd (upd (fun _ => 0) 51 p0) 52 p1)), (z 0, .inr (10, mo z 0 0 0 0 0 0 0 0 0 0 (-1) 0 p2 0 0 0))]) (rnS (rest := []) ⟨hx, hb, hml, hown, hg⟩ (c_X10_within_0 l V 11 10 19) mt_X10_within q_6_114 ⟨Nat.le_of_ble_eq_true rfl, Nat.le_of_ble_eq_true rfl⟩ hK hP hD hS hA hE [] rfl rfl rfl hl.1 rfl (Nat.le_of_ble_eq_true rfl) dX10_whyNot_32 ⟨Nat.le_of_ble_eq_true rfl, Nat.le_of_ble_eq_true rfl⟩) hP hD hS hA [] [0, 1] rfl rfl rfl (by decide) (fun r_8 w H locs hw hP hD hS => ?_)
    rcases hw with ⟨c_9, rfl, rfl⟩ | ⟨c_10, c_11, rfl, rfl⟩ | ⟨c_12, c_13, rfl, rfl⟩
    · exact absurd c_9 (by decide)
    · exact absurd c_11 (by decide)
    · have hP : va_P V.1 vwCl [(z 1, aI V 3075 (upd (upd (fun _ => 0) 51 p0) 52 p1)), (z 0, .inr (10, mo z 0 0 0 0 0 0 0 0 0 0 (-1) 0 p2 0 0 0))] H := hP
      have hD : va_D A [(z 1, aI V 3075 (upd (upd (fun _ => 0) 51 p0) 52 p1)), (z 0, .inr (10, mo z 0 0 0 0 0 0 0 0 0 0 (-1) 0 p2 0 0 0))] := hD
      refine lv_if_eq (tgt := 50) hx hb dX10_whyNot_35 (by decide) (fun c_14 => absurd c_14 (by decide)) (fun _ => ?_)
      refine lv_aload_n hx hb dX10_whyNot_38 rfl (lv_at hl 0 rfl) ?_
      refine lv_lload_n hx hb dX10_whyNot_39 rfl (lv_at hl 1 rfl) ?_
      refine lv_ldc2 (v := 10) hx hb hown (hg _ q_7_102) dX10_whyNot_40 ?_
      refine lv_lsub hx hb dX10_whyNot_43 ?_
      refine tpl (y := 1) (by decide +kernel) ?_
      refine jnI (wr := []) (rnV (rest := []) ⟨hx, hb, hml, hown, hg⟩ (c_X10_whySteal_2 l V z p0 p1 p2) mt_X10_whySteal q_7_85 ⟨Nat.le_of_ble_eq_true rfl, Nat.le_of_ble_eq_true rfl⟩ hK hP hD hS hA hE [0, 1] rfl rfl 1 rfl rfl rfl rfl hl.1 rfl (Nat.le_of_ble_eq_true rfl) dX10_whyNot_44 ⟨Nat.le_of_ble_eq_true rfl, Nat.le_of_ble_eq_true rfl⟩) hP hD hS hA [0, 1] [] rfl rfl rfl (by decide) (fun r_15 w H locs hw hP hD hS => ?_)
      obtain ⟨rfl, rfl⟩ := hw
      have hP : va_P V.1 vwCl [(z 1, aI V 3075 (upd (upd (fun _ => 0) 51 p0) 52 p1)), (z 0, .inr (10, mo z 0 0 0 0 0 0 0 0 0 0 (-1) 0 p2 0 0 0))] H := hP
      have hD : va_D A [(z 1, aI V 3075 (upd (upd (fun _ => 0) 51 p0) 52 p1)), (z 0, .inr (10, mo z 0 0 0 0 0 0 0 0 0 0 (-1) 0 p2 0 0 0))] := hD
      refine lv_goto (tgt := 68) hx hb dX10_whyNot_47 (by decide) ?_
      exact fiI hx hb hr hlk hK hP hD hS dX10_whyNot_68 (Nat.le_of_ble_eq_true rfl) (Nat.le_of_ble_eq_true rfl) (⟨rfl, rfl⟩)
  · exact absurd c_6 (by decide)
set_option maxHeartbeats 4000000 in
set_option maxRecDepth 100000 in
theorem c_X10_isHill_3 (l : Launch) (V : GV) (z : Nat → Nat) (p0 : Int32) (p1 : Int32) (p2 : Int32) : Ct l V yX10_isHill (.code yX10_isHill cX10_isHill 3 (some .boolean)) 2 [.ref (z 0), .long 2] [(z 1, aI V 3075 (upd (upd (fun _ => 0) 51 p0) 52 p1)), (z 0, .inr (10, mo z 0 0 0 0 0 0 0 0 0 0 (-1) 0 p2 0 0 0))] 0 0 (QI V (fun (r : Int32) (w : va_W) => (r = 0 ∧ w = [(z 1, aI V 3075 (upd (upd (fun _ => 0) 51 p0) 52 p1)), (z 0, .inr (10, mo z 0 0 0 0 0 0 0 0 0 0 (-1) 0 p2 0 0 0))]))) := by
  refine Ct.of (by decide) (Nat.le_of_ble_eq_true rfl) (fun p e s m below meth c A ls hx hb hr hml hown hlk hnm hg hP hK hD hE hA hS hl => ?_)
  have hl : lv_has ls 3 [(0, .ref (z 0)), (1, .long 2)] := hl
  refine lv_lload_n hx hb dX10_isHill_0 rfl (lv_at hl 1 rfl) ?_
  refine lv_lconst (v := 0) hx hb dX10_isHill_1 (by decide) ?_
  refine lv_aload_n hx hb dX10_isHill_2 rfl (lv_at hl 0 rfl) ?_
  refine va_get (ci := 10) (v := .ref (z 1)) (C := RX10) (T := TX10) (N := 40) hx hb hg inX10 hown hK hP 1 rfl rfl 1 (by decide) (hg _ q_5_225) (fun _ h9 => h9) rfl dX10_isHill_3 ?_
  refine lv_iconst (v := 1) hx hb dX10_isHill_6 (by decide) ?_
  refine va_iald hx hb hK hP 0 0 rfl rfl (vin (by decide +kernel)) dX10_isHill_7 ?_
  refine tpi (y := 0) (rfl) ?_
  refine lv_iconst (v := 1) hx hb dX10_isHill_8 (by decide) ?_
  refine lv_isub hx hb dX10_isHill_9 ?_
  refine tpi (y := (-1)) (by decide +kernel) ?_
  refine lv_i2l (v := (-1)) hx hb dX10_isHill_10 (by decide +kernel) ?_
  refine jnI (wr := [(z 1, aI V 3075 (upd (upd (fun _ => 0) 51 p0) 52 p1)), (z 0, .inr (10, mo z 0 0 0 0 0 0 0 0 0 0 (-1) 0 p2 0 0 0))]) (rnS (rest := []) ⟨hx, hb, hml, hown, hg⟩ (c_X10_within_0 l V 2 0 ((-1))) mt_X10_within q_6_114 ⟨Nat.le_of_ble_eq_true rfl, Nat.le_of_ble_eq_true rfl⟩ hK hP hD hS hA hE [] rfl rfl rfl hl.1 rfl (Nat.le_of_ble_eq_true rfl) dX10_isHill_11 ⟨Nat.le_of_ble_eq_true rfl, Nat.le_of_ble_eq_true rfl⟩) hP hD hS hA [] [0, 1] rfl rfl rfl (by decide) (fun r_1 w H locs hw hP hD hS => ?_)
  rcases hw with ⟨c_2, rfl, rfl⟩ | ⟨c_3, c_4, rfl, rfl⟩ | ⟨c_5, c_6, rfl, rfl⟩
  · exact absurd c_2 (by decide)
  · have hP : va_P V.1 vwCl [(z 1, aI V 3075 (upd (upd (fun _ => 0) 51 p0) 52 p1)), (z 0, .inr (10, mo z 0 0 0 0 0 0 0 0 0 0 (-1) 0 p2 0 0 0))] H := hP
    have hD : va_D A [(z 1, aI V 3075 (upd (upd (fun _ => 0) 51 p0) 52 p1)), (z 0, .inr (10, mo z 0 0 0 0 0 0 0 0 0 0 (-1) 0 p2 0 0 0))] := hD
    exact fiZ rfl hx hb hr hlk hK hP hD hS dX10_isHill_14 (Nat.le_of_ble_eq_true rfl) (Nat.le_of_ble_eq_true rfl) (⟨rfl, rfl⟩)
  · exact absurd c_6 (by decide)
set_option maxHeartbeats 4000000 in
set_option maxRecDepth 100000 in
theorem c_X10_whySteal_3 (l : Launch) (V : GV) (z : Nat → Nat) (p0 : Int32) (p1 : Int32) (p2 : Int32) : Ct l V yX10_whySteal (.code yX10_whySteal cX10_whySteal 3 (some .int)) 3 [.ref (z 0), .long 2] [(z 1, aI V 3075 (upd (upd (fun _ => 0) 51 p0) 52 p1)), (z 0, .inr (10, mo z 0 0 0 0 0 0 0 0 0 0 (-1) 0 p2 0 0 0))] 0 0 (QI V (fun (r : Int32) (w : va_W) => (r = 1 ∧ w = [(z 1, aI V 3075 (upd (upd (fun _ => 0) 51 p0) 52 p1)), (z 0, .inr (10, mo z 0 0 0 0 0 0 0 0 0 0 (-1) 0 p2 0 0 0))]))) := by
  refine Ct.of (by decide) (Nat.le_of_ble_eq_true rfl) (fun p e s m below meth c A ls hx hb hr hml hown hlk hnm hg hP hK hD hE hA hS hl => ?_)
  have hl : lv_has ls 3 [(0, .ref (z 0)), (1, .long 2)] := hl
  refine lv_aload_n hx hb dX10_whySteal_0 rfl (lv_at hl 0 rfl) ?_
  refine lv_lload_n hx hb dX10_whySteal_1 rfl (lv_at hl 1 rfl) ?_
  refine jnI (wr := []) (rnV (rest := []) ⟨hx, hb, hml, hown, hg⟩ (c_X10_isHill_3 l V z p0 p1 p2) mt_X10_isHill q_6_235 ⟨Nat.le_of_ble_eq_true rfl, Nat.le_of_ble_eq_true rfl⟩ hK hP hD hS hA hE [0, 1] rfl rfl 1 rfl rfl rfl rfl hl.1 rfl (Nat.le_of_ble_eq_true rfl) dX10_whySteal_2 ⟨Nat.le_of_ble_eq_true rfl, Nat.le_of_ble_eq_true rfl⟩) hP hD hS hA [0, 1] [] rfl rfl rfl (by decide) (fun r_1 w H locs hw hP hD hS => ?_)
  obtain ⟨rfl, rfl⟩ := hw
  have hP : va_P V.1 vwCl [(z 1, aI V 3075 (upd (upd (fun _ => 0) 51 p0) 52 p1)), (z 0, .inr (10, mo z 0 0 0 0 0 0 0 0 0 0 (-1) 0 p2 0 0 0))] H := hP
  have hD : va_D A [(z 1, aI V 3075 (upd (upd (fun _ => 0) 51 p0) 52 p1)), (z 0, .inr (10, mo z 0 0 0 0 0 0 0 0 0 0 (-1) 0 p2 0 0 0))] := hD
  refine lv_if_ne (tgt := 12) hx hb dX10_whySteal_5 (by decide) (fun c_2 => absurd c_2 (by decide)) (fun _ => ?_)
  refine lv_iconst (v := 1) hx hb dX10_whySteal_8 (by decide) ?_
  refine lv_goto (tgt := 30) hx hb dX10_whySteal_9 (by decide) ?_
  exact fiI hx hb hr hlk hK hP hD hS dX10_whySteal_30 (Nat.le_of_ble_eq_true rfl) (Nat.le_of_ble_eq_true rfl) (⟨rfl, rfl⟩)
set_option maxHeartbeats 4000000 in
set_option maxRecDepth 100000 in
theorem c_X10_whyNot_6 (l : Launch) (V : GV) (z : Nat → Nat) (p0 : Int32) (p1 : Int32) (p2 : Int32) : Ct l V yX10_whyNot (.code yX10_whyNot cX10_whyNot 3 (some .int)) 4 [.ref (z 0), .long 12] [(z 1, aI V 3075 (upd (upd (fun _ => 0) 51 p0) 52 p1)), (z 0, .inr (10, mo z 0 0 0 0 0 0 0 0 0 0 (-1) 0 p2 0 0 0))] 0 0 (QI V (fun (r : Int32) (w : va_W) => (r = 1 ∧ w = [(z 1, aI V 3075 (upd (upd (fun _ => 0) 51 p0) 52 p1)), (z 0, .inr (10, mo z 0 0 0 0 0 0 0 0 0 0 (-1) 0 p2 0 0 0))]))) := by
  refine Ct.of (by decide) (Nat.le_of_ble_eq_true rfl) (fun p e s m below meth c A ls hx hb hr hml hown hlk hnm hg hP hK hD hE hA hS hl => ?_)
  have hl : lv_has ls 3 [(0, .ref (z 0)), (1, .long 12)] := hl
  refine lv_lload_n hx hb dX10_whyNot_0 rfl (lv_at hl 1 rfl) ?_
  refine lv_lconst (v := 0) hx hb dX10_whyNot_1 (by decide) ?_
  refine lv_ldc2 (v := 9) hx hb hown (hg _ q_7_97) dX10_whyNot_2 ?_
  refine jnI (wr := [(z 1, aI V 3075 (upd (upd (fun _ => 0) 51 p0) 52 p1)), (z 0, .inr (10, mo z 0 0 0 0 0 0 0 0 0 0 (-1) 0 p2 0 0 0))]) (rnS (rest := []) ⟨hx, hb, hml, hown, hg⟩ (c_X10_within_0 l V 12 0 9) mt_X10_within q_6_114 ⟨Nat.le_of_ble_eq_true rfl, Nat.le_of_ble_eq_true rfl⟩ hK hP hD hS hA hE [] rfl rfl rfl hl.1 rfl (Nat.le_of_ble_eq_true rfl) dX10_whyNot_5 ⟨Nat.le_of_ble_eq_true rfl, Nat.le_of_ble_eq_true rfl⟩) hP hD hS hA [] [0, 1] rfl rfl rfl (by decide) (fun r_1 w H locs hw hP hD hS => ?_)
  rcases hw with ⟨c_2, rfl, rfl⟩ | ⟨c_3, c_4, rfl, rfl⟩ | ⟨c_5, c_6, rfl, rfl⟩
  · exact absurd c_2 (by decide)
  · have hP : va_P V.1 vwCl [(z 1, aI V 3075 (upd (upd (fun _ => 0) 51 p0) 52 p1)), (z 0, .inr (10, mo z 0 0 0 0 0 0 0 0 0 0 (-1) 0 p2 0 0 0))] H := hP
    have hD : va_D A [(z 1, aI V 3075 (upd (upd (fun _ => 0) 51 p0) 52 p1)), (z 0, .inr (10, mo z 0 0 0 0 0 0 0 0 0 0 (-1) 0 p2 0 0 0))] := hD
    refine lv_if_eq (tgt := 25) hx hb dX10_whyNot_8 (by decide) (fun _ => ?_) (fun c_7 => absurd c_7 (by decide))
    refine lv_lload_n hx hb dX10_whyNot_25 rfl (lv_at hl 1 rfl) ?_
    refine lv_ldc2 (v := 10) hx hb hown (hg _ q_7_102) dX10_whyNot_26 ?_
    refine lv_ldc2 (v := 19) hx hb hown (hg _ q_7_120) dX10_whyNot_29 ?_
    refine jnI (wr := [(z 1, aI V 3075 (upd (upd (fun _ => 0) 51 p0) 52 p1)), (z 0, .inr (10, mo z 0 0 0 0 0 0 0 0 0 0 (-1) 0 p2 0 0 0))]) (rnS (rest := []) ⟨hx, hb, hml, hown, hg⟩ (c_X10_within_0 l V 12 10 19) mt_X10_within q_6_114 ⟨Nat.le_of_ble_eq_true rfl, Nat.le_of_ble_eq_true rfl⟩ hK hP hD hS hA hE [] rfl rfl rfl hl.1 rfl (Nat.le_of_ble_eq_true rfl) dX10_whyNot_32 ⟨Nat.le_of_ble_eq_true rfl, Nat.le_of_ble_eq_true rfl⟩) hP hD hS hA [] [0, 1] rfl rfl rfl (by decide) (fun r_8 w H locs hw hP hD hS => ?_)
    rcases hw with ⟨c_9, rfl, rfl⟩ | ⟨c_10, c_11, rfl, rfl⟩ | ⟨c_12, c_13, rfl, rfl⟩
    · exact absurd c_9 (by decide)
    · exact absurd c_11 (by decide)
    · have hP : va_P V.1 vwCl [(z 1, aI V 3075 (upd (upd (fun _ => 0) 51 p0) 52 p1)), (z 0, .inr (10, mo z 0 0 0 0 0 0 0 0 0 0 (-1) 0 p2 0 0 0))] H := hP
      have hD : va_D A [(z 1, aI V 3075 (upd (upd (fun _ => 0) 51 p0) 52 p1)), (z 0, .inr (10, mo z 0 0 0 0 0 0 0 0 0 0 (-1) 0 p2 0 0 0))] := hD
      refine lv_if_eq (tgt := 50) hx hb dX10_whyNot_35 (by decide) (fun c_14 => absurd c_14 (by decide)) (fun _ => ?_)
      refine lv_aload_n hx hb dX10_whyNot_38 rfl (lv_at hl 0 rfl) ?_
      refine lv_lload_n hx hb dX10_whyNot_39 rfl (lv_at hl 1 rfl) ?_
      refine lv_ldc2 (v := 10) hx hb hown (hg _ q_7_102) dX10_whyNot_40 ?_
      refine lv_lsub hx hb dX10_whyNot_43 ?_
      refine tpl (y := 2) (by decide +kernel) ?_
      refine jnI (wr := []) (rnV (rest := []) ⟨hx, hb, hml, hown, hg⟩ (c_X10_whySteal_3 l V z p0 p1 p2) mt_X10_whySteal q_7_85 ⟨Nat.le_of_ble_eq_true rfl, Nat.le_of_ble_eq_true rfl⟩ hK hP hD hS hA hE [0, 1] rfl rfl 1 rfl rfl rfl rfl hl.1 rfl (Nat.le_of_ble_eq_true rfl) dX10_whyNot_44 ⟨Nat.le_of_ble_eq_true rfl, Nat.le_of_ble_eq_true rfl⟩) hP hD hS hA [0, 1] [] rfl rfl rfl (by decide) (fun r_15 w H locs hw hP hD hS => ?_)
      obtain ⟨rfl, rfl⟩ := hw
      have hP : va_P V.1 vwCl [(z 1, aI V 3075 (upd (upd (fun _ => 0) 51 p0) 52 p1)), (z 0, .inr (10, mo z 0 0 0 0 0 0 0 0 0 0 (-1) 0 p2 0 0 0))] H := hP
      have hD : va_D A [(z 1, aI V 3075 (upd (upd (fun _ => 0) 51 p0) 52 p1)), (z 0, .inr (10, mo z 0 0 0 0 0 0 0 0 0 0 (-1) 0 p2 0 0 0))] := hD
      refine lv_goto (tgt := 68) hx hb dX10_whyNot_47 (by decide) ?_
      exact fiI hx hb hr hlk hK hP hD hS dX10_whyNot_68 (Nat.le_of_ble_eq_true rfl) (Nat.le_of_ble_eq_true rfl) (⟨rfl, rfl⟩)
  · exact absurd c_6 (by decide)
set_option maxHeartbeats 4000000 in
set_option maxRecDepth 100000 in
theorem c_X10_isHill_4 (l : Launch) (V : GV) (z : Nat → Nat) (p0 : Int32) (p1 : Int32) (p2 : Int32) : Ct l V yX10_isHill (.code yX10_isHill cX10_isHill 3 (some .boolean)) 2 [.ref (z 0), .long 3] [(z 1, aI V 3075 (upd (upd (fun _ => 0) 51 p0) 52 p1)), (z 0, .inr (10, mo z 0 0 0 0 0 0 0 0 0 0 (-1) 0 p2 0 0 0))] 0 0 (QI V (fun (r : Int32) (w : va_W) => (r = 0 ∧ w = [(z 1, aI V 3075 (upd (upd (fun _ => 0) 51 p0) 52 p1)), (z 0, .inr (10, mo z 0 0 0 0 0 0 0 0 0 0 (-1) 0 p2 0 0 0))]))) := by
  refine Ct.of (by decide) (Nat.le_of_ble_eq_true rfl) (fun p e s m below meth c A ls hx hb hr hml hown hlk hnm hg hP hK hD hE hA hS hl => ?_)
  have hl : lv_has ls 3 [(0, .ref (z 0)), (1, .long 3)] := hl
  refine lv_lload_n hx hb dX10_isHill_0 rfl (lv_at hl 1 rfl) ?_
  refine lv_lconst (v := 0) hx hb dX10_isHill_1 (by decide) ?_
  refine lv_aload_n hx hb dX10_isHill_2 rfl (lv_at hl 0 rfl) ?_
  refine va_get (ci := 10) (v := .ref (z 1)) (C := RX10) (T := TX10) (N := 40) hx hb hg inX10 hown hK hP 1 rfl rfl 1 (by decide) (hg _ q_5_225) (fun _ h9 => h9) rfl dX10_isHill_3 ?_
  refine lv_iconst (v := 1) hx hb dX10_isHill_6 (by decide) ?_
  refine va_iald hx hb hK hP 0 0 rfl rfl (vin (by decide +kernel)) dX10_isHill_7 ?_
  refine tpi (y := 0) (rfl) ?_
  refine lv_iconst (v := 1) hx hb dX10_isHill_8 (by decide) ?_
  refine lv_isub hx hb dX10_isHill_9 ?_
  refine tpi (y := (-1)) (by decide +kernel) ?_
  refine lv_i2l (v := (-1)) hx hb dX10_isHill_10 (by decide +kernel) ?_
  refine jnI (wr := [(z 1, aI V 3075 (upd (upd (fun _ => 0) 51 p0) 52 p1)), (z 0, .inr (10, mo z 0 0 0 0 0 0 0 0 0 0 (-1) 0 p2 0 0 0))]) (rnS (rest := []) ⟨hx, hb, hml, hown, hg⟩ (c_X10_within_0 l V 3 0 ((-1))) mt_X10_within q_6_114 ⟨Nat.le_of_ble_eq_true rfl, Nat.le_of_ble_eq_true rfl⟩ hK hP hD hS hA hE [] rfl rfl rfl hl.1 rfl (Nat.le_of_ble_eq_true rfl) dX10_isHill_11 ⟨Nat.le_of_ble_eq_true rfl, Nat.le_of_ble_eq_true rfl⟩) hP hD hS hA [] [0, 1] rfl rfl rfl (by decide) (fun r_1 w H locs hw hP hD hS => ?_)
  rcases hw with ⟨c_2, rfl, rfl⟩ | ⟨c_3, c_4, rfl, rfl⟩ | ⟨c_5, c_6, rfl, rfl⟩
  · exact absurd c_2 (by decide)
  · have hP : va_P V.1 vwCl [(z 1, aI V 3075 (upd (upd (fun _ => 0) 51 p0) 52 p1)), (z 0, .inr (10, mo z 0 0 0 0 0 0 0 0 0 0 (-1) 0 p2 0 0 0))] H := hP
    have hD : va_D A [(z 1, aI V 3075 (upd (upd (fun _ => 0) 51 p0) 52 p1)), (z 0, .inr (10, mo z 0 0 0 0 0 0 0 0 0 0 (-1) 0 p2 0 0 0))] := hD
    exact fiZ rfl hx hb hr hlk hK hP hD hS dX10_isHill_14 (Nat.le_of_ble_eq_true rfl) (Nat.le_of_ble_eq_true rfl) (⟨rfl, rfl⟩)
  · exact absurd c_6 (by decide)
set_option maxHeartbeats 4000000 in
set_option maxRecDepth 100000 in
theorem c_X10_whySteal_4 (l : Launch) (V : GV) (z : Nat → Nat) (p0 : Int32) (p1 : Int32) (p2 : Int32) : Ct l V yX10_whySteal (.code yX10_whySteal cX10_whySteal 3 (some .int)) 3 [.ref (z 0), .long 3] [(z 1, aI V 3075 (upd (upd (fun _ => 0) 51 p0) 52 p1)), (z 0, .inr (10, mo z 0 0 0 0 0 0 0 0 0 0 (-1) 0 p2 0 0 0))] 0 0 (QI V (fun (r : Int32) (w : va_W) => (r = 1 ∧ w = [(z 1, aI V 3075 (upd (upd (fun _ => 0) 51 p0) 52 p1)), (z 0, .inr (10, mo z 0 0 0 0 0 0 0 0 0 0 (-1) 0 p2 0 0 0))]))) := by
  refine Ct.of (by decide) (Nat.le_of_ble_eq_true rfl) (fun p e s m below meth c A ls hx hb hr hml hown hlk hnm hg hP hK hD hE hA hS hl => ?_)
  have hl : lv_has ls 3 [(0, .ref (z 0)), (1, .long 3)] := hl
  refine lv_aload_n hx hb dX10_whySteal_0 rfl (lv_at hl 0 rfl) ?_
  refine lv_lload_n hx hb dX10_whySteal_1 rfl (lv_at hl 1 rfl) ?_
  refine jnI (wr := []) (rnV (rest := []) ⟨hx, hb, hml, hown, hg⟩ (c_X10_isHill_4 l V z p0 p1 p2) mt_X10_isHill q_6_235 ⟨Nat.le_of_ble_eq_true rfl, Nat.le_of_ble_eq_true rfl⟩ hK hP hD hS hA hE [0, 1] rfl rfl 1 rfl rfl rfl rfl hl.1 rfl (Nat.le_of_ble_eq_true rfl) dX10_whySteal_2 ⟨Nat.le_of_ble_eq_true rfl, Nat.le_of_ble_eq_true rfl⟩) hP hD hS hA [0, 1] [] rfl rfl rfl (by decide) (fun r_1 w H locs hw hP hD hS => ?_)
  obtain ⟨rfl, rfl⟩ := hw
  have hP : va_P V.1 vwCl [(z 1, aI V 3075 (upd (upd (fun _ => 0) 51 p0) 52 p1)), (z 0, .inr (10, mo z 0 0 0 0 0 0 0 0 0 0 (-1) 0 p2 0 0 0))] H := hP
  have hD : va_D A [(z 1, aI V 3075 (upd (upd (fun _ => 0) 51 p0) 52 p1)), (z 0, .inr (10, mo z 0 0 0 0 0 0 0 0 0 0 (-1) 0 p2 0 0 0))] := hD
  refine lv_if_ne (tgt := 12) hx hb dX10_whySteal_5 (by decide) (fun c_2 => absurd c_2 (by decide)) (fun _ => ?_)
  refine lv_iconst (v := 1) hx hb dX10_whySteal_8 (by decide) ?_
  refine lv_goto (tgt := 30) hx hb dX10_whySteal_9 (by decide) ?_
  exact fiI hx hb hr hlk hK hP hD hS dX10_whySteal_30 (Nat.le_of_ble_eq_true rfl) (Nat.le_of_ble_eq_true rfl) (⟨rfl, rfl⟩)
set_option maxHeartbeats 4000000 in
set_option maxRecDepth 100000 in
theorem c_X10_whyNot_7 (l : Launch) (V : GV) (z : Nat → Nat) (p0 : Int32) (p1 : Int32) (p2 : Int32) : Ct l V yX10_whyNot (.code yX10_whyNot cX10_whyNot 3 (some .int)) 4 [.ref (z 0), .long 13] [(z 1, aI V 3075 (upd (upd (fun _ => 0) 51 p0) 52 p1)), (z 0, .inr (10, mo z 0 0 0 0 0 0 0 0 0 0 (-1) 0 p2 0 0 0))] 0 0 (QI V (fun (r : Int32) (w : va_W) => (r = 1 ∧ w = [(z 1, aI V 3075 (upd (upd (fun _ => 0) 51 p0) 52 p1)), (z 0, .inr (10, mo z 0 0 0 0 0 0 0 0 0 0 (-1) 0 p2 0 0 0))]))) := by
  refine Ct.of (by decide) (Nat.le_of_ble_eq_true rfl) (fun p e s m below meth c A ls hx hb hr hml hown hlk hnm hg hP hK hD hE hA hS hl => ?_)
  have hl : lv_has ls 3 [(0, .ref (z 0)), (1, .long 13)] := hl
  refine lv_lload_n hx hb dX10_whyNot_0 rfl (lv_at hl 1 rfl) ?_
  refine lv_lconst (v := 0) hx hb dX10_whyNot_1 (by decide) ?_
  refine lv_ldc2 (v := 9) hx hb hown (hg _ q_7_97) dX10_whyNot_2 ?_
  refine jnI (wr := [(z 1, aI V 3075 (upd (upd (fun _ => 0) 51 p0) 52 p1)), (z 0, .inr (10, mo z 0 0 0 0 0 0 0 0 0 0 (-1) 0 p2 0 0 0))]) (rnS (rest := []) ⟨hx, hb, hml, hown, hg⟩ (c_X10_within_0 l V 13 0 9) mt_X10_within q_6_114 ⟨Nat.le_of_ble_eq_true rfl, Nat.le_of_ble_eq_true rfl⟩ hK hP hD hS hA hE [] rfl rfl rfl hl.1 rfl (Nat.le_of_ble_eq_true rfl) dX10_whyNot_5 ⟨Nat.le_of_ble_eq_true rfl, Nat.le_of_ble_eq_true rfl⟩) hP hD hS hA [] [0, 1] rfl rfl rfl (by decide) (fun r_1 w H locs hw hP hD hS => ?_)
  rcases hw with ⟨c_2, rfl, rfl⟩ | ⟨c_3, c_4, rfl, rfl⟩ | ⟨c_5, c_6, rfl, rfl⟩
  · exact absurd c_2 (by decide)
  · have hP : va_P V.1 vwCl [(z 1, aI V 3075 (upd (upd (fun _ => 0) 51 p0) 52 p1)), (z 0, .inr (10, mo z 0 0 0 0 0 0 0 0 0 0 (-1) 0 p2 0 0 0))] H := hP
    have hD : va_D A [(z 1, aI V 3075 (upd (upd (fun _ => 0) 51 p0) 52 p1)), (z 0, .inr (10, mo z 0 0 0 0 0 0 0 0 0 0 (-1) 0 p2 0 0 0))] := hD
    refine lv_if_eq (tgt := 25) hx hb dX10_whyNot_8 (by decide) (fun _ => ?_) (fun c_7 => absurd c_7 (by decide))
    refine lv_lload_n hx hb dX10_whyNot_25 rfl (lv_at hl 1 rfl) ?_
    refine lv_ldc2 (v := 10) hx hb hown (hg _ q_7_102) dX10_whyNot_26 ?_
    refine lv_ldc2 (v := 19) hx hb hown (hg _ q_7_120) dX10_whyNot_29 ?_
    refine jnI (wr := [(z 1, aI V 3075 (upd (upd (fun _ => 0) 51 p0) 52 p1)), (z 0, .inr (10, mo z 0 0 0 0 0 0 0 0 0 0 (-1) 0 p2 0 0 0))]) (rnS (rest := []) ⟨hx, hb, hml, hown, hg⟩ (c_X10_within_0 l V 13 10 19) mt_X10_within q_6_114 ⟨Nat.le_of_ble_eq_true rfl, Nat.le_of_ble_eq_true rfl⟩ hK hP hD hS hA hE [] rfl rfl rfl hl.1 rfl (Nat.le_of_ble_eq_true rfl) dX10_whyNot_32 ⟨Nat.le_of_ble_eq_true rfl, Nat.le_of_ble_eq_true rfl⟩) hP hD hS hA [] [0, 1] rfl rfl rfl (by decide) (fun r_8 w H locs hw hP hD hS => ?_)
    rcases hw with ⟨c_9, rfl, rfl⟩ | ⟨c_10, c_11, rfl, rfl⟩ | ⟨c_12, c_13, rfl, rfl⟩
    · exact absurd c_9 (by decide)
    · exact absurd c_11 (by decide)
    · have hP : va_P V.1 vwCl [(z 1, aI V 3075 (upd (upd (fun _ => 0) 51 p0) 52 p1)), (z 0, .inr (10, mo z 0 0 0 0 0 0 0 0 0 0 (-1) 0 p2 0 0 0))] H := hP
      have hD : va_D A [(z 1, aI V 3075 (upd (upd (fun _ => 0) 51 p0) 52 p1)), (z 0, .inr (10, mo z 0 0 0 0 0 0 0 0 0 0 (-1) 0 p2 0 0 0))] := hD
      refine lv_if_eq (tgt := 50) hx hb dX10_whyNot_35 (by decide) (fun c_14 => absurd c_14 (by decide)) (fun _ => ?_)
      refine lv_aload_n hx hb dX10_whyNot_38 rfl (lv_at hl 0 rfl) ?_
      refine lv_lload_n hx hb dX10_whyNot_39 rfl (lv_at hl 1 rfl) ?_
      refine lv_ldc2 (v := 10) hx hb hown (hg _ q_7_102) dX10_whyNot_40 ?_
      refine lv_lsub hx hb dX10_whyNot_43 ?_
      refine tpl (y := 3) (by decide +kernel) ?_
      refine jnI (wr := []) (rnV (rest := []) ⟨hx, hb, hml, hown, hg⟩ (c_X10_whySteal_4 l V z p0 p1 p2) mt_X10_whySteal q_7_85 ⟨Nat.le_of_ble_eq_true rfl, Nat.le_of_ble_eq_true rfl⟩ hK hP hD hS hA hE [0, 1] rfl rfl 1 rfl rfl rfl rfl hl.1 rfl (Nat.le_of_ble_eq_true rfl) dX10_whyNot_44 ⟨Nat.le_of_ble_eq_true rfl, Nat.le_of_ble_eq_true rfl⟩) hP hD hS hA [0, 1] [] rfl rfl rfl (by decide) (fun r_15 w H locs hw hP hD hS => ?_)
      obtain ⟨rfl, rfl⟩ := hw
      have hP : va_P V.1 vwCl [(z 1, aI V 3075 (upd (upd (fun _ => 0) 51 p0) 52 p1)), (z 0, .inr (10, mo z 0 0 0 0 0 0 0 0 0 0 (-1) 0 p2 0 0 0))] H := hP
      have hD : va_D A [(z 1, aI V 3075 (upd (upd (fun _ => 0) 51 p0) 52 p1)), (z 0, .inr (10, mo z 0 0 0 0 0 0 0 0 0 0 (-1) 0 p2 0 0 0))] := hD
      refine lv_goto (tgt := 68) hx hb dX10_whyNot_47 (by decide) ?_
      exact fiI hx hb hr hlk hK hP hD hS dX10_whyNot_68 (Nat.le_of_ble_eq_true rfl) (Nat.le_of_ble_eq_true rfl) (⟨rfl, rfl⟩)
  · exact absurd c_6 (by decide)
theorem dX10_whyNot_50 : decode cX10_whyNot 50 = .ok (.lload_n 1, 1) := by decide +kernel
theorem q_7_121 : Cond.constantLong "BeaconDelayModel" 302 (20 : Int64) ∈ gw := gw_7 (i := 121) (by decide +kernel) rfl
theorem dX10_whyNot_51 : decode cX10_whyNot 51 = .ok (.ldc2_w 302, 3) := by decide +kernel
theorem q_7_122 : Cond.constantLong "BeaconDelayModel" 304 (29 : Int64) ∈ gw := gw_7 (i := 122) (by decide +kernel) rfl
theorem dX10_whyNot_54 : decode cX10_whyNot 54 = .ok (.ldc2_w 304, 3) := by decide +kernel
theorem dX10_whyNot_57 : decode cX10_whyNot 57 = .ok (.invokestatic 159, 3) := by decide +kernel
theorem dX10_whyNot_60 : decode cX10_whyNot 60 = .ok (.ifCond .eq 7, 3) := by decide +kernel
theorem dX10_whyNot_63 : decode cX10_whyNot 63 = .ok (.iconst 0, 1) := by decide +kernel
theorem dX10_whyNot_64 : decode cX10_whyNot 64 = .ok (.goto 4, 3) := by decide +kernel
set_option maxHeartbeats 4000000 in
set_option maxRecDepth 100000 in
theorem c_X10_whyNot_8 (l : Launch) (V : GV) (z : Nat → Nat) : Ct l V yX10_whyNot (.code yX10_whyNot cX10_whyNot 3 (some .int)) 2 [.ref (z 0), .long 20] [] 0 0 (QI V (fun (r : Int32) (w : va_W) => (r = 0 ∧ w = []))) := by
  refine Ct.of (by decide) (Nat.le_of_ble_eq_true rfl) (fun p e s m below meth c A ls hx hb hr hml hown hlk hnm hg hP hK hD hE hA hS hl => ?_)
  have hl : lv_has ls 3 [(0, .ref (z 0)), (1, .long 20)] := hl
  refine lv_lload_n hx hb dX10_whyNot_0 rfl (lv_at hl 1 rfl) ?_
  refine lv_lconst (v := 0) hx hb dX10_whyNot_1 (by decide) ?_
  refine lv_ldc2 (v := 9) hx hb hown (hg _ q_7_97) dX10_whyNot_2 ?_
  refine jnI (wr := []) (rnS (rest := []) ⟨hx, hb, hml, hown, hg⟩ (c_X10_within_0 l V 20 0 9) mt_X10_within q_6_114 ⟨Nat.le_of_ble_eq_true rfl, Nat.le_of_ble_eq_true rfl⟩ hK hP hD hS hA hE [] rfl rfl rfl hl.1 rfl (Nat.le_of_ble_eq_true rfl) dX10_whyNot_5 ⟨Nat.le_of_ble_eq_true rfl, Nat.le_of_ble_eq_true rfl⟩) hP hD hS hA [] [] rfl rfl rfl (by decide) (fun r_1 w H locs hw hP hD hS => ?_)
  rcases hw with ⟨c_2, rfl, rfl⟩ | ⟨c_3, c_4, rfl, rfl⟩ | ⟨c_5, c_6, rfl, rfl⟩
  · exact absurd c_2 (by decide)
  · have hP : va_P V.1 vwCl [] H := hP
    have hD : va_D A [] := hD
    refine lv_if_eq (tgt := 25) hx hb dX10_whyNot_8 (by decide) (fun _ => ?_) (fun c_7 => absurd c_7 (by decide))
    refine lv_lload_n hx hb dX10_whyNot_25 rfl (lv_at hl 1 rfl) ?_
    refine lv_ldc2 (v := 10) hx hb hown (hg _ q_7_102) dX10_whyNot_26 ?_
    refine lv_ldc2 (v := 19) hx hb hown (hg _ q_7_120) dX10_whyNot_29 ?_
    refine jnI (wr := []) (rnS (rest := []) ⟨hx, hb, hml, hown, hg⟩ (c_X10_within_0 l V 20 10 19) mt_X10_within q_6_114 ⟨Nat.le_of_ble_eq_true rfl, Nat.le_of_ble_eq_true rfl⟩ hK hP hD hS hA hE [] rfl rfl rfl hl.1 rfl (Nat.le_of_ble_eq_true rfl) dX10_whyNot_32 ⟨Nat.le_of_ble_eq_true rfl, Nat.le_of_ble_eq_true rfl⟩) hP hD hS hA [] [] rfl rfl rfl (by decide) (fun r_8 w H locs hw hP hD hS => ?_)
    rcases hw with ⟨c_9, rfl, rfl⟩ | ⟨c_10, c_11, rfl, rfl⟩ | ⟨c_12, c_13, rfl, rfl⟩
    · exact absurd c_9 (by decide)
    · have hP : va_P V.1 vwCl [] H := hP
      have hD : va_D A [] := hD
      refine lv_if_eq (tgt := 50) hx hb dX10_whyNot_35 (by decide) (fun _ => ?_) (fun c_14 => absurd c_14 (by decide))
      refine lv_lload_n hx hb dX10_whyNot_50 rfl (lv_at hl 1 rfl) ?_
      refine lv_ldc2 (v := 20) hx hb hown (hg _ q_7_121) dX10_whyNot_51 ?_
      refine lv_ldc2 (v := 29) hx hb hown (hg _ q_7_122) dX10_whyNot_54 ?_
      refine jnI (wr := []) (rnS (rest := []) ⟨hx, hb, hml, hown, hg⟩ (c_X10_within_0 l V 20 20 29) mt_X10_within q_6_114 ⟨Nat.le_of_ble_eq_true rfl, Nat.le_of_ble_eq_true rfl⟩ hK hP hD hS hA hE [] rfl rfl rfl hl.1 rfl (Nat.le_of_ble_eq_true rfl) dX10_whyNot_57 ⟨Nat.le_of_ble_eq_true rfl, Nat.le_of_ble_eq_true rfl⟩) hP hD hS hA [] [] rfl rfl rfl (by decide) (fun r_15 w H locs hw hP hD hS => ?_)
      rcases hw with ⟨c_16, rfl, rfl⟩ | ⟨c_17, c_18, rfl, rfl⟩ | ⟨c_19, c_20, rfl, rfl⟩
      · exact absurd c_16 (by decide)
      · exact absurd c_18 (by decide)
      · have hP : va_P V.1 vwCl [] H := hP
        have hD : va_D A [] := hD
        refine lv_if_eq (tgt := 67) hx hb dX10_whyNot_60 (by decide) (fun c_21 => absurd c_21 (by decide)) (fun _ => ?_)
        refine lv_iconst (v := 0) hx hb dX10_whyNot_63 (by decide) ?_
        refine lv_goto (tgt := 68) hx hb dX10_whyNot_64 (by decide) ?_
        exact fiI hx hb hr hlk hK hP hD hS dX10_whyNot_68 (Nat.le_of_ble_eq_true rfl) (Nat.le_of_ble_eq_true rfl) (⟨rfl, rfl⟩)
    · exact absurd c_13 (by decide)
  · exact absurd c_6 (by decide)
theorem dX10_does_14 : decode cX10_does 14 = .ok (.iload_n 1, 1) := by decide +kernel
theorem dX10_does_15 : decode cX10_does 15 = .ok (.bipush 20, 2) := by decide +kernel
theorem dX10_does_17 : decode cX10_does 17 = .ok (.if_icmp .ge 14, 3) := by decide +kernel
theorem dX10_does_31 : decode cX10_does 31 = .ok (.aload_n 0, 1) := by decide +kernel
theorem dX10_does_32 : decode cX10_does 32 = .ok (.getfield 13, 3) := by decide +kernel
theorem dX10_does_35 : decode cX10_does 35 = .ok (.bipush 51, 2) := by decide +kernel
theorem dX10_does_37 : decode cX10_does 37 = .ok (.iload_n 1, 1) := by decide +kernel
theorem dX10_does_38 : decode cX10_does 38 = .ok (.bipush 20, 2) := by decide +kernel
theorem dX10_does_40 : decode cX10_does 40 = .ok (.isub, 1) := by decide +kernel
theorem dX10_does_41 : decode cX10_does 41 = .ok (.iastore, 1) := by decide +kernel
set_option maxHeartbeats 4000000 in
set_option maxRecDepth 100000 in
theorem c_X10_does_1 (l : Launch) (V : GV) (z : Nat → Nat) (p0 : Int32) (p1 : Int32) (p2 : Int32) : Ct l V yX10_does (.code yX10_does cX10_does 2 none) 1 [.ref (z 0), .int 20] [(z 1, aI V 3075 (upd (upd (fun _ => 0) 51 p0) 52 p1)), (z 0, .inr (10, mo z 0 0 0 0 0 0 0 0 0 0 (-1) 0 p2 0 0 0))] 0 0 (QV V (fun (w : va_W) => (w = [(z 1, aI V 3075 (upd (upd (fun _ => 0) 51 0) 52 p1)), (z 0, .inr (10, mo z 0 0 0 0 0 0 0 0 0 0 (-1) 0 p2 0 0 0))]))) := by
  refine Ct.of (by decide) (Nat.le_of_ble_eq_true rfl) (fun p e s m below meth c A ls hx hb hr hml hown hlk hnm hg hP hK hD hE hA hS hl => ?_)
  have hl : lv_has ls 2 [(0, .ref (z 0)), (1, .int 20)] := hl
  refine lv_iload_n hx hb dX10_does_0 rfl (lv_at hl 1 rfl) ?_
  refine lv_bipush (v := 10) hx hb dX10_does_1 (by decide) ?_
  refine lv_icmp_ge (tgt := 14) hx hb dX10_does_3 (by decide) (fun _ => ?_) (fun c_1 => absurd c_1 (by decide))
  refine lv_iload_n hx hb dX10_does_14 rfl (lv_at hl 1 rfl) ?_
  refine lv_bipush (v := 20) hx hb dX10_does_15 (by decide) ?_
  refine lv_icmp_ge (tgt := 31) hx hb dX10_does_17 (by decide) (fun _ => ?_) (fun c_2 => absurd c_2 (by decide))
  refine lv_aload_n hx hb dX10_does_31 rfl (lv_at hl 0 rfl) ?_
  refine va_get (ci := 10) (v := .ref (z 1)) (C := RX10) (T := TX10) (N := 40) hx hb hg inX10 hown hK hP 1 rfl rfl 1 (by decide) (hg _ q_5_225) (fun _ h9 => h9) rfl dX10_does_32 ?_
  refine lv_bipush (v := 51) hx hb dX10_does_35 (by decide) ?_
  refine lv_iload_n hx hb dX10_does_37 rfl (lv_at hl 1 rfl) ?_
  refine lv_bipush (v := 20) hx hb dX10_does_38 (by decide) ?_
  refine lv_isub hx hb dX10_does_40 ?_
  refine tpi (y := 0) (by decide +kernel) ?_
  refine va_iast hx hb hK hP hD hS 0 0 rfl rfl (vin (by decide +kernel)) dX10_does_41 (fun H locs hP hD hS => ?_)
  have hP : va_P V.1 vwCl [(z 1, aI V 3075 (upd (upd (upd (fun _ => 0) 51 p0) 52 p1) 51 0)), (z 0, .inr (10, mo z 0 0 0 0 0 0 0 0 0 0 (-1) 0 p2 0 0 0))] H := hP
  have hD : va_D A [(z 1, aI V 3075 (upd (upd (upd (fun _ => 0) 51 p0) 52 p1) 51 0)), (z 0, .inr (10, mo z 0 0 0 0 0 0 0 0 0 0 (-1) 0 p2 0 0 0))] := hD
  have hP : va_P V.1 vwCl [(z 1, aI V 3075 (upd (upd (fun _ => 0) 51 0) 52 p1)), (z 0, .inr (10, mo z 0 0 0 0 0 0 0 0 0 0 (-1) 0 p2 0 0 0))] H := by rw [updsw (by decide)] at hP; exact hP
  have hD : va_D A [(z 1, aI V 3075 (upd (upd (fun _ => 0) 51 0) 52 p1)), (z 0, .inr (10, mo z 0 0 0 0 0 0 0 0 0 0 (-1) 0 p2 0 0 0))] := by rw [updsw (by decide)] at hD; exact hD
  exact fiV hx hb hr hlk hK hP hD hS dX10_does_42 (Nat.le_of_ble_eq_true rfl) (Nat.le_of_ble_eq_true rfl) (rfl)
set_option maxHeartbeats 4000000 in
set_option maxRecDepth 100000 in
theorem c_X10_whyNot_9 (l : Launch) (V : GV) (z : Nat → Nat) : Ct l V yX10_whyNot (.code yX10_whyNot cX10_whyNot 3 (some .int)) 2 [.ref (z 0), .long 21] [] 0 0 (QI V (fun (r : Int32) (w : va_W) => (r = 0 ∧ w = []))) := by
  refine Ct.of (by decide) (Nat.le_of_ble_eq_true rfl) (fun p e s m below meth c A ls hx hb hr hml hown hlk hnm hg hP hK hD hE hA hS hl => ?_)
  have hl : lv_has ls 3 [(0, .ref (z 0)), (1, .long 21)] := hl
  refine lv_lload_n hx hb dX10_whyNot_0 rfl (lv_at hl 1 rfl) ?_
  refine lv_lconst (v := 0) hx hb dX10_whyNot_1 (by decide) ?_
  refine lv_ldc2 (v := 9) hx hb hown (hg _ q_7_97) dX10_whyNot_2 ?_
  refine jnI (wr := []) (rnS (rest := []) ⟨hx, hb, hml, hown, hg⟩ (c_X10_within_0 l V 21 0 9) mt_X10_within q_6_114 ⟨Nat.le_of_ble_eq_true rfl, Nat.le_of_ble_eq_true rfl⟩ hK hP hD hS hA hE [] rfl rfl rfl hl.1 rfl (Nat.le_of_ble_eq_true rfl) dX10_whyNot_5 ⟨Nat.le_of_ble_eq_true rfl, Nat.le_of_ble_eq_true rfl⟩) hP hD hS hA [] [] rfl rfl rfl (by decide) (fun r_1 w H locs hw hP hD hS => ?_)
  rcases hw with ⟨c_2, rfl, rfl⟩ | ⟨c_3, c_4, rfl, rfl⟩ | ⟨c_5, c_6, rfl, rfl⟩
  · exact absurd c_2 (by decide)
  · have hP : va_P V.1 vwCl [] H := hP
    have hD : va_D A [] := hD
    refine lv_if_eq (tgt := 25) hx hb dX10_whyNot_8 (by decide) (fun _ => ?_) (fun c_7 => absurd c_7 (by decide))
    refine lv_lload_n hx hb dX10_whyNot_25 rfl (lv_at hl 1 rfl) ?_
    refine lv_ldc2 (v := 10) hx hb hown (hg _ q_7_102) dX10_whyNot_26 ?_
    refine lv_ldc2 (v := 19) hx hb hown (hg _ q_7_120) dX10_whyNot_29 ?_
    refine jnI (wr := []) (rnS (rest := []) ⟨hx, hb, hml, hown, hg⟩ (c_X10_within_0 l V 21 10 19) mt_X10_within q_6_114 ⟨Nat.le_of_ble_eq_true rfl, Nat.le_of_ble_eq_true rfl⟩ hK hP hD hS hA hE [] rfl rfl rfl hl.1 rfl (Nat.le_of_ble_eq_true rfl) dX10_whyNot_32 ⟨Nat.le_of_ble_eq_true rfl, Nat.le_of_ble_eq_true rfl⟩) hP hD hS hA [] [] rfl rfl rfl (by decide) (fun r_8 w H locs hw hP hD hS => ?_)
    rcases hw with ⟨c_9, rfl, rfl⟩ | ⟨c_10, c_11, rfl, rfl⟩ | ⟨c_12, c_13, rfl, rfl⟩
    · exact absurd c_9 (by decide)
    · have hP : va_P V.1 vwCl [] H := hP
      have hD : va_D A [] := hD
      refine lv_if_eq (tgt := 50) hx hb dX10_whyNot_35 (by decide) (fun _ => ?_) (fun c_14 => absurd c_14 (by decide))
      refine lv_lload_n hx hb dX10_whyNot_50 rfl (lv_at hl 1 rfl) ?_
      refine lv_ldc2 (v := 20) hx hb hown (hg _ q_7_121) dX10_whyNot_51 ?_
      refine lv_ldc2 (v := 29) hx hb hown (hg _ q_7_122) dX10_whyNot_54 ?_
      refine jnI (wr := []) (rnS (rest := []) ⟨hx, hb, hml, hown, hg⟩ (c_X10_within_0 l V 21 20 29) mt_X10_within q_6_114 ⟨Nat.le_of_ble_eq_true rfl, Nat.le_of_ble_eq_true rfl⟩ hK hP hD hS hA hE [] rfl rfl rfl hl.1 rfl (Nat.le_of_ble_eq_true rfl) dX10_whyNot_57 ⟨Nat.le_of_ble_eq_true rfl, Nat.le_of_ble_eq_true rfl⟩) hP hD hS hA [] [] rfl rfl rfl (by decide) (fun r_15 w H locs hw hP hD hS => ?_)
      rcases hw with ⟨c_16, rfl, rfl⟩ | ⟨c_17, c_18, rfl, rfl⟩ | ⟨c_19, c_20, rfl, rfl⟩
      · exact absurd c_16 (by decide)
      · exact absurd c_18 (by decide)
      · have hP : va_P V.1 vwCl [] H := hP
        have hD : va_D A [] := hD
        refine lv_if_eq (tgt := 67) hx hb dX10_whyNot_60 (by decide) (fun c_21 => absurd c_21 (by decide)) (fun _ => ?_)
        refine lv_iconst (v := 0) hx hb dX10_whyNot_63 (by decide) ?_
        refine lv_goto (tgt := 68) hx hb dX10_whyNot_64 (by decide) ?_
        exact fiI hx hb hr hlk hK hP hD hS dX10_whyNot_68 (Nat.le_of_ble_eq_true rfl) (Nat.le_of_ble_eq_true rfl) (⟨rfl, rfl⟩)
    · exact absurd c_13 (by decide)
  · exact absurd c_6 (by decide)
set_option maxHeartbeats 4000000 in
set_option maxRecDepth 100000 in
theorem c_X10_does_2 (l : Launch) (V : GV) (z : Nat → Nat) (p0 : Int32) (p1 : Int32) (p2 : Int32) : Ct l V yX10_does (.code yX10_does cX10_does 2 none) 1 [.ref (z 0), .int 21] [(z 1, aI V 3075 (upd (upd (fun _ => 0) 51 p0) 52 p1)), (z 0, .inr (10, mo z 0 0 0 0 0 0 0 0 0 0 (-1) 0 p2 0 0 0))] 0 0 (QV V (fun (w : va_W) => (w = [(z 1, aI V 3075 (upd (upd (fun _ => 0) 51 1) 52 p1)), (z 0, .inr (10, mo z 0 0 0 0 0 0 0 0 0 0 (-1) 0 p2 0 0 0))]))) := by
  refine Ct.of (by decide) (Nat.le_of_ble_eq_true rfl) (fun p e s m below meth c A ls hx hb hr hml hown hlk hnm hg hP hK hD hE hA hS hl => ?_)
  have hl : lv_has ls 2 [(0, .ref (z 0)), (1, .int 21)] := hl
  refine lv_iload_n hx hb dX10_does_0 rfl (lv_at hl 1 rfl) ?_
  refine lv_bipush (v := 10) hx hb dX10_does_1 (by decide) ?_
  refine lv_icmp_ge (tgt := 14) hx hb dX10_does_3 (by decide) (fun _ => ?_) (fun c_1 => absurd c_1 (by decide))
  refine lv_iload_n hx hb dX10_does_14 rfl (lv_at hl 1 rfl) ?_
  refine lv_bipush (v := 20) hx hb dX10_does_15 (by decide) ?_
  refine lv_icmp_ge (tgt := 31) hx hb dX10_does_17 (by decide) (fun _ => ?_) (fun c_2 => absurd c_2 (by decide))
  refine lv_aload_n hx hb dX10_does_31 rfl (lv_at hl 0 rfl) ?_
  refine va_get (ci := 10) (v := .ref (z 1)) (C := RX10) (T := TX10) (N := 40) hx hb hg inX10 hown hK hP 1 rfl rfl 1 (by decide) (hg _ q_5_225) (fun _ h9 => h9) rfl dX10_does_32 ?_
  refine lv_bipush (v := 51) hx hb dX10_does_35 (by decide) ?_
  refine lv_iload_n hx hb dX10_does_37 rfl (lv_at hl 1 rfl) ?_
  refine lv_bipush (v := 20) hx hb dX10_does_38 (by decide) ?_
  refine lv_isub hx hb dX10_does_40 ?_
  refine tpi (y := 1) (by decide +kernel) ?_
  refine va_iast hx hb hK hP hD hS 0 0 rfl rfl (vin (by decide +kernel)) dX10_does_41 (fun H locs hP hD hS => ?_)
  have hP : va_P V.1 vwCl [(z 1, aI V 3075 (upd (upd (upd (fun _ => 0) 51 p0) 52 p1) 51 1)), (z 0, .inr (10, mo z 0 0 0 0 0 0 0 0 0 0 (-1) 0 p2 0 0 0))] H := hP
  have hD : va_D A [(z 1, aI V 3075 (upd (upd (upd (fun _ => 0) 51 p0) 52 p1) 51 1)), (z 0, .inr (10, mo z 0 0 0 0 0 0 0 0 0 0 (-1) 0 p2 0 0 0))] := hD
  have hP : va_P V.1 vwCl [(z 1, aI V 3075 (upd (upd (fun _ => 0) 51 1) 52 p1)), (z 0, .inr (10, mo z 0 0 0 0 0 0 0 0 0 0 (-1) 0 p2 0 0 0))] H := by rw [updsw (by decide)] at hP; exact hP
  have hD : va_D A [(z 1, aI V 3075 (upd (upd (fun _ => 0) 51 1) 52 p1)), (z 0, .inr (10, mo z 0 0 0 0 0 0 0 0 0 0 (-1) 0 p2 0 0 0))] := by rw [updsw (by decide)] at hD; exact hD
  exact fiV hx hb hr hlk hK hP hD hS dX10_does_42 (Nat.le_of_ble_eq_true rfl) (Nat.le_of_ble_eq_true rfl) (rfl)
set_option maxHeartbeats 4000000 in
set_option maxRecDepth 100000 in
theorem c_X10_whyNot_10 (l : Launch) (V : GV) (z : Nat → Nat) : Ct l V yX10_whyNot (.code yX10_whyNot cX10_whyNot 3 (some .int)) 2 [.ref (z 0), .long 22] [] 0 0 (QI V (fun (r : Int32) (w : va_W) => (r = 0 ∧ w = []))) := by
  refine Ct.of (by decide) (Nat.le_of_ble_eq_true rfl) (fun p e s m below meth c A ls hx hb hr hml hown hlk hnm hg hP hK hD hE hA hS hl => ?_)
  have hl : lv_has ls 3 [(0, .ref (z 0)), (1, .long 22)] := hl
  refine lv_lload_n hx hb dX10_whyNot_0 rfl (lv_at hl 1 rfl) ?_
  refine lv_lconst (v := 0) hx hb dX10_whyNot_1 (by decide) ?_
  refine lv_ldc2 (v := 9) hx hb hown (hg _ q_7_97) dX10_whyNot_2 ?_
  refine jnI (wr := []) (rnS (rest := []) ⟨hx, hb, hml, hown, hg⟩ (c_X10_within_0 l V 22 0 9) mt_X10_within q_6_114 ⟨Nat.le_of_ble_eq_true rfl, Nat.le_of_ble_eq_true rfl⟩ hK hP hD hS hA hE [] rfl rfl rfl hl.1 rfl (Nat.le_of_ble_eq_true rfl) dX10_whyNot_5 ⟨Nat.le_of_ble_eq_true rfl, Nat.le_of_ble_eq_true rfl⟩) hP hD hS hA [] [] rfl rfl rfl (by decide) (fun r_1 w H locs hw hP hD hS => ?_)
  rcases hw with ⟨c_2, rfl, rfl⟩ | ⟨c_3, c_4, rfl, rfl⟩ | ⟨c_5, c_6, rfl, rfl⟩
  · exact absurd c_2 (by decide)
  · have hP : va_P V.1 vwCl [] H := hP
    have hD : va_D A [] := hD
    refine lv_if_eq (tgt := 25) hx hb dX10_whyNot_8 (by decide) (fun _ => ?_) (fun c_7 => absurd c_7 (by decide))
    refine lv_lload_n hx hb dX10_whyNot_25 rfl (lv_at hl 1 rfl) ?_
    refine lv_ldc2 (v := 10) hx hb hown (hg _ q_7_102) dX10_whyNot_26 ?_
    refine lv_ldc2 (v := 19) hx hb hown (hg _ q_7_120) dX10_whyNot_29 ?_
    refine jnI (wr := []) (rnS (rest := []) ⟨hx, hb, hml, hown, hg⟩ (c_X10_within_0 l V 22 10 19) mt_X10_within q_6_114 ⟨Nat.le_of_ble_eq_true rfl, Nat.le_of_ble_eq_true rfl⟩ hK hP hD hS hA hE [] rfl rfl rfl hl.1 rfl (Nat.le_of_ble_eq_true rfl) dX10_whyNot_32 ⟨Nat.le_of_ble_eq_true rfl, Nat.le_of_ble_eq_true rfl⟩) hP hD hS hA [] [] rfl rfl rfl (by decide) (fun r_8 w H locs hw hP hD hS => ?_)
    rcases hw with ⟨c_9, rfl, rfl⟩ | ⟨c_10, c_11, rfl, rfl⟩ | ⟨c_12, c_13, rfl, rfl⟩
    · exact absurd c_9 (by decide)
    · have hP : va_P V.1 vwCl [] H := hP
      have hD : va_D A [] := hD
      refine lv_if_eq (tgt := 50) hx hb dX10_whyNot_35 (by decide) (fun _ => ?_) (fun c_14 => absurd c_14 (by decide))
      refine lv_lload_n hx hb dX10_whyNot_50 rfl (lv_at hl 1 rfl) ?_
      refine lv_ldc2 (v := 20) hx hb hown (hg _ q_7_121) dX10_whyNot_51 ?_
      refine lv_ldc2 (v := 29) hx hb hown (hg _ q_7_122) dX10_whyNot_54 ?_
      refine jnI (wr := []) (rnS (rest := []) ⟨hx, hb, hml, hown, hg⟩ (c_X10_within_0 l V 22 20 29) mt_X10_within q_6_114 ⟨Nat.le_of_ble_eq_true rfl, Nat.le_of_ble_eq_true rfl⟩ hK hP hD hS hA hE [] rfl rfl rfl hl.1 rfl (Nat.le_of_ble_eq_true rfl) dX10_whyNot_57 ⟨Nat.le_of_ble_eq_true rfl, Nat.le_of_ble_eq_true rfl⟩) hP hD hS hA [] [] rfl rfl rfl (by decide) (fun r_15 w H locs hw hP hD hS => ?_)
      rcases hw with ⟨c_16, rfl, rfl⟩ | ⟨c_17, c_18, rfl, rfl⟩ | ⟨c_19, c_20, rfl, rfl⟩
      · exact absurd c_16 (by decide)
      · exact absurd c_18 (by decide)
      · have hP : va_P V.1 vwCl [] H := hP
        have hD : va_D A [] := hD
        refine lv_if_eq (tgt := 67) hx hb dX10_whyNot_60 (by decide) (fun c_21 => absurd c_21 (by decide)) (fun _ => ?_)
        refine lv_iconst (v := 0) hx hb dX10_whyNot_63 (by decide) ?_
        refine lv_goto (tgt := 68) hx hb dX10_whyNot_64 (by decide) ?_
        exact fiI hx hb hr hlk hK hP hD hS dX10_whyNot_68 (Nat.le_of_ble_eq_true rfl) (Nat.le_of_ble_eq_true rfl) (⟨rfl, rfl⟩)
    · exact absurd c_13 (by decide)
  · exact absurd c_6 (by decide)
set_option maxHeartbeats 4000000 in
set_option maxRecDepth 100000 in
theorem c_X10_does_3 (l : Launch) (V : GV) (z : Nat → Nat) (p0 : Int32) (p1 : Int32) (p2 : Int32) : Ct l V yX10_does (.code yX10_does cX10_does 2 none) 1 [.ref (z 0), .int 22] [(z 1, aI V 3075 (upd (upd (fun _ => 0) 51 p0) 52 p1)), (z 0, .inr (10, mo z 0 0 0 0 0 0 0 0 0 0 (-1) 0 p2 0 0 0))] 0 0 (QV V (fun (w : va_W) => (w = [(z 1, aI V 3075 (upd (upd (fun _ => 0) 51 2) 52 p1)), (z 0, .inr (10, mo z 0 0 0 0 0 0 0 0 0 0 (-1) 0 p2 0 0 0))]))) := by
  refine Ct.of (by decide) (Nat.le_of_ble_eq_true rfl) (fun p e s m below meth c A ls hx hb hr hml hown hlk hnm hg hP hK hD hE hA hS hl => ?_)
  have hl : lv_has ls 2 [(0, .ref (z 0)), (1, .int 22)] := hl
  refine lv_iload_n hx hb dX10_does_0 rfl (lv_at hl 1 rfl) ?_
  refine lv_bipush (v := 10) hx hb dX10_does_1 (by decide) ?_
  refine lv_icmp_ge (tgt := 14) hx hb dX10_does_3 (by decide) (fun _ => ?_) (fun c_1 => absurd c_1 (by decide))
  refine lv_iload_n hx hb dX10_does_14 rfl (lv_at hl 1 rfl) ?_
  refine lv_bipush (v := 20) hx hb dX10_does_15 (by decide) ?_
  refine lv_icmp_ge (tgt := 31) hx hb dX10_does_17 (by decide) (fun _ => ?_) (fun c_2 => absurd c_2 (by decide))
  refine lv_aload_n hx hb dX10_does_31 rfl (lv_at hl 0 rfl) ?_
  refine va_get (ci := 10) (v := .ref (z 1)) (C := RX10) (T := TX10) (N := 40) hx hb hg inX10 hown hK hP 1 rfl rfl 1 (by decide) (hg _ q_5_225) (fun _ h9 => h9) rfl dX10_does_32 ?_
  refine lv_bipush (v := 51) hx hb dX10_does_35 (by decide) ?_
  refine lv_iload_n hx hb dX10_does_37 rfl (lv_at hl 1 rfl) ?_
  refine lv_bipush (v := 20) hx hb dX10_does_38 (by decide) ?_
  refine lv_isub hx hb dX10_does_40 ?_
  refine tpi (y := 2) (by decide +kernel) ?_
  refine va_iast hx hb hK hP hD hS 0 0 rfl rfl (vin (by decide +kernel)) dX10_does_41 (fun H locs hP hD hS => ?_)
  have hP : va_P V.1 vwCl [(z 1, aI V 3075 (upd (upd (upd (fun _ => 0) 51 p0) 52 p1) 51 2)), (z 0, .inr (10, mo z 0 0 0 0 0 0 0 0 0 0 (-1) 0 p2 0 0 0))] H := hP
  have hD : va_D A [(z 1, aI V 3075 (upd (upd (upd (fun _ => 0) 51 p0) 52 p1) 51 2)), (z 0, .inr (10, mo z 0 0 0 0 0 0 0 0 0 0 (-1) 0 p2 0 0 0))] := hD
  have hP : va_P V.1 vwCl [(z 1, aI V 3075 (upd (upd (fun _ => 0) 51 2) 52 p1)), (z 0, .inr (10, mo z 0 0 0 0 0 0 0 0 0 0 (-1) 0 p2 0 0 0))] H := by rw [updsw (by decide)] at hP; exact hP
  have hD : va_D A [(z 1, aI V 3075 (upd (upd (fun _ => 0) 51 2) 52 p1)), (z 0, .inr (10, mo z 0 0 0 0 0 0 0 0 0 0 (-1) 0 p2 0 0 0))] := by rw [updsw (by decide)] at hD; exact hD
  exact fiV hx hb hr hlk hK hP hD hS dX10_does_42 (Nat.le_of_ble_eq_true rfl) (Nat.le_of_ble_eq_true rfl) (rfl)
set_option maxHeartbeats 4000000 in
set_option maxRecDepth 100000 in
theorem c_X10_whyNot_11 (l : Launch) (V : GV) (z : Nat → Nat) : Ct l V yX10_whyNot (.code yX10_whyNot cX10_whyNot 3 (some .int)) 2 [.ref (z 0), .long 23] [] 0 0 (QI V (fun (r : Int32) (w : va_W) => (r = 0 ∧ w = []))) := by
  refine Ct.of (by decide) (Nat.le_of_ble_eq_true rfl) (fun p e s m below meth c A ls hx hb hr hml hown hlk hnm hg hP hK hD hE hA hS hl => ?_)
  have hl : lv_has ls 3 [(0, .ref (z 0)), (1, .long 23)] := hl
  refine lv_lload_n hx hb dX10_whyNot_0 rfl (lv_at hl 1 rfl) ?_
  refine lv_lconst (v := 0) hx hb dX10_whyNot_1 (by decide) ?_
  refine lv_ldc2 (v := 9) hx hb hown (hg _ q_7_97) dX10_whyNot_2 ?_
  refine jnI (wr := []) (rnS (rest := []) ⟨hx, hb, hml, hown, hg⟩ (c_X10_within_0 l V 23 0 9) mt_X10_within q_6_114 ⟨Nat.le_of_ble_eq_true rfl, Nat.le_of_ble_eq_true rfl⟩ hK hP hD hS hA hE [] rfl rfl rfl hl.1 rfl (Nat.le_of_ble_eq_true rfl) dX10_whyNot_5 ⟨Nat.le_of_ble_eq_true rfl, Nat.le_of_ble_eq_true rfl⟩) hP hD hS hA [] [] rfl rfl rfl (by decide) (fun r_1 w H locs hw hP hD hS => ?_)
  rcases hw with ⟨c_2, rfl, rfl⟩ | ⟨c_3, c_4, rfl, rfl⟩ | ⟨c_5, c_6, rfl, rfl⟩
  · exact absurd c_2 (by decide)
  · have hP : va_P V.1 vwCl [] H := hP
    have hD : va_D A [] := hD
    refine lv_if_eq (tgt := 25) hx hb dX10_whyNot_8 (by decide) (fun _ => ?_) (fun c_7 => absurd c_7 (by decide))
    refine lv_lload_n hx hb dX10_whyNot_25 rfl (lv_at hl 1 rfl) ?_
    refine lv_ldc2 (v := 10) hx hb hown (hg _ q_7_102) dX10_whyNot_26 ?_
    refine lv_ldc2 (v := 19) hx hb hown (hg _ q_7_120) dX10_whyNot_29 ?_
    refine jnI (wr := []) (rnS (rest := []) ⟨hx, hb, hml, hown, hg⟩ (c_X10_within_0 l V 23 10 19) mt_X10_within q_6_114 ⟨Nat.le_of_ble_eq_true rfl, Nat.le_of_ble_eq_true rfl⟩ hK hP hD hS hA hE [] rfl rfl rfl hl.1 rfl (Nat.le_of_ble_eq_true rfl) dX10_whyNot_32 ⟨Nat.le_of_ble_eq_true rfl, Nat.le_of_ble_eq_true rfl⟩) hP hD hS hA [] [] rfl rfl rfl (by decide) (fun r_8 w H locs hw hP hD hS => ?_)
    rcases hw with ⟨c_9, rfl, rfl⟩ | ⟨c_10, c_11, rfl, rfl⟩ | ⟨c_12, c_13, rfl, rfl⟩
    · exact absurd c_9 (by decide)
    · have hP : va_P V.1 vwCl [] H := hP
      have hD : va_D A [] := hD
      refine lv_if_eq (tgt := 50) hx hb dX10_whyNot_35 (by decide) (fun _ => ?_) (fun c_14 => absurd c_14 (by decide))
      refine lv_lload_n hx hb dX10_whyNot_50 rfl (lv_at hl 1 rfl) ?_
      refine lv_ldc2 (v := 20) hx hb hown (hg _ q_7_121) dX10_whyNot_51 ?_
      refine lv_ldc2 (v := 29) hx hb hown (hg _ q_7_122) dX10_whyNot_54 ?_
      refine jnI (wr := []) (rnS (rest := []) ⟨hx, hb, hml, hown, hg⟩ (c_X10_within_0 l V 23 20 29) mt_X10_within q_6_114 ⟨Nat.le_of_ble_eq_true rfl, Nat.le_of_ble_eq_true rfl⟩ hK hP hD hS hA hE [] rfl rfl rfl hl.1 rfl (Nat.le_of_ble_eq_true rfl) dX10_whyNot_57 ⟨Nat.le_of_ble_eq_true rfl, Nat.le_of_ble_eq_true rfl⟩) hP hD hS hA [] [] rfl rfl rfl (by decide) (fun r_15 w H locs hw hP hD hS => ?_)
      rcases hw with ⟨c_16, rfl, rfl⟩ | ⟨c_17, c_18, rfl, rfl⟩ | ⟨c_19, c_20, rfl, rfl⟩
      · exact absurd c_16 (by decide)
      · exact absurd c_18 (by decide)
      · have hP : va_P V.1 vwCl [] H := hP
        have hD : va_D A [] := hD
        refine lv_if_eq (tgt := 67) hx hb dX10_whyNot_60 (by decide) (fun c_21 => absurd c_21 (by decide)) (fun _ => ?_)
        refine lv_iconst (v := 0) hx hb dX10_whyNot_63 (by decide) ?_
        refine lv_goto (tgt := 68) hx hb dX10_whyNot_64 (by decide) ?_
        exact fiI hx hb hr hlk hK hP hD hS dX10_whyNot_68 (Nat.le_of_ble_eq_true rfl) (Nat.le_of_ble_eq_true rfl) (⟨rfl, rfl⟩)
    · exact absurd c_13 (by decide)
  · exact absurd c_6 (by decide)
set_option maxHeartbeats 4000000 in
set_option maxRecDepth 100000 in
theorem c_X10_does_4 (l : Launch) (V : GV) (z : Nat → Nat) (p0 : Int32) (p1 : Int32) (p2 : Int32) : Ct l V yX10_does (.code yX10_does cX10_does 2 none) 1 [.ref (z 0), .int 23] [(z 1, aI V 3075 (upd (upd (fun _ => 0) 51 p0) 52 p1)), (z 0, .inr (10, mo z 0 0 0 0 0 0 0 0 0 0 (-1) 0 p2 0 0 0))] 0 0 (QV V (fun (w : va_W) => (w = [(z 1, aI V 3075 (upd (upd (fun _ => 0) 51 3) 52 p1)), (z 0, .inr (10, mo z 0 0 0 0 0 0 0 0 0 0 (-1) 0 p2 0 0 0))]))) := by
  refine Ct.of (by decide) (Nat.le_of_ble_eq_true rfl) (fun p e s m below meth c A ls hx hb hr hml hown hlk hnm hg hP hK hD hE hA hS hl => ?_)
  have hl : lv_has ls 2 [(0, .ref (z 0)), (1, .int 23)] := hl
  refine lv_iload_n hx hb dX10_does_0 rfl (lv_at hl 1 rfl) ?_
  refine lv_bipush (v := 10) hx hb dX10_does_1 (by decide) ?_
  refine lv_icmp_ge (tgt := 14) hx hb dX10_does_3 (by decide) (fun _ => ?_) (fun c_1 => absurd c_1 (by decide))
  refine lv_iload_n hx hb dX10_does_14 rfl (lv_at hl 1 rfl) ?_
  refine lv_bipush (v := 20) hx hb dX10_does_15 (by decide) ?_
  refine lv_icmp_ge (tgt := 31) hx hb dX10_does_17 (by decide) (fun _ => ?_) (fun c_2 => absurd c_2 (by decide))
  refine lv_aload_n hx hb dX10_does_31 rfl (lv_at hl 0 rfl) ?_
  refine va_get (ci := 10) (v := .ref (z 1)) (C := RX10) (T := TX10) (N := 40) hx hb hg inX10 hown hK hP 1 rfl rfl 1 (by decide) (hg _ q_5_225) (fun _ h9 => h9) rfl dX10_does_32 ?_
  refine lv_bipush (v := 51) hx hb dX10_does_35 (by decide) ?_
  refine lv_iload_n hx hb dX10_does_37 rfl (lv_at hl 1 rfl) ?_
  refine lv_bipush (v := 20) hx hb dX10_does_38 (by decide) ?_
  refine lv_isub hx hb dX10_does_40 ?_
  refine tpi (y := 3) (by decide +kernel) ?_
  refine va_iast hx hb hK hP hD hS 0 0 rfl rfl (vin (by decide +kernel)) dX10_does_41 (fun H locs hP hD hS => ?_)
  have hP : va_P V.1 vwCl [(z 1, aI V 3075 (upd (upd (upd (fun _ => 0) 51 p0) 52 p1) 51 3)), (z 0, .inr (10, mo z 0 0 0 0 0 0 0 0 0 0 (-1) 0 p2 0 0 0))] H := hP
  have hD : va_D A [(z 1, aI V 3075 (upd (upd (upd (fun _ => 0) 51 p0) 52 p1) 51 3)), (z 0, .inr (10, mo z 0 0 0 0 0 0 0 0 0 0 (-1) 0 p2 0 0 0))] := hD
  have hP : va_P V.1 vwCl [(z 1, aI V 3075 (upd (upd (fun _ => 0) 51 3) 52 p1)), (z 0, .inr (10, mo z 0 0 0 0 0 0 0 0 0 0 (-1) 0 p2 0 0 0))] H := by rw [updsw (by decide)] at hP; exact hP
  have hD : va_D A [(z 1, aI V 3075 (upd (upd (fun _ => 0) 51 3) 52 p1)), (z 0, .inr (10, mo z 0 0 0 0 0 0 0 0 0 0 (-1) 0 p2 0 0 0))] := by rw [updsw (by decide)] at hD; exact hD
  exact fiV hx hb hr hlk hK hP hD hS dX10_does_42 (Nat.le_of_ble_eq_true rfl) (Nat.le_of_ble_eq_true rfl) (rfl)
set_option maxHeartbeats 4000000 in
set_option maxRecDepth 100000 in
theorem c_X10_whyNot_12 (l : Launch) (V : GV) (z : Nat → Nat) : Ct l V yX10_whyNot (.code yX10_whyNot cX10_whyNot 3 (some .int)) 2 [.ref (z 0), .long 24] [] 0 0 (QI V (fun (r : Int32) (w : va_W) => (r = 0 ∧ w = []))) := by
  refine Ct.of (by decide) (Nat.le_of_ble_eq_true rfl) (fun p e s m below meth c A ls hx hb hr hml hown hlk hnm hg hP hK hD hE hA hS hl => ?_)
  have hl : lv_has ls 3 [(0, .ref (z 0)), (1, .long 24)] := hl
  refine lv_lload_n hx hb dX10_whyNot_0 rfl (lv_at hl 1 rfl) ?_
  refine lv_lconst (v := 0) hx hb dX10_whyNot_1 (by decide) ?_
  refine lv_ldc2 (v := 9) hx hb hown (hg _ q_7_97) dX10_whyNot_2 ?_
  refine jnI (wr := []) (rnS (rest := []) ⟨hx, hb, hml, hown, hg⟩ (c_X10_within_0 l V 24 0 9) mt_X10_within q_6_114 ⟨Nat.le_of_ble_eq_true rfl, Nat.le_of_ble_eq_true rfl⟩ hK hP hD hS hA hE [] rfl rfl rfl hl.1 rfl (Nat.le_of_ble_eq_true rfl) dX10_whyNot_5 ⟨Nat.le_of_ble_eq_true rfl, Nat.le_of_ble_eq_true rfl⟩) hP hD hS hA [] [] rfl rfl rfl (by decide) (fun r_1 w H locs hw hP hD hS => ?_)
  rcases hw with ⟨c_2, rfl, rfl⟩ | ⟨c_3, c_4, rfl, rfl⟩ | ⟨c_5, c_6, rfl, rfl⟩
  · exact absurd c_2 (by decide)
  · have hP : va_P V.1 vwCl [] H := hP
    have hD : va_D A [] := hD
    refine lv_if_eq (tgt := 25) hx hb dX10_whyNot_8 (by decide) (fun _ => ?_) (fun c_7 => absurd c_7 (by decide))
    refine lv_lload_n hx hb dX10_whyNot_25 rfl (lv_at hl 1 rfl) ?_
    refine lv_ldc2 (v := 10) hx hb hown (hg _ q_7_102) dX10_whyNot_26 ?_
    refine lv_ldc2 (v := 19) hx hb hown (hg _ q_7_120) dX10_whyNot_29 ?_
    refine jnI (wr := []) (rnS (rest := []) ⟨hx, hb, hml, hown, hg⟩ (c_X10_within_0 l V 24 10 19) mt_X10_within q_6_114 ⟨Nat.le_of_ble_eq_true rfl, Nat.le_of_ble_eq_true rfl⟩ hK hP hD hS hA hE [] rfl rfl rfl hl.1 rfl (Nat.le_of_ble_eq_true rfl) dX10_whyNot_32 ⟨Nat.le_of_ble_eq_true rfl, Nat.le_of_ble_eq_true rfl⟩) hP hD hS hA [] [] rfl rfl rfl (by decide) (fun r_8 w H locs hw hP hD hS => ?_)
    rcases hw with ⟨c_9, rfl, rfl⟩ | ⟨c_10, c_11, rfl, rfl⟩ | ⟨c_12, c_13, rfl, rfl⟩
    · exact absurd c_9 (by decide)
    · have hP : va_P V.1 vwCl [] H := hP
      have hD : va_D A [] := hD
      refine lv_if_eq (tgt := 50) hx hb dX10_whyNot_35 (by decide) (fun _ => ?_) (fun c_14 => absurd c_14 (by decide))
      refine lv_lload_n hx hb dX10_whyNot_50 rfl (lv_at hl 1 rfl) ?_
      refine lv_ldc2 (v := 20) hx hb hown (hg _ q_7_121) dX10_whyNot_51 ?_
      refine lv_ldc2 (v := 29) hx hb hown (hg _ q_7_122) dX10_whyNot_54 ?_
      refine jnI (wr := []) (rnS (rest := []) ⟨hx, hb, hml, hown, hg⟩ (c_X10_within_0 l V 24 20 29) mt_X10_within q_6_114 ⟨Nat.le_of_ble_eq_true rfl, Nat.le_of_ble_eq_true rfl⟩ hK hP hD hS hA hE [] rfl rfl rfl hl.1 rfl (Nat.le_of_ble_eq_true rfl) dX10_whyNot_57 ⟨Nat.le_of_ble_eq_true rfl, Nat.le_of_ble_eq_true rfl⟩) hP hD hS hA [] [] rfl rfl rfl (by decide) (fun r_15 w H locs hw hP hD hS => ?_)
      rcases hw with ⟨c_16, rfl, rfl⟩ | ⟨c_17, c_18, rfl, rfl⟩ | ⟨c_19, c_20, rfl, rfl⟩
      · exact absurd c_16 (by decide)
      · exact absurd c_18 (by decide)
      · have hP : va_P V.1 vwCl [] H := hP
        have hD : va_D A [] := hD
        refine lv_if_eq (tgt := 67) hx hb dX10_whyNot_60 (by decide) (fun c_21 => absurd c_21 (by decide)) (fun _ => ?_)
        refine lv_iconst (v := 0) hx hb dX10_whyNot_63 (by decide) ?_
        refine lv_goto (tgt := 68) hx hb dX10_whyNot_64 (by decide) ?_
        exact fiI hx hb hr hlk hK hP hD hS dX10_whyNot_68 (Nat.le_of_ble_eq_true rfl) (Nat.le_of_ble_eq_true rfl) (⟨rfl, rfl⟩)
    · exact absurd c_13 (by decide)
  · exact absurd c_6 (by decide)
set_option maxHeartbeats 4000000 in
set_option maxRecDepth 100000 in
theorem c_X10_does_5 (l : Launch) (V : GV) (z : Nat → Nat) (p0 : Int32) (p1 : Int32) (p2 : Int32) : Ct l V yX10_does (.code yX10_does cX10_does 2 none) 1 [.ref (z 0), .int 24] [(z 1, aI V 3075 (upd (upd (fun _ => 0) 51 p0) 52 p1)), (z 0, .inr (10, mo z 0 0 0 0 0 0 0 0 0 0 (-1) 0 p2 0 0 0))] 0 0 (QV V (fun (w : va_W) => (w = [(z 1, aI V 3075 (upd (upd (fun _ => 0) 51 4) 52 p1)), (z 0, .inr (10, mo z 0 0 0 0 0 0 0 0 0 0 (-1) 0 p2 0 0 0))]))) := by
  refine Ct.of (by decide) (Nat.le_of_ble_eq_true rfl) (fun p e s m below meth c A ls hx hb hr hml hown hlk hnm hg hP hK hD hE hA hS hl => ?_)
  have hl : lv_has ls 2 [(0, .ref (z 0)), (1, .int 24)] := hl
  refine lv_iload_n hx hb dX10_does_0 rfl (lv_at hl 1 rfl) ?_
  refine lv_bipush (v := 10) hx hb dX10_does_1 (by decide) ?_
  refine lv_icmp_ge (tgt := 14) hx hb dX10_does_3 (by decide) (fun _ => ?_) (fun c_1 => absurd c_1 (by decide))
  refine lv_iload_n hx hb dX10_does_14 rfl (lv_at hl 1 rfl) ?_
  refine lv_bipush (v := 20) hx hb dX10_does_15 (by decide) ?_
  refine lv_icmp_ge (tgt := 31) hx hb dX10_does_17 (by decide) (fun _ => ?_) (fun c_2 => absurd c_2 (by decide))
  refine lv_aload_n hx hb dX10_does_31 rfl (lv_at hl 0 rfl) ?_
  refine va_get (ci := 10) (v := .ref (z 1)) (C := RX10) (T := TX10) (N := 40) hx hb hg inX10 hown hK hP 1 rfl rfl 1 (by decide) (hg _ q_5_225) (fun _ h9 => h9) rfl dX10_does_32 ?_
  refine lv_bipush (v := 51) hx hb dX10_does_35 (by decide) ?_
  refine lv_iload_n hx hb dX10_does_37 rfl (lv_at hl 1 rfl) ?_
  refine lv_bipush (v := 20) hx hb dX10_does_38 (by decide) ?_
  refine lv_isub hx hb dX10_does_40 ?_
  refine tpi (y := 4) (by decide +kernel) ?_
  refine va_iast hx hb hK hP hD hS 0 0 rfl rfl (vin (by decide +kernel)) dX10_does_41 (fun H locs hP hD hS => ?_)
  have hP : va_P V.1 vwCl [(z 1, aI V 3075 (upd (upd (upd (fun _ => 0) 51 p0) 52 p1) 51 4)), (z 0, .inr (10, mo z 0 0 0 0 0 0 0 0 0 0 (-1) 0 p2 0 0 0))] H := hP
  have hD : va_D A [(z 1, aI V 3075 (upd (upd (upd (fun _ => 0) 51 p0) 52 p1) 51 4)), (z 0, .inr (10, mo z 0 0 0 0 0 0 0 0 0 0 (-1) 0 p2 0 0 0))] := hD
  have hP : va_P V.1 vwCl [(z 1, aI V 3075 (upd (upd (fun _ => 0) 51 4) 52 p1)), (z 0, .inr (10, mo z 0 0 0 0 0 0 0 0 0 0 (-1) 0 p2 0 0 0))] H := by rw [updsw (by decide)] at hP; exact hP
  have hD : va_D A [(z 1, aI V 3075 (upd (upd (fun _ => 0) 51 4) 52 p1)), (z 0, .inr (10, mo z 0 0 0 0 0 0 0 0 0 0 (-1) 0 p2 0 0 0))] := by rw [updsw (by decide)] at hD; exact hD
  exact fiV hx hb hr hlk hK hP hD hS dX10_does_42 (Nat.le_of_ble_eq_true rfl) (Nat.le_of_ble_eq_true rfl) (rfl)
set_option maxHeartbeats 4000000 in
set_option maxRecDepth 100000 in
theorem c_X10_whyNot_13 (l : Launch) (V : GV) (z : Nat → Nat) : Ct l V yX10_whyNot (.code yX10_whyNot cX10_whyNot 3 (some .int)) 2 [.ref (z 0), .long 25] [] 0 0 (QI V (fun (r : Int32) (w : va_W) => (r = 0 ∧ w = []))) := by
  refine Ct.of (by decide) (Nat.le_of_ble_eq_true rfl) (fun p e s m below meth c A ls hx hb hr hml hown hlk hnm hg hP hK hD hE hA hS hl => ?_)
  have hl : lv_has ls 3 [(0, .ref (z 0)), (1, .long 25)] := hl
  refine lv_lload_n hx hb dX10_whyNot_0 rfl (lv_at hl 1 rfl) ?_
  refine lv_lconst (v := 0) hx hb dX10_whyNot_1 (by decide) ?_
  refine lv_ldc2 (v := 9) hx hb hown (hg _ q_7_97) dX10_whyNot_2 ?_
  refine jnI (wr := []) (rnS (rest := []) ⟨hx, hb, hml, hown, hg⟩ (c_X10_within_0 l V 25 0 9) mt_X10_within q_6_114 ⟨Nat.le_of_ble_eq_true rfl, Nat.le_of_ble_eq_true rfl⟩ hK hP hD hS hA hE [] rfl rfl rfl hl.1 rfl (Nat.le_of_ble_eq_true rfl) dX10_whyNot_5 ⟨Nat.le_of_ble_eq_true rfl, Nat.le_of_ble_eq_true rfl⟩) hP hD hS hA [] [] rfl rfl rfl (by decide) (fun r_1 w H locs hw hP hD hS => ?_)
  rcases hw with ⟨c_2, rfl, rfl⟩ | ⟨c_3, c_4, rfl, rfl⟩ | ⟨c_5, c_6, rfl, rfl⟩
  · exact absurd c_2 (by decide)
  · have hP : va_P V.1 vwCl [] H := hP
    have hD : va_D A [] := hD
    refine lv_if_eq (tgt := 25) hx hb dX10_whyNot_8 (by decide) (fun _ => ?_) (fun c_7 => absurd c_7 (by decide))
    refine lv_lload_n hx hb dX10_whyNot_25 rfl (lv_at hl 1 rfl) ?_
    refine lv_ldc2 (v := 10) hx hb hown (hg _ q_7_102) dX10_whyNot_26 ?_
    refine lv_ldc2 (v := 19) hx hb hown (hg _ q_7_120) dX10_whyNot_29 ?_
    refine jnI (wr := []) (rnS (rest := []) ⟨hx, hb, hml, hown, hg⟩ (c_X10_within_0 l V 25 10 19) mt_X10_within q_6_114 ⟨Nat.le_of_ble_eq_true rfl, Nat.le_of_ble_eq_true rfl⟩ hK hP hD hS hA hE [] rfl rfl rfl hl.1 rfl (Nat.le_of_ble_eq_true rfl) dX10_whyNot_32 ⟨Nat.le_of_ble_eq_true rfl, Nat.le_of_ble_eq_true rfl⟩) hP hD hS hA [] [] rfl rfl rfl (by decide) (fun r_8 w H locs hw hP hD hS => ?_)
    rcases hw with ⟨c_9, rfl, rfl⟩ | ⟨c_10, c_11, rfl, rfl⟩ | ⟨c_12, c_13, rfl, rfl⟩
    · exact absurd c_9 (by decide)
    · have hP : va_P V.1 vwCl [] H := hP
      have hD : va_D A [] := hD
      refine lv_if_eq (tgt := 50) hx hb dX10_whyNot_35 (by decide) (fun _ => ?_) (fun c_14 => absurd c_14 (by decide))
      refine lv_lload_n hx hb dX10_whyNot_50 rfl (lv_at hl 1 rfl) ?_
      refine lv_ldc2 (v := 20) hx hb hown (hg _ q_7_121) dX10_whyNot_51 ?_
      refine lv_ldc2 (v := 29) hx hb hown (hg _ q_7_122) dX10_whyNot_54 ?_
      refine jnI (wr := []) (rnS (rest := []) ⟨hx, hb, hml, hown, hg⟩ (c_X10_within_0 l V 25 20 29) mt_X10_within q_6_114 ⟨Nat.le_of_ble_eq_true rfl, Nat.le_of_ble_eq_true rfl⟩ hK hP hD hS hA hE [] rfl rfl rfl hl.1 rfl (Nat.le_of_ble_eq_true rfl) dX10_whyNot_57 ⟨Nat.le_of_ble_eq_true rfl, Nat.le_of_ble_eq_true rfl⟩) hP hD hS hA [] [] rfl rfl rfl (by decide) (fun r_15 w H locs hw hP hD hS => ?_)
      rcases hw with ⟨c_16, rfl, rfl⟩ | ⟨c_17, c_18, rfl, rfl⟩ | ⟨c_19, c_20, rfl, rfl⟩
      · exact absurd c_16 (by decide)
      · exact absurd c_18 (by decide)
      · have hP : va_P V.1 vwCl [] H := hP
        have hD : va_D A [] := hD
        refine lv_if_eq (tgt := 67) hx hb dX10_whyNot_60 (by decide) (fun c_21 => absurd c_21 (by decide)) (fun _ => ?_)
        refine lv_iconst (v := 0) hx hb dX10_whyNot_63 (by decide) ?_
        refine lv_goto (tgt := 68) hx hb dX10_whyNot_64 (by decide) ?_
        exact fiI hx hb hr hlk hK hP hD hS dX10_whyNot_68 (Nat.le_of_ble_eq_true rfl) (Nat.le_of_ble_eq_true rfl) (⟨rfl, rfl⟩)
    · exact absurd c_13 (by decide)
  · exact absurd c_6 (by decide)
set_option maxHeartbeats 4000000 in
set_option maxRecDepth 100000 in
theorem c_X10_does_6 (l : Launch) (V : GV) (z : Nat → Nat) (p0 : Int32) (p1 : Int32) (p2 : Int32) : Ct l V yX10_does (.code yX10_does cX10_does 2 none) 1 [.ref (z 0), .int 25] [(z 1, aI V 3075 (upd (upd (fun _ => 0) 51 p0) 52 p1)), (z 0, .inr (10, mo z 0 0 0 0 0 0 0 0 0 0 (-1) 0 p2 0 0 0))] 0 0 (QV V (fun (w : va_W) => (w = [(z 1, aI V 3075 (upd (upd (fun _ => 0) 51 5) 52 p1)), (z 0, .inr (10, mo z 0 0 0 0 0 0 0 0 0 0 (-1) 0 p2 0 0 0))]))) := by
  refine Ct.of (by decide) (Nat.le_of_ble_eq_true rfl) (fun p e s m below meth c A ls hx hb hr hml hown hlk hnm hg hP hK hD hE hA hS hl => ?_)
  have hl : lv_has ls 2 [(0, .ref (z 0)), (1, .int 25)] := hl
  refine lv_iload_n hx hb dX10_does_0 rfl (lv_at hl 1 rfl) ?_
  refine lv_bipush (v := 10) hx hb dX10_does_1 (by decide) ?_
  refine lv_icmp_ge (tgt := 14) hx hb dX10_does_3 (by decide) (fun _ => ?_) (fun c_1 => absurd c_1 (by decide))
  refine lv_iload_n hx hb dX10_does_14 rfl (lv_at hl 1 rfl) ?_
  refine lv_bipush (v := 20) hx hb dX10_does_15 (by decide) ?_
  refine lv_icmp_ge (tgt := 31) hx hb dX10_does_17 (by decide) (fun _ => ?_) (fun c_2 => absurd c_2 (by decide))
  refine lv_aload_n hx hb dX10_does_31 rfl (lv_at hl 0 rfl) ?_
  refine va_get (ci := 10) (v := .ref (z 1)) (C := RX10) (T := TX10) (N := 40) hx hb hg inX10 hown hK hP 1 rfl rfl 1 (by decide) (hg _ q_5_225) (fun _ h9 => h9) rfl dX10_does_32 ?_
  refine lv_bipush (v := 51) hx hb dX10_does_35 (by decide) ?_
  refine lv_iload_n hx hb dX10_does_37 rfl (lv_at hl 1 rfl) ?_
  refine lv_bipush (v := 20) hx hb dX10_does_38 (by decide) ?_
  refine lv_isub hx hb dX10_does_40 ?_
  refine tpi (y := 5) (by decide +kernel) ?_
  refine va_iast hx hb hK hP hD hS 0 0 rfl rfl (vin (by decide +kernel)) dX10_does_41 (fun H locs hP hD hS => ?_)
  have hP : va_P V.1 vwCl [(z 1, aI V 3075 (upd (upd (upd (fun _ => 0) 51 p0) 52 p1) 51 5)), (z 0, .inr (10, mo z 0 0 0 0 0 0 0 0 0 0 (-1) 0 p2 0 0 0))] H := hP
  have hD : va_D A [(z 1, aI V 3075 (upd (upd (upd (fun _ => 0) 51 p0) 52 p1) 51 5)), (z 0, .inr (10, mo z 0 0 0 0 0 0 0 0 0 0 (-1) 0 p2 0 0 0))] := hD
  have hP : va_P V.1 vwCl [(z 1, aI V 3075 (upd (upd (fun _ => 0) 51 5) 52 p1)), (z 0, .inr (10, mo z 0 0 0 0 0 0 0 0 0 0 (-1) 0 p2 0 0 0))] H := by rw [updsw (by decide)] at hP; exact hP
  have hD : va_D A [(z 1, aI V 3075 (upd (upd (fun _ => 0) 51 5) 52 p1)), (z 0, .inr (10, mo z 0 0 0 0 0 0 0 0 0 0 (-1) 0 p2 0 0 0))] := by rw [updsw (by decide)] at hD; exact hD
  exact fiV hx hb hr hlk hK hP hD hS dX10_does_42 (Nat.le_of_ble_eq_true rfl) (Nat.le_of_ble_eq_true rfl) (rfl)
set_option maxHeartbeats 4000000 in
set_option maxRecDepth 100000 in
theorem c_X10_whyNot_14 (l : Launch) (V : GV) (z : Nat → Nat) : Ct l V yX10_whyNot (.code yX10_whyNot cX10_whyNot 3 (some .int)) 2 [.ref (z 0), .long 26] [] 0 0 (QI V (fun (r : Int32) (w : va_W) => (r = 0 ∧ w = []))) := by
  refine Ct.of (by decide) (Nat.le_of_ble_eq_true rfl) (fun p e s m below meth c A ls hx hb hr hml hown hlk hnm hg hP hK hD hE hA hS hl => ?_)
  have hl : lv_has ls 3 [(0, .ref (z 0)), (1, .long 26)] := hl
  refine lv_lload_n hx hb dX10_whyNot_0 rfl (lv_at hl 1 rfl) ?_
  refine lv_lconst (v := 0) hx hb dX10_whyNot_1 (by decide) ?_
  refine lv_ldc2 (v := 9) hx hb hown (hg _ q_7_97) dX10_whyNot_2 ?_
  refine jnI (wr := []) (rnS (rest := []) ⟨hx, hb, hml, hown, hg⟩ (c_X10_within_0 l V 26 0 9) mt_X10_within q_6_114 ⟨Nat.le_of_ble_eq_true rfl, Nat.le_of_ble_eq_true rfl⟩ hK hP hD hS hA hE [] rfl rfl rfl hl.1 rfl (Nat.le_of_ble_eq_true rfl) dX10_whyNot_5 ⟨Nat.le_of_ble_eq_true rfl, Nat.le_of_ble_eq_true rfl⟩) hP hD hS hA [] [] rfl rfl rfl (by decide) (fun r_1 w H locs hw hP hD hS => ?_)
  rcases hw with ⟨c_2, rfl, rfl⟩ | ⟨c_3, c_4, rfl, rfl⟩ | ⟨c_5, c_6, rfl, rfl⟩
  · exact absurd c_2 (by decide)
  · have hP : va_P V.1 vwCl [] H := hP
    have hD : va_D A [] := hD
    refine lv_if_eq (tgt := 25) hx hb dX10_whyNot_8 (by decide) (fun _ => ?_) (fun c_7 => absurd c_7 (by decide))
    refine lv_lload_n hx hb dX10_whyNot_25 rfl (lv_at hl 1 rfl) ?_
    refine lv_ldc2 (v := 10) hx hb hown (hg _ q_7_102) dX10_whyNot_26 ?_
    refine lv_ldc2 (v := 19) hx hb hown (hg _ q_7_120) dX10_whyNot_29 ?_
    refine jnI (wr := []) (rnS (rest := []) ⟨hx, hb, hml, hown, hg⟩ (c_X10_within_0 l V 26 10 19) mt_X10_within q_6_114 ⟨Nat.le_of_ble_eq_true rfl, Nat.le_of_ble_eq_true rfl⟩ hK hP hD hS hA hE [] rfl rfl rfl hl.1 rfl (Nat.le_of_ble_eq_true rfl) dX10_whyNot_32 ⟨Nat.le_of_ble_eq_true rfl, Nat.le_of_ble_eq_true rfl⟩) hP hD hS hA [] [] rfl rfl rfl (by decide) (fun r_8 w H locs hw hP hD hS => ?_)
    rcases hw with ⟨c_9, rfl, rfl⟩ | ⟨c_10, c_11, rfl, rfl⟩ | ⟨c_12, c_13, rfl, rfl⟩
    · exact absurd c_9 (by decide)
    · have hP : va_P V.1 vwCl [] H := hP
      have hD : va_D A [] := hD
      refine lv_if_eq (tgt := 50) hx hb dX10_whyNot_35 (by decide) (fun _ => ?_) (fun c_14 => absurd c_14 (by decide))
      refine lv_lload_n hx hb dX10_whyNot_50 rfl (lv_at hl 1 rfl) ?_
      refine lv_ldc2 (v := 20) hx hb hown (hg _ q_7_121) dX10_whyNot_51 ?_
      refine lv_ldc2 (v := 29) hx hb hown (hg _ q_7_122) dX10_whyNot_54 ?_
      refine jnI (wr := []) (rnS (rest := []) ⟨hx, hb, hml, hown, hg⟩ (c_X10_within_0 l V 26 20 29) mt_X10_within q_6_114 ⟨Nat.le_of_ble_eq_true rfl, Nat.le_of_ble_eq_true rfl⟩ hK hP hD hS hA hE [] rfl rfl rfl hl.1 rfl (Nat.le_of_ble_eq_true rfl) dX10_whyNot_57 ⟨Nat.le_of_ble_eq_true rfl, Nat.le_of_ble_eq_true rfl⟩) hP hD hS hA [] [] rfl rfl rfl (by decide) (fun r_15 w H locs hw hP hD hS => ?_)
      rcases hw with ⟨c_16, rfl, rfl⟩ | ⟨c_17, c_18, rfl, rfl⟩ | ⟨c_19, c_20, rfl, rfl⟩
      · exact absurd c_16 (by decide)
      · exact absurd c_18 (by decide)
      · have hP : va_P V.1 vwCl [] H := hP
        have hD : va_D A [] := hD
        refine lv_if_eq (tgt := 67) hx hb dX10_whyNot_60 (by decide) (fun c_21 => absurd c_21 (by decide)) (fun _ => ?_)
        refine lv_iconst (v := 0) hx hb dX10_whyNot_63 (by decide) ?_
        refine lv_goto (tgt := 68) hx hb dX10_whyNot_64 (by decide) ?_
        exact fiI hx hb hr hlk hK hP hD hS dX10_whyNot_68 (Nat.le_of_ble_eq_true rfl) (Nat.le_of_ble_eq_true rfl) (⟨rfl, rfl⟩)
    · exact absurd c_13 (by decide)
  · exact absurd c_6 (by decide)
set_option maxHeartbeats 4000000 in
set_option maxRecDepth 100000 in
theorem c_X10_does_7 (l : Launch) (V : GV) (z : Nat → Nat) (p0 : Int32) (p1 : Int32) (p2 : Int32) : Ct l V yX10_does (.code yX10_does cX10_does 2 none) 1 [.ref (z 0), .int 26] [(z 1, aI V 3075 (upd (upd (fun _ => 0) 51 p0) 52 p1)), (z 0, .inr (10, mo z 0 0 0 0 0 0 0 0 0 0 (-1) 0 p2 0 0 0))] 0 0 (QV V (fun (w : va_W) => (w = [(z 1, aI V 3075 (upd (upd (fun _ => 0) 51 6) 52 p1)), (z 0, .inr (10, mo z 0 0 0 0 0 0 0 0 0 0 (-1) 0 p2 0 0 0))]))) := by
  refine Ct.of (by decide) (Nat.le_of_ble_eq_true rfl) (fun p e s m below meth c A ls hx hb hr hml hown hlk hnm hg hP hK hD hE hA hS hl => ?_)
  have hl : lv_has ls 2 [(0, .ref (z 0)), (1, .int 26)] := hl
  refine lv_iload_n hx hb dX10_does_0 rfl (lv_at hl 1 rfl) ?_
  refine lv_bipush (v := 10) hx hb dX10_does_1 (by decide) ?_
  refine lv_icmp_ge (tgt := 14) hx hb dX10_does_3 (by decide) (fun _ => ?_) (fun c_1 => absurd c_1 (by decide))
  refine lv_iload_n hx hb dX10_does_14 rfl (lv_at hl 1 rfl) ?_
  refine lv_bipush (v := 20) hx hb dX10_does_15 (by decide) ?_
  refine lv_icmp_ge (tgt := 31) hx hb dX10_does_17 (by decide) (fun _ => ?_) (fun c_2 => absurd c_2 (by decide))
  refine lv_aload_n hx hb dX10_does_31 rfl (lv_at hl 0 rfl) ?_
  refine va_get (ci := 10) (v := .ref (z 1)) (C := RX10) (T := TX10) (N := 40) hx hb hg inX10 hown hK hP 1 rfl rfl 1 (by decide) (hg _ q_5_225) (fun _ h9 => h9) rfl dX10_does_32 ?_
  refine lv_bipush (v := 51) hx hb dX10_does_35 (by decide) ?_
  refine lv_iload_n hx hb dX10_does_37 rfl (lv_at hl 1 rfl) ?_
  refine lv_bipush (v := 20) hx hb dX10_does_38 (by decide) ?_
  refine lv_isub hx hb dX10_does_40 ?_
  refine tpi (y := 6) (by decide +kernel) ?_
  refine va_iast hx hb hK hP hD hS 0 0 rfl rfl (vin (by decide +kernel)) dX10_does_41 (fun H locs hP hD hS => ?_)
  have hP : va_P V.1 vwCl [(z 1, aI V 3075 (upd (upd (upd (fun _ => 0) 51 p0) 52 p1) 51 6)), (z 0, .inr (10, mo z 0 0 0 0 0 0 0 0 0 0 (-1) 0 p2 0 0 0))] H := hP
  have hD : va_D A [(z 1, aI V 3075 (upd (upd (upd (fun _ => 0) 51 p0) 52 p1) 51 6)), (z 0, .inr (10, mo z 0 0 0 0 0 0 0 0 0 0 (-1) 0 p2 0 0 0))] := hD
  have hP : va_P V.1 vwCl [(z 1, aI V 3075 (upd (upd (fun _ => 0) 51 6) 52 p1)), (z 0, .inr (10, mo z 0 0 0 0 0 0 0 0 0 0 (-1) 0 p2 0 0 0))] H := by rw [updsw (by decide)] at hP; exact hP
  have hD : va_D A [(z 1, aI V 3075 (upd (upd (fun _ => 0) 51 6) 52 p1)), (z 0, .inr (10, mo z 0 0 0 0 0 0 0 0 0 0 (-1) 0 p2 0 0 0))] := by rw [updsw (by decide)] at hD; exact hD
  exact fiV hx hb hr hlk hK hP hD hS dX10_does_42 (Nat.le_of_ble_eq_true rfl) (Nat.le_of_ble_eq_true rfl) (rfl)
set_option maxHeartbeats 4000000 in
set_option maxRecDepth 100000 in
theorem c_X10_whyNot_15 (l : Launch) (V : GV) (z : Nat → Nat) : Ct l V yX10_whyNot (.code yX10_whyNot cX10_whyNot 3 (some .int)) 2 [.ref (z 0), .long 27] [] 0 0 (QI V (fun (r : Int32) (w : va_W) => (r = 0 ∧ w = []))) := by
  refine Ct.of (by decide) (Nat.le_of_ble_eq_true rfl) (fun p e s m below meth c A ls hx hb hr hml hown hlk hnm hg hP hK hD hE hA hS hl => ?_)
  have hl : lv_has ls 3 [(0, .ref (z 0)), (1, .long 27)] := hl
  refine lv_lload_n hx hb dX10_whyNot_0 rfl (lv_at hl 1 rfl) ?_
  refine lv_lconst (v := 0) hx hb dX10_whyNot_1 (by decide) ?_
  refine lv_ldc2 (v := 9) hx hb hown (hg _ q_7_97) dX10_whyNot_2 ?_
  refine jnI (wr := []) (rnS (rest := []) ⟨hx, hb, hml, hown, hg⟩ (c_X10_within_0 l V 27 0 9) mt_X10_within q_6_114 ⟨Nat.le_of_ble_eq_true rfl, Nat.le_of_ble_eq_true rfl⟩ hK hP hD hS hA hE [] rfl rfl rfl hl.1 rfl (Nat.le_of_ble_eq_true rfl) dX10_whyNot_5 ⟨Nat.le_of_ble_eq_true rfl, Nat.le_of_ble_eq_true rfl⟩) hP hD hS hA [] [] rfl rfl rfl (by decide) (fun r_1 w H locs hw hP hD hS => ?_)
  rcases hw with ⟨c_2, rfl, rfl⟩ | ⟨c_3, c_4, rfl, rfl⟩ | ⟨c_5, c_6, rfl, rfl⟩
  · exact absurd c_2 (by decide)
  · have hP : va_P V.1 vwCl [] H := hP
    have hD : va_D A [] := hD
    refine lv_if_eq (tgt := 25) hx hb dX10_whyNot_8 (by decide) (fun _ => ?_) (fun c_7 => absurd c_7 (by decide))
    refine lv_lload_n hx hb dX10_whyNot_25 rfl (lv_at hl 1 rfl) ?_
    refine lv_ldc2 (v := 10) hx hb hown (hg _ q_7_102) dX10_whyNot_26 ?_
    refine lv_ldc2 (v := 19) hx hb hown (hg _ q_7_120) dX10_whyNot_29 ?_
    refine jnI (wr := []) (rnS (rest := []) ⟨hx, hb, hml, hown, hg⟩ (c_X10_within_0 l V 27 10 19) mt_X10_within q_6_114 ⟨Nat.le_of_ble_eq_true rfl, Nat.le_of_ble_eq_true rfl⟩ hK hP hD hS hA hE [] rfl rfl rfl hl.1 rfl (Nat.le_of_ble_eq_true rfl) dX10_whyNot_32 ⟨Nat.le_of_ble_eq_true rfl, Nat.le_of_ble_eq_true rfl⟩) hP hD hS hA [] [] rfl rfl rfl (by decide) (fun r_8 w H locs hw hP hD hS => ?_)
    rcases hw with ⟨c_9, rfl, rfl⟩ | ⟨c_10, c_11, rfl, rfl⟩ | ⟨c_12, c_13, rfl, rfl⟩
    · exact absurd c_9 (by decide)
    · have hP : va_P V.1 vwCl [] H := hP
      have hD : va_D A [] := hD
      refine lv_if_eq (tgt := 50) hx hb dX10_whyNot_35 (by decide) (fun _ => ?_) (fun c_14 => absurd c_14 (by decide))
      refine lv_lload_n hx hb dX10_whyNot_50 rfl (lv_at hl 1 rfl) ?_
      refine lv_ldc2 (v := 20) hx hb hown (hg _ q_7_121) dX10_whyNot_51 ?_
      refine lv_ldc2 (v := 29) hx hb hown (hg _ q_7_122) dX10_whyNot_54 ?_
      refine jnI (wr := []) (rnS (rest := []) ⟨hx, hb, hml, hown, hg⟩ (c_X10_within_0 l V 27 20 29) mt_X10_within q_6_114 ⟨Nat.le_of_ble_eq_true rfl, Nat.le_of_ble_eq_true rfl⟩ hK hP hD hS hA hE [] rfl rfl rfl hl.1 rfl (Nat.le_of_ble_eq_true rfl) dX10_whyNot_57 ⟨Nat.le_of_ble_eq_true rfl, Nat.le_of_ble_eq_true rfl⟩) hP hD hS hA [] [] rfl rfl rfl (by decide) (fun r_15 w H locs hw hP hD hS => ?_)
      rcases hw with ⟨c_16, rfl, rfl⟩ | ⟨c_17, c_18, rfl, rfl⟩ | ⟨c_19, c_20, rfl, rfl⟩
      · exact absurd c_16 (by decide)
      · exact absurd c_18 (by decide)
      · have hP : va_P V.1 vwCl [] H := hP
        have hD : va_D A [] := hD
        refine lv_if_eq (tgt := 67) hx hb dX10_whyNot_60 (by decide) (fun c_21 => absurd c_21 (by decide)) (fun _ => ?_)
        refine lv_iconst (v := 0) hx hb dX10_whyNot_63 (by decide) ?_
        refine lv_goto (tgt := 68) hx hb dX10_whyNot_64 (by decide) ?_
        exact fiI hx hb hr hlk hK hP hD hS dX10_whyNot_68 (Nat.le_of_ble_eq_true rfl) (Nat.le_of_ble_eq_true rfl) (⟨rfl, rfl⟩)
    · exact absurd c_13 (by decide)
  · exact absurd c_6 (by decide)
set_option maxHeartbeats 4000000 in
set_option maxRecDepth 100000 in
theorem c_X10_does_8 (l : Launch) (V : GV) (z : Nat → Nat) (p0 : Int32) (p1 : Int32) (p2 : Int32) : Ct l V yX10_does (.code yX10_does cX10_does 2 none) 1 [.ref (z 0), .int 27] [(z 1, aI V 3075 (upd (upd (fun _ => 0) 51 p0) 52 p1)), (z 0, .inr (10, mo z 0 0 0 0 0 0 0 0 0 0 (-1) 0 p2 0 0 0))] 0 0 (QV V (fun (w : va_W) => (w = [(z 1, aI V 3075 (upd (upd (fun _ => 0) 51 7) 52 p1)), (z 0, .inr (10, mo z 0 0 0 0 0 0 0 0 0 0 (-1) 0 p2 0 0 0))]))) := by
  refine Ct.of (by decide) (Nat.le_of_ble_eq_true rfl) (fun p e s m below meth c A ls hx hb hr hml hown hlk hnm hg hP hK hD hE hA hS hl => ?_)
  have hl : lv_has ls 2 [(0, .ref (z 0)), (1, .int 27)] := hl
  refine lv_iload_n hx hb dX10_does_0 rfl (lv_at hl 1 rfl) ?_
  refine lv_bipush (v := 10) hx hb dX10_does_1 (by decide) ?_
  refine lv_icmp_ge (tgt := 14) hx hb dX10_does_3 (by decide) (fun _ => ?_) (fun c_1 => absurd c_1 (by decide))
  refine lv_iload_n hx hb dX10_does_14 rfl (lv_at hl 1 rfl) ?_
  refine lv_bipush (v := 20) hx hb dX10_does_15 (by decide) ?_
  refine lv_icmp_ge (tgt := 31) hx hb dX10_does_17 (by decide) (fun _ => ?_) (fun c_2 => absurd c_2 (by decide))
  refine lv_aload_n hx hb dX10_does_31 rfl (lv_at hl 0 rfl) ?_
  refine va_get (ci := 10) (v := .ref (z 1)) (C := RX10) (T := TX10) (N := 40) hx hb hg inX10 hown hK hP 1 rfl rfl 1 (by decide) (hg _ q_5_225) (fun _ h9 => h9) rfl dX10_does_32 ?_
  refine lv_bipush (v := 51) hx hb dX10_does_35 (by decide) ?_
  refine lv_iload_n hx hb dX10_does_37 rfl (lv_at hl 1 rfl) ?_
  refine lv_bipush (v := 20) hx hb dX10_does_38 (by decide) ?_
  refine lv_isub hx hb dX10_does_40 ?_
  refine tpi (y := 7) (by decide +kernel) ?_
  refine va_iast hx hb hK hP hD hS 0 0 rfl rfl (vin (by decide +kernel)) dX10_does_41 (fun H locs hP hD hS => ?_)
  have hP : va_P V.1 vwCl [(z 1, aI V 3075 (upd (upd (upd (fun _ => 0) 51 p0) 52 p1) 51 7)), (z 0, .inr (10, mo z 0 0 0 0 0 0 0 0 0 0 (-1) 0 p2 0 0 0))] H := hP
  have hD : va_D A [(z 1, aI V 3075 (upd (upd (upd (fun _ => 0) 51 p0) 52 p1) 51 7)), (z 0, .inr (10, mo z 0 0 0 0 0 0 0 0 0 0 (-1) 0 p2 0 0 0))] := hD
  have hP : va_P V.1 vwCl [(z 1, aI V 3075 (upd (upd (fun _ => 0) 51 7) 52 p1)), (z 0, .inr (10, mo z 0 0 0 0 0 0 0 0 0 0 (-1) 0 p2 0 0 0))] H := by rw [updsw (by decide)] at hP; exact hP
  have hD : va_D A [(z 1, aI V 3075 (upd (upd (fun _ => 0) 51 7) 52 p1)), (z 0, .inr (10, mo z 0 0 0 0 0 0 0 0 0 0 (-1) 0 p2 0 0 0))] := by rw [updsw (by decide)] at hD; exact hD
  exact fiV hx hb hr hlk hK hP hD hS dX10_does_42 (Nat.le_of_ble_eq_true rfl) (Nat.le_of_ble_eq_true rfl) (rfl)
set_option maxHeartbeats 4000000 in
set_option maxRecDepth 100000 in
theorem c_X10_whyNot_16 (l : Launch) (V : GV) (z : Nat → Nat) : Ct l V yX10_whyNot (.code yX10_whyNot cX10_whyNot 3 (some .int)) 2 [.ref (z 0), .long 28] [] 0 0 (QI V (fun (r : Int32) (w : va_W) => (r = 0 ∧ w = []))) := by
  refine Ct.of (by decide) (Nat.le_of_ble_eq_true rfl) (fun p e s m below meth c A ls hx hb hr hml hown hlk hnm hg hP hK hD hE hA hS hl => ?_)
  have hl : lv_has ls 3 [(0, .ref (z 0)), (1, .long 28)] := hl
  refine lv_lload_n hx hb dX10_whyNot_0 rfl (lv_at hl 1 rfl) ?_
  refine lv_lconst (v := 0) hx hb dX10_whyNot_1 (by decide) ?_
  refine lv_ldc2 (v := 9) hx hb hown (hg _ q_7_97) dX10_whyNot_2 ?_
  refine jnI (wr := []) (rnS (rest := []) ⟨hx, hb, hml, hown, hg⟩ (c_X10_within_0 l V 28 0 9) mt_X10_within q_6_114 ⟨Nat.le_of_ble_eq_true rfl, Nat.le_of_ble_eq_true rfl⟩ hK hP hD hS hA hE [] rfl rfl rfl hl.1 rfl (Nat.le_of_ble_eq_true rfl) dX10_whyNot_5 ⟨Nat.le_of_ble_eq_true rfl, Nat.le_of_ble_eq_true rfl⟩) hP hD hS hA [] [] rfl rfl rfl (by decide) (fun r_1 w H locs hw hP hD hS => ?_)
  rcases hw with ⟨c_2, rfl, rfl⟩ | ⟨c_3, c_4, rfl, rfl⟩ | ⟨c_5, c_6, rfl, rfl⟩
  · exact absurd c_2 (by decide)
  · have hP : va_P V.1 vwCl [] H := hP
    have hD : va_D A [] := hD
    refine lv_if_eq (tgt := 25) hx hb dX10_whyNot_8 (by decide) (fun _ => ?_) (fun c_7 => absurd c_7 (by decide))
    refine lv_lload_n hx hb dX10_whyNot_25 rfl (lv_at hl 1 rfl) ?_
    refine lv_ldc2 (v := 10) hx hb hown (hg _ q_7_102) dX10_whyNot_26 ?_
    refine lv_ldc2 (v := 19) hx hb hown (hg _ q_7_120) dX10_whyNot_29 ?_
    refine jnI (wr := []) (rnS (rest := []) ⟨hx, hb, hml, hown, hg⟩ (c_X10_within_0 l V 28 10 19) mt_X10_within q_6_114 ⟨Nat.le_of_ble_eq_true rfl, Nat.le_of_ble_eq_true rfl⟩ hK hP hD hS hA hE [] rfl rfl rfl hl.1 rfl (Nat.le_of_ble_eq_true rfl) dX10_whyNot_32 ⟨Nat.le_of_ble_eq_true rfl, Nat.le_of_ble_eq_true rfl⟩) hP hD hS hA [] [] rfl rfl rfl (by decide) (fun r_8 w H locs hw hP hD hS => ?_)
    rcases hw with ⟨c_9, rfl, rfl⟩ | ⟨c_10, c_11, rfl, rfl⟩ | ⟨c_12, c_13, rfl, rfl⟩
    · exact absurd c_9 (by decide)
    · have hP : va_P V.1 vwCl [] H := hP
      have hD : va_D A [] := hD
      refine lv_if_eq (tgt := 50) hx hb dX10_whyNot_35 (by decide) (fun _ => ?_) (fun c_14 => absurd c_14 (by decide))
      refine lv_lload_n hx hb dX10_whyNot_50 rfl (lv_at hl 1 rfl) ?_
      refine lv_ldc2 (v := 20) hx hb hown (hg _ q_7_121) dX10_whyNot_51 ?_
      refine lv_ldc2 (v := 29) hx hb hown (hg _ q_7_122) dX10_whyNot_54 ?_
      refine jnI (wr := []) (rnS (rest := []) ⟨hx, hb, hml, hown, hg⟩ (c_X10_within_0 l V 28 20 29) mt_X10_within q_6_114 ⟨Nat.le_of_ble_eq_true rfl, Nat.le_of_ble_eq_true rfl⟩ hK hP hD hS hA hE [] rfl rfl rfl hl.1 rfl (Nat.le_of_ble_eq_true rfl) dX10_whyNot_57 ⟨Nat.le_of_ble_eq_true rfl, Nat.le_of_ble_eq_true rfl⟩) hP hD hS hA [] [] rfl rfl rfl (by decide) (fun r_15 w H locs hw hP hD hS => ?_)
      rcases hw with ⟨c_16, rfl, rfl⟩ | ⟨c_17, c_18, rfl, rfl⟩ | ⟨c_19, c_20, rfl, rfl⟩
      · exact absurd c_16 (by decide)
      · exact absurd c_18 (by decide)
      · have hP : va_P V.1 vwCl [] H := hP
        have hD : va_D A [] := hD
        refine lv_if_eq (tgt := 67) hx hb dX10_whyNot_60 (by decide) (fun c_21 => absurd c_21 (by decide)) (fun _ => ?_)
        refine lv_iconst (v := 0) hx hb dX10_whyNot_63 (by decide) ?_
        refine lv_goto (tgt := 68) hx hb dX10_whyNot_64 (by decide) ?_
        exact fiI hx hb hr hlk hK hP hD hS dX10_whyNot_68 (Nat.le_of_ble_eq_true rfl) (Nat.le_of_ble_eq_true rfl) (⟨rfl, rfl⟩)
    · exact absurd c_13 (by decide)
  · exact absurd c_6 (by decide)
set_option maxHeartbeats 4000000 in
set_option maxRecDepth 100000 in
theorem c_X10_does_9 (l : Launch) (V : GV) (z : Nat → Nat) (p0 : Int32) (p1 : Int32) (p2 : Int32) : Ct l V yX10_does (.code yX10_does cX10_does 2 none) 1 [.ref (z 0), .int 28] [(z 1, aI V 3075 (upd (upd (fun _ => 0) 51 p0) 52 p1)), (z 0, .inr (10, mo z 0 0 0 0 0 0 0 0 0 0 (-1) 0 p2 0 0 0))] 0 0 (QV V (fun (w : va_W) => (w = [(z 1, aI V 3075 (upd (upd (fun _ => 0) 51 8) 52 p1)), (z 0, .inr (10, mo z 0 0 0 0 0 0 0 0 0 0 (-1) 0 p2 0 0 0))]))) := by
  refine Ct.of (by decide) (Nat.le_of_ble_eq_true rfl) (fun p e s m below meth c A ls hx hb hr hml hown hlk hnm hg hP hK hD hE hA hS hl => ?_)
  have hl : lv_has ls 2 [(0, .ref (z 0)), (1, .int 28)] := hl
  refine lv_iload_n hx hb dX10_does_0 rfl (lv_at hl 1 rfl) ?_
  refine lv_bipush (v := 10) hx hb dX10_does_1 (by decide) ?_
  refine lv_icmp_ge (tgt := 14) hx hb dX10_does_3 (by decide) (fun _ => ?_) (fun c_1 => absurd c_1 (by decide))
  refine lv_iload_n hx hb dX10_does_14 rfl (lv_at hl 1 rfl) ?_
  refine lv_bipush (v := 20) hx hb dX10_does_15 (by decide) ?_
  refine lv_icmp_ge (tgt := 31) hx hb dX10_does_17 (by decide) (fun _ => ?_) (fun c_2 => absurd c_2 (by decide))
  refine lv_aload_n hx hb dX10_does_31 rfl (lv_at hl 0 rfl) ?_
  refine va_get (ci := 10) (v := .ref (z 1)) (C := RX10) (T := TX10) (N := 40) hx hb hg inX10 hown hK hP 1 rfl rfl 1 (by decide) (hg _ q_5_225) (fun _ h9 => h9) rfl dX10_does_32 ?_
  refine lv_bipush (v := 51) hx hb dX10_does_35 (by decide) ?_
  refine lv_iload_n hx hb dX10_does_37 rfl (lv_at hl 1 rfl) ?_
  refine lv_bipush (v := 20) hx hb dX10_does_38 (by decide) ?_
  refine lv_isub hx hb dX10_does_40 ?_
  refine tpi (y := 8) (by decide +kernel) ?_
  refine va_iast hx hb hK hP hD hS 0 0 rfl rfl (vin (by decide +kernel)) dX10_does_41 (fun H locs hP hD hS => ?_)
  have hP : va_P V.1 vwCl [(z 1, aI V 3075 (upd (upd (upd (fun _ => 0) 51 p0) 52 p1) 51 8)), (z 0, .inr (10, mo z 0 0 0 0 0 0 0 0 0 0 (-1) 0 p2 0 0 0))] H := hP
  have hD : va_D A [(z 1, aI V 3075 (upd (upd (upd (fun _ => 0) 51 p0) 52 p1) 51 8)), (z 0, .inr (10, mo z 0 0 0 0 0 0 0 0 0 0 (-1) 0 p2 0 0 0))] := hD
  have hP : va_P V.1 vwCl [(z 1, aI V 3075 (upd (upd (fun _ => 0) 51 8) 52 p1)), (z 0, .inr (10, mo z 0 0 0 0 0 0 0 0 0 0 (-1) 0 p2 0 0 0))] H := by rw [updsw (by decide)] at hP; exact hP
  have hD : va_D A [(z 1, aI V 3075 (upd (upd (fun _ => 0) 51 8) 52 p1)), (z 0, .inr (10, mo z 0 0 0 0 0 0 0 0 0 0 (-1) 0 p2 0 0 0))] := by rw [updsw (by decide)] at hD; exact hD
  exact fiV hx hb hr hlk hK hP hD hS dX10_does_42 (Nat.le_of_ble_eq_true rfl) (Nat.le_of_ble_eq_true rfl) (rfl)
set_option maxHeartbeats 4000000 in
set_option maxRecDepth 100000 in
theorem c_X10_whyNot_17 (l : Launch) (V : GV) (z : Nat → Nat) : Ct l V yX10_whyNot (.code yX10_whyNot cX10_whyNot 3 (some .int)) 2 [.ref (z 0), .long 29] [] 0 0 (QI V (fun (r : Int32) (w : va_W) => (r = 0 ∧ w = []))) := by
  refine Ct.of (by decide) (Nat.le_of_ble_eq_true rfl) (fun p e s m below meth c A ls hx hb hr hml hown hlk hnm hg hP hK hD hE hA hS hl => ?_)
  have hl : lv_has ls 3 [(0, .ref (z 0)), (1, .long 29)] := hl
  refine lv_lload_n hx hb dX10_whyNot_0 rfl (lv_at hl 1 rfl) ?_
  refine lv_lconst (v := 0) hx hb dX10_whyNot_1 (by decide) ?_
  refine lv_ldc2 (v := 9) hx hb hown (hg _ q_7_97) dX10_whyNot_2 ?_
  refine jnI (wr := []) (rnS (rest := []) ⟨hx, hb, hml, hown, hg⟩ (c_X10_within_0 l V 29 0 9) mt_X10_within q_6_114 ⟨Nat.le_of_ble_eq_true rfl, Nat.le_of_ble_eq_true rfl⟩ hK hP hD hS hA hE [] rfl rfl rfl hl.1 rfl (Nat.le_of_ble_eq_true rfl) dX10_whyNot_5 ⟨Nat.le_of_ble_eq_true rfl, Nat.le_of_ble_eq_true rfl⟩) hP hD hS hA [] [] rfl rfl rfl (by decide) (fun r_1 w H locs hw hP hD hS => ?_)
  rcases hw with ⟨c_2, rfl, rfl⟩ | ⟨c_3, c_4, rfl, rfl⟩ | ⟨c_5, c_6, rfl, rfl⟩
  · exact absurd c_2 (by decide)
  · have hP : va_P V.1 vwCl [] H := hP
    have hD : va_D A [] := hD
    refine lv_if_eq (tgt := 25) hx hb dX10_whyNot_8 (by decide) (fun _ => ?_) (fun c_7 => absurd c_7 (by decide))
    refine lv_lload_n hx hb dX10_whyNot_25 rfl (lv_at hl 1 rfl) ?_
    refine lv_ldc2 (v := 10) hx hb hown (hg _ q_7_102) dX10_whyNot_26 ?_
    refine lv_ldc2 (v := 19) hx hb hown (hg _ q_7_120) dX10_whyNot_29 ?_
    refine jnI (wr := []) (rnS (rest := []) ⟨hx, hb, hml, hown, hg⟩ (c_X10_within_0 l V 29 10 19) mt_X10_within q_6_114 ⟨Nat.le_of_ble_eq_true rfl, Nat.le_of_ble_eq_true rfl⟩ hK hP hD hS hA hE [] rfl rfl rfl hl.1 rfl (Nat.le_of_ble_eq_true rfl) dX10_whyNot_32 ⟨Nat.le_of_ble_eq_true rfl, Nat.le_of_ble_eq_true rfl⟩) hP hD hS hA [] [] rfl rfl rfl (by decide) (fun r_8 w H locs hw hP hD hS => ?_)
    rcases hw with ⟨c_9, rfl, rfl⟩ | ⟨c_10, c_11, rfl, rfl⟩ | ⟨c_12, c_13, rfl, rfl⟩
    · exact absurd c_9 (by decide)
    · have hP : va_P V.1 vwCl [] H := hP
      have hD : va_D A [] := hD
      refine lv_if_eq (tgt := 50) hx hb dX10_whyNot_35 (by decide) (fun _ => ?_) (fun c_14 => absurd c_14 (by decide))
      refine lv_lload_n hx hb dX10_whyNot_50 rfl (lv_at hl 1 rfl) ?_
      refine lv_ldc2 (v := 20) hx hb hown (hg _ q_7_121) dX10_whyNot_51 ?_
      refine lv_ldc2 (v := 29) hx hb hown (hg _ q_7_122) dX10_whyNot_54 ?_
      refine jnI (wr := []) (rnS (rest := []) ⟨hx, hb, hml, hown, hg⟩ (c_X10_within_0 l V 29 20 29) mt_X10_within q_6_114 ⟨Nat.le_of_ble_eq_true rfl, Nat.le_of_ble_eq_true rfl⟩ hK hP hD hS hA hE [] rfl rfl rfl hl.1 rfl (Nat.le_of_ble_eq_true rfl) dX10_whyNot_57 ⟨Nat.le_of_ble_eq_true rfl, Nat.le_of_ble_eq_true rfl⟩) hP hD hS hA [] [] rfl rfl rfl (by decide) (fun r_15 w H locs hw hP hD hS => ?_)
      rcases hw with ⟨c_16, rfl, rfl⟩ | ⟨c_17, c_18, rfl, rfl⟩ | ⟨c_19, c_20, rfl, rfl⟩
      · exact absurd c_16 (by decide)
      · exact absurd c_18 (by decide)
      · have hP : va_P V.1 vwCl [] H := hP
        have hD : va_D A [] := hD
        refine lv_if_eq (tgt := 67) hx hb dX10_whyNot_60 (by decide) (fun c_21 => absurd c_21 (by decide)) (fun _ => ?_)
        refine lv_iconst (v := 0) hx hb dX10_whyNot_63 (by decide) ?_
        refine lv_goto (tgt := 68) hx hb dX10_whyNot_64 (by decide) ?_
        exact fiI hx hb hr hlk hK hP hD hS dX10_whyNot_68 (Nat.le_of_ble_eq_true rfl) (Nat.le_of_ble_eq_true rfl) (⟨rfl, rfl⟩)
    · exact absurd c_13 (by decide)
  · exact absurd c_6 (by decide)
set_option maxHeartbeats 4000000 in
set_option maxRecDepth 100000 in
theorem c_X10_does_10 (l : Launch) (V : GV) (z : Nat → Nat) (p0 : Int32) (p1 : Int32) (p2 : Int32) : Ct l V yX10_does (.code yX10_does cX10_does 2 none) 1 [.ref (z 0), .int 29] [(z 1, aI V 3075 (upd (upd (fun _ => 0) 51 p0) 52 p1)), (z 0, .inr (10, mo z 0 0 0 0 0 0 0 0 0 0 (-1) 0 p2 0 0 0))] 0 0 (QV V (fun (w : va_W) => (w = [(z 1, aI V 3075 (upd (upd (fun _ => 0) 51 9) 52 p1)), (z 0, .inr (10, mo z 0 0 0 0 0 0 0 0 0 0 (-1) 0 p2 0 0 0))]))) := by
  refine Ct.of (by decide) (Nat.le_of_ble_eq_true rfl) (fun p e s m below meth c A ls hx hb hr hml hown hlk hnm hg hP hK hD hE hA hS hl => ?_)
  have hl : lv_has ls 2 [(0, .ref (z 0)), (1, .int 29)] := hl
  refine lv_iload_n hx hb dX10_does_0 rfl (lv_at hl 1 rfl) ?_
  refine lv_bipush (v := 10) hx hb dX10_does_1 (by decide) ?_
  refine lv_icmp_ge (tgt := 14) hx hb dX10_does_3 (by decide) (fun _ => ?_) (fun c_1 => absurd c_1 (by decide))
  refine lv_iload_n hx hb dX10_does_14 rfl (lv_at hl 1 rfl) ?_
  refine lv_bipush (v := 20) hx hb dX10_does_15 (by decide) ?_
  refine lv_icmp_ge (tgt := 31) hx hb dX10_does_17 (by decide) (fun _ => ?_) (fun c_2 => absurd c_2 (by decide))
  refine lv_aload_n hx hb dX10_does_31 rfl (lv_at hl 0 rfl) ?_
  refine va_get (ci := 10) (v := .ref (z 1)) (C := RX10) (T := TX10) (N := 40) hx hb hg inX10 hown hK hP 1 rfl rfl 1 (by decide) (hg _ q_5_225) (fun _ h9 => h9) rfl dX10_does_32 ?_
  refine lv_bipush (v := 51) hx hb dX10_does_35 (by decide) ?_
  refine lv_iload_n hx hb dX10_does_37 rfl (lv_at hl 1 rfl) ?_
  refine lv_bipush (v := 20) hx hb dX10_does_38 (by decide) ?_
  refine lv_isub hx hb dX10_does_40 ?_
  refine tpi (y := 9) (by decide +kernel) ?_
  refine va_iast hx hb hK hP hD hS 0 0 rfl rfl (vin (by decide +kernel)) dX10_does_41 (fun H locs hP hD hS => ?_)
  have hP : va_P V.1 vwCl [(z 1, aI V 3075 (upd (upd (upd (fun _ => 0) 51 p0) 52 p1) 51 9)), (z 0, .inr (10, mo z 0 0 0 0 0 0 0 0 0 0 (-1) 0 p2 0 0 0))] H := hP
  have hD : va_D A [(z 1, aI V 3075 (upd (upd (upd (fun _ => 0) 51 p0) 52 p1) 51 9)), (z 0, .inr (10, mo z 0 0 0 0 0 0 0 0 0 0 (-1) 0 p2 0 0 0))] := hD
  have hP : va_P V.1 vwCl [(z 1, aI V 3075 (upd (upd (fun _ => 0) 51 9) 52 p1)), (z 0, .inr (10, mo z 0 0 0 0 0 0 0 0 0 0 (-1) 0 p2 0 0 0))] H := by rw [updsw (by decide)] at hP; exact hP
  have hD : va_D A [(z 1, aI V 3075 (upd (upd (fun _ => 0) 51 9) 52 p1)), (z 0, .inr (10, mo z 0 0 0 0 0 0 0 0 0 0 (-1) 0 p2 0 0 0))] := by rw [updsw (by decide)] at hD; exact hD
  exact fiV hx hb hr hlk hK hP hD hS dX10_does_42 (Nat.le_of_ble_eq_true rfl) (Nat.le_of_ble_eq_true rfl) (rfl)
