def TpG (pp : Nat → Int32) (ff : Nat → Nat → Int32) (pz : Nat → Int32) (fz : Nat → Nat → Int32) : Prop := BTs (ff 0) (fz 2) ∧ pp 0 = pz 5
def FaG (pp pz : Nat → Int32) : Prop := pp 15 = pz 13 ∧ pp 16 = pz 14
def CoG (pp : Nat → Int32) (ff fz : Nat → Nat → Int32) : Prop := CoR (fz 0) (pp 4) (pp 5) (pp 6) (pp 7) (ff 1) (ff 2) (ff 3) (ff 4) (ff 5) (ff 6) (ff 7) (pp 10) (pp 11) (pp 12) (pp 13) (pp 14)
def SnG (pp : Nat → Int32) (fz : Nat → Nat → Int32) : Prop := SnR (fz 0 1).toNatClampNeg (pp 1) (pp 2) (pp 3) (fz 0) 46
def PaG (pp : Nat → Int32) (ff fz : Nat → Nat → Int32) : Prop := PaR (fz 0 1).toNatClampNeg (pp 35) (ff 20) (ff 21) (ff 22) (fz 0)
def TrG (pp : Nat → Int32) (gg : Nat → Nat → Int64) (fz : Nat → Nat → Int32) (gz : Nat → Nat → Int64) : Prop := Tr4 (pp 36) (pp 37) (gg 0) (pp 38) (pp 39) (gg 1) (pp 40) (pp 41) (gg 2) (pp 42) (pp 43) (gg 3) (fz 18) (fz 19) (gz 3)
def I0G (pp : Nat → Int32) (ff fz : Nat → Nat → Int32) : Prop := ImR (fz 0) 1025 (fz 1 0) (pp 47) (pp 44) (pp 45) (pp 46) (pp 48) (pp 49) (pp 50) (pp 51) (ff 24) (ff 25) (ff 26) (ff 27) (ff 28) (ff 29) (ff 30) (pp 54) (pp 55) (pp 56) (pp 57) (pp 58)
def I1G (pp : Nat → Int32) (ff fz : Nat → Nat → Int32) : Prop := ImR (fz 0) 2050 (fz 1 1) (pp 62) (pp 59) (pp 60) (pp 61) (pp 63) (pp 64) (pp 65) (pp 66) (ff 31) (ff 32) (ff 33) (ff 34) (ff 35) (ff 36) (ff 37) (pp 69) (pp 70) (pp 71) (pp 72) (pp 73)
def KnG (ff fz : Nat → Nat → Int32) : Prop := KN (DF (fz 0) (ff 1)) (ff 15)
def SR9 (pp : Nat → Int32) (ff : Nat → Nat → Int32) (gg : Nat → Nat → Int64) (pz : Nat → Int32) (fz : Nat → Nat → Int32) (gz : Nat → Nat → Int64) : Prop := TpG pp ff pz fz ∧ FaG pp pz ∧ CoG pp ff fz ∧ SnG pp fz ∧ PaG pp ff fz ∧ TrG pp gg fz gz ∧ I0G pp ff fz ∧ I1G pp ff fz ∧ KnG ff fz
def RT3 (A : Nat → Int32) : Prop := RowT A ∧ RowT (sh9A A 1025) ∧ RowT (sh9A A 2050)
theorem RT3_of {A : Nat → Int32} (h : ivT tA A) (g : RW A) : RT3 A := ⟨RowT_0 h g, RowT_s (i := 1) rfl h g.2.1, RowT_s (i := 2) rfl h g.2.2⟩
theorem AGR_e {A B : Nat → Int32} (e : B = A) : AGR A B := by rw [e]; exact AGR.refl A
theorem TpG_c {pp pp' : Nat → Int32} {ff ff' : Nat → Nat → Int32} {pz pz' : Nat → Int32} {fz fz' : Nat → Nat → Int32} (hp : ∀ i ∈ [0], pp' i = pp i) (hf : ∀ i ∈ [0], ff' i = ff i) (e5 : pz' 5 = pz 5) (e2 : fz' 2 = fz 2) (h : TpG pp ff pz fz) : TpG pp' ff' pz' fz' := by
  unfold TpG at h ⊢
  rw [hp 0 (by decide), hf 0 (by decide), e5, e2]
  exact h
theorem FaG_c {pp pp' : Nat → Int32} {pz pz' : Nat → Int32} (hp : ∀ i ∈ [15, 16], pp' i = pp i) (e3 : pz' 13 = pz 13) (e4 : pz' 14 = pz 14) (h : FaG pp pz) : FaG pp' pz' := by
  unfold FaG at h ⊢
  rw [hp 15 (by decide), hp 16 (by decide), e3, e4]
  exact h
theorem CoG_c {pp pp' : Nat → Int32} {ff ff' : Nat → Nat → Int32} {fz fz' : Nat → Nat → Int32} (hp : ∀ i ∈ [4, 5, 6, 7, 10, 11, 12, 13, 14], pp' i = pp i) (hf : ∀ i ∈ [1, 2, 3, 4, 5, 6, 7], ff' i = ff i) (hA : AGR (fz 0) (fz' 0)) (t : RT3 (fz 0)) (h : CoG pp ff fz) : CoG pp' ff' fz' := by
  unfold CoG at h ⊢
  rw [hp 4 (by decide), hp 5 (by decide), hp 6 (by decide), hp 7 (by decide), hp 10 (by decide), hp 11 (by decide), hp 12 (by decide), hp 13 (by decide), hp 14 (by decide), hf 1 (by decide), hf 2 (by decide), hf 3 (by decide), hf 4 (by decide), hf 5 (by decide), hf 6 (by decide), hf 7 (by decide)]
  exact CoR_cg (fun j hj _ => hA j hj) t.1 h
theorem SnG_c {pp pp' : Nat → Int32} {fz fz' : Nat → Nat → Int32} (hp : ∀ i ∈ [1, 2, 3], pp' i = pp i) (e0 : fz' 0 = fz 0) (h : SnG pp fz) : SnG pp' fz' := by
  unfold SnG at h ⊢
  rw [hp 1 (by decide), hp 2 (by decide), hp 3 (by decide), e0]
  exact h
theorem PaG_c {pp pp' : Nat → Int32} {ff ff' : Nat → Nat → Int32} {fz fz' : Nat → Nat → Int32} (hp : ∀ i ∈ [35], pp' i = pp i) (hf : ∀ i ∈ [20, 21, 22], ff' i = ff i) (e0 : fz' 0 = fz 0) (h : PaG pp ff fz) : PaG pp' ff' fz' := by
  unfold PaG at h ⊢
  rw [hp 35 (by decide), hf 20 (by decide), hf 21 (by decide), hf 22 (by decide), e0]
  exact h
theorem TrG_c {pp pp' : Nat → Int32} {gg gg' : Nat → Nat → Int64} {fz fz' : Nat → Nat → Int32} {gz gz' : Nat → Nat → Int64} (hp : ∀ i ∈ [36, 37, 38, 39, 40, 41, 42, 43], pp' i = pp i) (hg : ∀ i ∈ [0, 1, 2, 3], gg' i = gg i) (e1 : fz' 18 = fz 18) (e2 : fz' 19 = fz 19) (e3 : gz' 3 = gz 3) (h : TrG pp gg fz gz) : TrG pp' gg' fz' gz' := by
  unfold TrG at h ⊢
  rw [hp 36 (by decide), hp 37 (by decide), hp 38 (by decide), hp 39 (by decide), hp 40 (by decide), hp 41 (by decide), hp 42 (by decide), hp 43 (by decide), hg 0 (by decide), hg 1 (by decide), hg 2 (by decide), hg 3 (by decide), e1, e2, e3]
  exact h
theorem I0G_c {pp pp' : Nat → Int32} {ff ff' : Nat → Nat → Int32} {fz fz' : Nat → Nat → Int32} (hp : ∀ i ∈ [44, 45, 46, 47, 48, 49, 50, 51, 54, 55, 56, 57, 58], pp' i = pp i) (hf : ∀ i ∈ [24, 25, 26, 27, 28, 29, 30], ff' i = ff i) (hA : ∀ j : Nat, 1025 ≤ j → fz' 0 j = fz 0 j) (t : RT3 (fz 0)) (e1 : fz' 1 = fz 1) (h : I0G pp ff fz) : I0G pp' ff' fz' := by
  unfold I0G at h ⊢
  rw [hp 44 (by decide), hp 45 (by decide), hp 46 (by decide), hp 47 (by decide), hp 48 (by decide), hp 49 (by decide), hp 50 (by decide), hp 51 (by decide), hp 54 (by decide), hp 55 (by decide), hp 56 (by decide), hp 57 (by decide), hp 58 (by decide), hf 24 (by decide), hf 25 (by decide), hf 26 (by decide), hf 27 (by decide), hf 28 (by decide), hf 29 (by decide), hf 30 (by decide)]
  exact ImR_f (by rw [e1]) (fun j hj => hA _ (by omega)) t.2.1 h
theorem I1G_c {pp pp' : Nat → Int32} {ff ff' : Nat → Nat → Int32} {fz fz' : Nat → Nat → Int32} (hp : ∀ i ∈ [59, 60, 61, 62, 63, 64, 65, 66, 69, 70, 71, 72, 73], pp' i = pp i) (hf : ∀ i ∈ [31, 32, 33, 34, 35, 36, 37], ff' i = ff i) (hA : ∀ j : Nat, 1025 ≤ j → fz' 0 j = fz 0 j) (t : RT3 (fz 0)) (e1 : fz' 1 = fz 1) (h : I1G pp ff fz) : I1G pp' ff' fz' := by
  unfold I1G at h ⊢
  rw [hp 59 (by decide), hp 60 (by decide), hp 61 (by decide), hp 62 (by decide), hp 63 (by decide), hp 64 (by decide), hp 65 (by decide), hp 66 (by decide), hp 69 (by decide), hp 70 (by decide), hp 71 (by decide), hp 72 (by decide), hp 73 (by decide), hf 31 (by decide), hf 32 (by decide), hf 33 (by decide), hf 34 (by decide), hf 35 (by decide), hf 36 (by decide), hf 37 (by decide)]
  exact ImR_f (by rw [e1]) (fun j hj => hA _ (by omega)) t.2.2 h
theorem AGR_hi {A B : Nat → Int32} (h : AGR A B) : ∀ j : Nat, 1025 ≤ j → B j = A j := fun j hj => h j (by omega)
theorem KnG_c {ff ff' : Nat → Nat → Int32} {fz fz' : Nat → Nat → Int32} (hA : AGR (fz 0) (fz' 0)) (e1 : ff' 1 = ff 1) (k : KN (DF (fz 0) (ff 1)) (ff' 15)) : KnG ff' fz' := by
  unfold KnG
  rw [e1, DF_agr hA]
  exact k
theorem KnG_0 {ff' fz' : Nat → Nat → Int32} (h : ∀ j : Nat, j < 2000 → ff' 15 j = 0) : KnG ff' fz' := KN_0 h
theorem SR_keep {pp pp' : Nat → Int32} {ff ff' : Nat → Nat → Int32} {gg gg' : Nat → Nat → Int64} {pz pz' : Nat → Int32} {fz fz' : Nat → Nat → Int32} {gz gz' : Nat → Nat → Int64} (hs : SR9 pp ff gg pz fz gz) (t : RT3 (fz 0)) (fp : ∀ i ∈ (0 :: 1 :: 2 :: 3 :: 4 :: 5 :: 6 :: 7 :: 10 :: 11 :: 12 :: 13 :: 14 :: 15 :: 16 :: 35 :: 36 :: 37 :: 38 :: 39 :: 40 :: 41 :: 42 :: 43 :: 44 :: 45 :: 46 :: 47 :: 48 :: 49 :: 50 :: 51 :: 54 :: 55 :: 56 :: 57 :: 58 :: 59 :: 60 :: 61 :: 62 :: 63 :: 64 :: 65 :: 66 :: 69 :: 70 :: 71 :: 72 :: 73 :: ([] : List Nat)), pp' i = pp i) (fr : ∀ i ∈ [0, 1, 2, 3, 4, 5, 6, 7, 20, 21, 22, 24, 25, 26, 27, 28, 29, 30, 31, 32, 33, 34, 35, 36, 37], ff' i = ff i) (fg : ∀ i ∈ [0, 1, 2, 3], gg' i = gg i) (zp : ∀ i ∈ [5, 13, 14], pz' i = pz i) (zf : ∀ i ∈ [0, 1, 2, 18, 19], fz' i = fz i) (zg : ∀ i ∈ [3], gz' i = gz i) (kn : KN (DF (fz 0) (ff 1)) (ff' 15)) : SR9 pp' ff' gg' pz' fz' gz' :=
  have hA : AGR (fz 0) (fz' 0) := AGR_e (zf 0 (by decide))
  ⟨(TpG_c (sb9 fp (by decide)) (sb9 fr (by decide)) (zp 5 (by decide)) (zf 2 (by decide)) hs.1), (FaG_c (sb9 fp (by decide)) (zp 13 (by decide)) (zp 14 (by decide)) hs.2.1), (CoG_c (sb9 fp (by decide)) (sb9 fr (by decide)) hA t hs.2.2.1), (SnG_c (sb9 fp (by decide)) (zf 0 (by decide)) hs.2.2.2.1), (PaG_c (sb9 fp (by decide)) (sb9 fr (by decide)) (zf 0 (by decide)) hs.2.2.2.2.1), (TrG_c (sb9 fp (by decide)) (sb9 fg (by decide)) (zf 18 (by decide)) (zf 19 (by decide)) (zg 3 (by decide)) hs.2.2.2.2.2.1), (I0G_c (sb9 fp (by decide)) (sb9 fr (by decide)) (AGR_hi hA) t (zf 1 (by decide)) hs.2.2.2.2.2.2.1), (I1G_c (sb9 fp (by decide)) (sb9 fr (by decide)) (AGR_hi hA) t (zf 1 (by decide)) hs.2.2.2.2.2.2.2.1), KnG_c hA (fr 1 (by decide)) kn⟩
theorem SR_step {pp pp' : Nat → Int32} {ff ff' : Nat → Nat → Int32} {gg gg' : Nat → Nat → Int64} {pz pz' : Nat → Int32} {fz fz' : Nat → Nat → Int32} {gz gz' : Nat → Nat → Int64} (hs : SR9 pp ff gg pz fz gz) (t : RT3 (fz 0)) (fp : ∀ i ∈ (0 :: 4 :: 5 :: 6 :: 7 :: 10 :: 11 :: 12 :: 13 :: 14 :: 15 :: 16 :: 36 :: 37 :: 38 :: 39 :: 40 :: 41 :: 42 :: 43 :: 44 :: 45 :: 46 :: 47 :: 48 :: 49 :: 50 :: 51 :: 54 :: 55 :: 56 :: 57 :: 58 :: 59 :: 60 :: 61 :: 62 :: 63 :: 64 :: 65 :: 66 :: 69 :: 70 :: 71 :: 72 :: 73 :: ([] : List Nat)), pp' i = pp i) (fr : ∀ i ∈ [0, 1, 2, 3, 4, 5, 6, 7, 24, 25, 26, 27, 28, 29, 30, 31, 32, 33, 34, 35, 36, 37], ff' i = ff i) (fg : ∀ i ∈ [0, 1, 2, 3], gg' i = gg i) (zp : ∀ i ∈ [5, 13, 14], pz' i = pz i) (zf : ∀ i ∈ [1, 2, 18, 19], fz' i = fz i) (zg : ∀ i ∈ [3], gz' i = gz i) (kn : KN (DF (fz 0) (ff 1)) (ff' 15)) (st : ST9 (fz 0 1).toNatClampNeg (pp' 1) (pp' 2) (pp' 3) (pp' 35) (ff' 20) (ff' 21) (ff' 22) (fz 0) (fz' 0)) : SR9 pp' ff' gg' pz' fz' gz' :=
  have hA : AGR (fz 0) (fz' 0) := st.2.2
  have e1 : fz' 0 1 = fz 0 1 := hA 1 (by decide)
  ⟨(TpG_c (sb9 fp (by decide)) (sb9 fr (by decide)) (zp 5 (by decide)) (zf 2 (by decide)) hs.1), (FaG_c (sb9 fp (by decide)) (zp 13 (by decide)) (zp 14 (by decide)) hs.2.1), (CoG_c (sb9 fp (by decide)) (sb9 fr (by decide)) hA t hs.2.2.1), (by unfold SnG; rw [e1]; exact st.1), (by unfold PaG; rw [e1]; exact st.2.1), (TrG_c (sb9 fp (by decide)) (sb9 fg (by decide)) (zf 18 (by decide)) (zf 19 (by decide)) (zg 3 (by decide)) hs.2.2.2.2.2.1), (I0G_c (sb9 fp (by decide)) (sb9 fr (by decide)) (AGR_hi hA) t (zf 1 (by decide)) hs.2.2.2.2.2.2.1), (I1G_c (sb9 fp (by decide)) (sb9 fr (by decide)) (AGR_hi hA) t (zf 1 (by decide)) hs.2.2.2.2.2.2.2.1), KnG_c hA (fr 1 (by decide)) kn⟩
theorem SR_tray {pp pp' : Nat → Int32} {ff ff' : Nat → Nat → Int32} {gg gg' : Nat → Nat → Int64} {pz pz' : Nat → Int32} {fz fz' : Nat → Nat → Int32} {gz gz' : Nat → Nat → Int64} (hs : SR9 pp ff gg pz fz gz) (t : RT3 (fz 0)) (fp : ∀ i ∈ (0 :: 1 :: 2 :: 3 :: 4 :: 5 :: 6 :: 7 :: 10 :: 11 :: 12 :: 13 :: 14 :: 15 :: 16 :: 35 :: 44 :: 45 :: 46 :: 47 :: 48 :: 49 :: 50 :: 51 :: 54 :: 55 :: 56 :: 57 :: 58 :: 59 :: 60 :: 61 :: 62 :: 63 :: 64 :: 65 :: 66 :: 69 :: 70 :: 71 :: 72 :: 73 :: ([] : List Nat)), pp' i = pp i) (fr : ∀ i ∈ [0, 1, 2, 3, 4, 5, 6, 7, 20, 21, 22, 24, 25, 26, 27, 28, 29, 30, 31, 32, 33, 34, 35, 36, 37], ff' i = ff i) (fg : ∀ i ∈ ([] : List Nat), gg' i = gg i) (zp : ∀ i ∈ [5, 13, 14], pz' i = pz i) (zf : ∀ i ∈ [0, 1, 2], fz' i = fz i) (zg : ∀ i ∈ ([] : List Nat), gz' i = gz i) (kn : KN (DF (fz 0) (ff 1)) (ff' 15)) (tr : TrG pp' gg' fz' gz') : SR9 pp' ff' gg' pz' fz' gz' :=
  have hA : AGR (fz 0) (fz' 0) := AGR_e (zf 0 (by decide))
  ⟨(TpG_c (sb9 fp (by decide)) (sb9 fr (by decide)) (zp 5 (by decide)) (zf 2 (by decide)) hs.1), (FaG_c (sb9 fp (by decide)) (zp 13 (by decide)) (zp 14 (by decide)) hs.2.1), (CoG_c (sb9 fp (by decide)) (sb9 fr (by decide)) hA t hs.2.2.1), (SnG_c (sb9 fp (by decide)) (zf 0 (by decide)) hs.2.2.2.1), (PaG_c (sb9 fp (by decide)) (sb9 fr (by decide)) (zf 0 (by decide)) hs.2.2.2.2.1), tr, (I0G_c (sb9 fp (by decide)) (sb9 fr (by decide)) (AGR_hi hA) t (zf 1 (by decide)) hs.2.2.2.2.2.2.1), (I1G_c (sb9 fp (by decide)) (sb9 fr (by decide)) (AGR_hi hA) t (zf 1 (by decide)) hs.2.2.2.2.2.2.2.1), KnG_c hA (fr 1 (by decide)) kn⟩
theorem SR_feed {pp pp' : Nat → Int32} {ff ff' : Nat → Nat → Int32} {gg gg' : Nat → Nat → Int64} {pz pz' : Nat → Int32} {fz fz' : Nat → Nat → Int32} {gz gz' : Nat → Nat → Int64} (hs : SR9 pp ff gg pz fz gz) (t : RT3 (fz 0)) (fp : ∀ i ∈ (1 :: 2 :: 3 :: 4 :: 5 :: 6 :: 7 :: 10 :: 11 :: 12 :: 13 :: 14 :: 15 :: 16 :: 35 :: 36 :: 37 :: 38 :: 39 :: 40 :: 41 :: 42 :: 43 :: 44 :: 45 :: 46 :: 47 :: 48 :: 49 :: 50 :: 51 :: 54 :: 55 :: 56 :: 57 :: 58 :: 59 :: 60 :: 61 :: 62 :: 63 :: 64 :: 65 :: 66 :: 69 :: 70 :: 71 :: 72 :: 73 :: ([] : List Nat)), pp' i = pp i) (fr : ∀ i ∈ [1, 2, 3, 4, 5, 6, 7, 20, 21, 22, 24, 25, 26, 27, 28, 29, 30, 31, 32, 33, 34, 35, 36, 37], ff' i = ff i) (fg : ∀ i ∈ [0, 1, 2, 3], gg' i = gg i) (zp : ∀ i ∈ [13, 14], pz' i = pz i) (zf : ∀ i ∈ [0, 1, 18, 19], fz' i = fz i) (zg : ∀ i ∈ [3], gz' i = gz i) (kn : KN (DF (fz 0) (ff 1)) (ff' 15)) (tp : TpG pp' ff' pz' fz') : SR9 pp' ff' gg' pz' fz' gz' :=
  have hA : AGR (fz 0) (fz' 0) := AGR_e (zf 0 (by decide))
  ⟨tp, (FaG_c (sb9 fp (by decide)) (zp 13 (by decide)) (zp 14 (by decide)) hs.2.1), (CoG_c (sb9 fp (by decide)) (sb9 fr (by decide)) hA t hs.2.2.1), (SnG_c (sb9 fp (by decide)) (zf 0 (by decide)) hs.2.2.2.1), (PaG_c (sb9 fp (by decide)) (sb9 fr (by decide)) (zf 0 (by decide)) hs.2.2.2.2.1), (TrG_c (sb9 fp (by decide)) (sb9 fg (by decide)) (zf 18 (by decide)) (zf 19 (by decide)) (zg 3 (by decide)) hs.2.2.2.2.2.1), (I0G_c (sb9 fp (by decide)) (sb9 fr (by decide)) (AGR_hi hA) t (zf 1 (by decide)) hs.2.2.2.2.2.2.1), (I1G_c (sb9 fp (by decide)) (sb9 fr (by decide)) (AGR_hi hA) t (zf 1 (by decide)) hs.2.2.2.2.2.2.2.1), KnG_c hA (fr 1 (by decide)) kn⟩
theorem SR_new {pp pp' : Nat → Int32} {ff ff' : Nat → Nat → Int32} {gg gg' : Nat → Nat → Int64} {pz pz' : Nat → Int32} {fz fz' : Nat → Nat → Int32} {gz gz' : Nat → Nat → Int64} (hs : SR9 pp ff gg pz fz gz) (t : RT3 (fz 0)) (fp : ∀ i ∈ (36 :: 37 :: 38 :: 39 :: 40 :: 41 :: 42 :: 43 :: 44 :: 45 :: 46 :: 47 :: 48 :: 49 :: 50 :: 51 :: 54 :: 55 :: 56 :: 57 :: 58 :: 59 :: 60 :: 61 :: 62 :: 63 :: 64 :: 65 :: 66 :: 69 :: 70 :: 71 :: 72 :: 73 :: ([] : List Nat)), pp' i = pp i) (fr : ∀ i ∈ [24, 25, 26, 27, 28, 29, 30, 31, 32, 33, 34, 35, 36, 37], ff' i = ff i) (fg : ∀ i ∈ [0, 1, 2, 3], gg' i = gg i) (zp : ∀ i ∈ ([] : List Nat), pz' i = pz i) (zf : ∀ i ∈ [1, 18, 19], fz' i = fz i) (zg : ∀ i ∈ [3], gz' i = gz i) (hA : ∀ j : Nat, 1025 ≤ j → fz' 0 j = fz 0 j) (tp : TpG pp' ff' pz' fz') (fa : FaG pp' pz') (co : CoG pp' ff' fz') (sn : SnG pp' fz') (pa : PaG pp' ff' fz') (kn : KnG ff' fz') : SR9 pp' ff' gg' pz' fz' gz' :=
  ⟨tp, fa, co, sn, pa, (TrG_c (sb9 fp (by decide)) (sb9 fg (by decide)) (zf 18 (by decide)) (zf 19 (by decide)) (zg 3 (by decide)) hs.2.2.2.2.2.1), (I0G_c (sb9 fp (by decide)) (sb9 fr (by decide)) hA t (zf 1 (by decide)) hs.2.2.2.2.2.2.1), (I1G_c (sb9 fp (by decide)) (sb9 fr (by decide)) hA t (zf 1 (by decide)) hs.2.2.2.2.2.2.2.1), kn⟩
theorem n_of {pp : Nat → Int32} {ff : Nat → Nat → Int32} {gg : Nat → Nat → Int64} {pz : Nat → Int32} {fz : Nat → Nat → Int32} {gz : Nat → Nat → Int64} (hs : SR9 pp ff gg pz fz gz) (t : RT3 (fz 0)) : (fz 0 1).toInt = ((fz 0 1).toNatClampNeg : Int) ∧ (fz 0 1).toNatClampNeg ≤ 4 := by
  have h : iv 0 4 (fz 0 1) := RowT_k t.1 (by decide) (by decide +kernel)
  have c := clampNat (x := fz 0 1) h.1
  have := h.2
  exact ⟨by omega, by omega⟩
theorem CO_of {pp : Nat → Int32} {ff : Nat → Nat → Int32} {gg : Nat → Nat → Int64} {pz : Nat → Int32} {fz : Nat → Nat → Int32} {gz : Nat → Nat → Int64} (hs : SR9 pp ff gg pz fz gz) (t : RT3 (fz 0)) : CO9 (fz 0 1).toNatClampNeg (pp 5) (pp 1) (pp 2) (pp 3) (fz 0) := ⟨hs.2.2.1.1.2.1, (n_of hs t).1, (n_of hs t).2, hs.2.2.2.1, CoR_LK hs.2.2.1 t.1⟩
theorem FE_of {pp : Nat → Int32} {ff : Nat → Nat → Int32} {gg : Nat → Nat → Int64} {pz : Nat → Int32} {fz : Nat → Nat → Int32} {gz : Nat → Nat → Int64} (hs : SR9 pp ff gg pz fz gz) (t : RT3 (fz 0)) : FE9 (fz 0 1).toNatClampNeg (ff 1) (fz 0) := fun k hk => (hs.2.2.1.2.1 k (by have := (n_of hs t).1; omega)).1
theorem GA_of {pp : Nat → Int32} {ff : Nat → Nat → Int32} {gg : Nat → Nat → Int64} {pz : Nat → Int32} {fz : Nat → Nat → Int32} {gz : Nat → Nat → Int64} (hs : SR9 pp ff gg pz fz gz) (t : RT3 (fz 0)) : ∀ k : Nat, k < (fz 0 1).toNatClampNeg → ff 2 k = fz 0 (14 + k) := fun k hk => (hs.2.2.1.2.1 k (by have := (n_of hs t).1; omega)).2
theorem LW9 {pp : Nat → Int32} {ff : Nat → Nat → Int32} {gg : Nat → Nat → Int64} {pz : Nat → Int32} {fz : Nat → Nat → Int32} {gz : Nat → Nat → Int64} (hs : SR9 pp ff gg pz fz gz) (t : RT3 (fz 0)) : LW (DF (fz 0) (ff 1)) (ff 1) (ff 7) (pp 11) (pp 12) (pp 13) (pp 14) := LW_of hs.2.2.1 t.1
def SAMX (pp pp' : Nat → Int32) (ff ff' : Nat → Nat → Int32) : Prop := (∀ i ∈ [1, 2, 3, 35, 4, 5, 6, 7, 10, 11, 12, 13, 14], pp' i = pp i) ∧ ∀ i ∈ [1, 2, 3, 4, 5, 6, 7, 15], ff' i = ff i
def RNX0 (pp pp' : Nat → Int32) (ff ff' : Nat → Nat → Int32) : Prop := pp' 1 = pp 44 ∧ pp' 2 = pp 45 ∧ pp' 3 = pp 46 ∧ pp' 4 = pp 48 ∧ pp' 5 = pp 49 ∧ pp' 6 = pp 50 ∧ pp' 7 = pp 51 ∧ pp' 10 = pp 54 ∧ pp' 11 = pp 55 ∧ pp' 12 = pp 56 ∧ pp' 13 = pp 57 ∧ pp' 14 = pp 58 ∧ ff' 1 = va_cpy (ff 24) (ff 1) (0 : Int32).toNatClampNeg (0 : Int32).toNatClampNeg (4 : Int32).toNatClampNeg ∧ ff' 2 = va_cpy (ff 25) (ff 2) (0 : Int32).toNatClampNeg (0 : Int32).toNatClampNeg (4 : Int32).toNatClampNeg ∧ ff' 3 = va_cpy (ff 26) (ff 3) (0 : Int32).toNatClampNeg (0 : Int32).toNatClampNeg (4 : Int32).toNatClampNeg ∧ ff' 4 = va_cpy (ff 27) (ff 4) (0 : Int32).toNatClampNeg (0 : Int32).toNatClampNeg (8 : Int32).toNatClampNeg ∧ ff' 5 = va_cpy (ff 28) (ff 5) (0 : Int32).toNatClampNeg (0 : Int32).toNatClampNeg (8 : Int32).toNatClampNeg ∧ ff' 6 = va_cpy (ff 29) (ff 6) (0 : Int32).toNatClampNeg (0 : Int32).toNatClampNeg (8 : Int32).toNatClampNeg ∧ ff' 7 = va_cpy (ff 30) (ff 7) (0 : Int32).toNatClampNeg (0 : Int32).toNatClampNeg (pp 54 : Int32).toNatClampNeg
def RNX1 (pp pp' : Nat → Int32) (ff ff' : Nat → Nat → Int32) : Prop := pp' 1 = pp 59 ∧ pp' 2 = pp 60 ∧ pp' 3 = pp 61 ∧ pp' 4 = pp 63 ∧ pp' 5 = pp 64 ∧ pp' 6 = pp 65 ∧ pp' 7 = pp 66 ∧ pp' 10 = pp 69 ∧ pp' 11 = pp 70 ∧ pp' 12 = pp 71 ∧ pp' 13 = pp 72 ∧ pp' 14 = pp 73 ∧ ff' 1 = va_cpy (ff 31) (ff 1) (0 : Int32).toNatClampNeg (0 : Int32).toNatClampNeg (4 : Int32).toNatClampNeg ∧ ff' 2 = va_cpy (ff 32) (ff 2) (0 : Int32).toNatClampNeg (0 : Int32).toNatClampNeg (4 : Int32).toNatClampNeg ∧ ff' 3 = va_cpy (ff 33) (ff 3) (0 : Int32).toNatClampNeg (0 : Int32).toNatClampNeg (4 : Int32).toNatClampNeg ∧ ff' 4 = va_cpy (ff 34) (ff 4) (0 : Int32).toNatClampNeg (0 : Int32).toNatClampNeg (8 : Int32).toNatClampNeg ∧ ff' 5 = va_cpy (ff 35) (ff 5) (0 : Int32).toNatClampNeg (0 : Int32).toNatClampNeg (8 : Int32).toNatClampNeg ∧ ff' 6 = va_cpy (ff 36) (ff 6) (0 : Int32).toNatClampNeg (0 : Int32).toNatClampNeg (8 : Int32).toNatClampNeg ∧ ff' 7 = va_cpy (ff 37) (ff 7) (0 : Int32).toNatClampNeg (0 : Int32).toNatClampNeg (pp 69 : Int32).toNatClampNeg
def INX0 (pp pp' : Nat → Int32) (ff ff' : Nat → Nat → Int32) : Prop := pp' 47 = 1 ∧ pp' 44 = pp 1 ∧ pp' 45 = pp 2 ∧ pp' 46 = pp 3 ∧ pp' 48 = pp 4 ∧ pp' 49 = pp 5 ∧ pp' 50 = pp 6 ∧ pp' 51 = pp 7 ∧ pp' 54 = pp 10 ∧ pp' 55 = pp 11 ∧ pp' 56 = pp 12 ∧ pp' 57 = pp 13 ∧ pp' 58 = pp 14 ∧ ff' 24 = va_cpy (ff 1) (ff 24) (0 : Int32).toNatClampNeg (0 : Int32).toNatClampNeg (4 : Int32).toNatClampNeg ∧ ff' 25 = va_cpy (ff 2) (ff 25) (0 : Int32).toNatClampNeg (0 : Int32).toNatClampNeg (4 : Int32).toNatClampNeg ∧ ff' 26 = va_cpy (ff 3) (ff 26) (0 : Int32).toNatClampNeg (0 : Int32).toNatClampNeg (4 : Int32).toNatClampNeg ∧ ff' 27 = va_cpy (ff 4) (ff 27) (0 : Int32).toNatClampNeg (0 : Int32).toNatClampNeg (8 : Int32).toNatClampNeg ∧ ff' 28 = va_cpy (ff 5) (ff 28) (0 : Int32).toNatClampNeg (0 : Int32).toNatClampNeg (8 : Int32).toNatClampNeg ∧ ff' 29 = va_cpy (ff 6) (ff 29) (0 : Int32).toNatClampNeg (0 : Int32).toNatClampNeg (8 : Int32).toNatClampNeg ∧ ff' 30 = va_cpy (ff 7) (ff 30) (0 : Int32).toNatClampNeg (0 : Int32).toNatClampNeg (pp 10 : Int32).toNatClampNeg
def INX1 (pp pp' : Nat → Int32) (ff ff' : Nat → Nat → Int32) : Prop := pp' 62 = 1 ∧ pp' 59 = pp 1 ∧ pp' 60 = pp 2 ∧ pp' 61 = pp 3 ∧ pp' 63 = pp 4 ∧ pp' 64 = pp 5 ∧ pp' 65 = pp 6 ∧ pp' 66 = pp 7 ∧ pp' 69 = pp 10 ∧ pp' 70 = pp 11 ∧ pp' 71 = pp 12 ∧ pp' 72 = pp 13 ∧ pp' 73 = pp 14 ∧ ff' 31 = va_cpy (ff 1) (ff 31) (0 : Int32).toNatClampNeg (0 : Int32).toNatClampNeg (4 : Int32).toNatClampNeg ∧ ff' 32 = va_cpy (ff 2) (ff 32) (0 : Int32).toNatClampNeg (0 : Int32).toNatClampNeg (4 : Int32).toNatClampNeg ∧ ff' 33 = va_cpy (ff 3) (ff 33) (0 : Int32).toNatClampNeg (0 : Int32).toNatClampNeg (4 : Int32).toNatClampNeg ∧ ff' 34 = va_cpy (ff 4) (ff 34) (0 : Int32).toNatClampNeg (0 : Int32).toNatClampNeg (8 : Int32).toNatClampNeg ∧ ff' 35 = va_cpy (ff 5) (ff 35) (0 : Int32).toNatClampNeg (0 : Int32).toNatClampNeg (8 : Int32).toNatClampNeg ∧ ff' 36 = va_cpy (ff 6) (ff 36) (0 : Int32).toNatClampNeg (0 : Int32).toNatClampNeg (8 : Int32).toNatClampNeg ∧ ff' 37 = va_cpy (ff 7) (ff 37) (0 : Int32).toNatClampNeg (0 : Int32).toNatClampNeg (pp 10 : Int32).toNatClampNeg
def ISX0 (pp pp' : Nat → Int32) (ff ff' : Nat → Nat → Int32) : Prop := (∀ i ∈ [44, 45, 46, 47, 48, 49, 50, 51, 54, 55, 56, 57, 58], pp' i = pp i) ∧ ∀ i ∈ [24, 25, 26, 27, 28, 29, 30], ff' i = ff i
def ISX1 (pp pp' : Nat → Int32) (ff ff' : Nat → Nat → Int32) : Prop := (∀ i ∈ [59, 60, 61, 62, 63, 64, 65, 66, 69, 70, 71, 72, 73], pp' i = pp i) ∧ ∀ i ∈ [31, 32, 33, 34, 35, 36, 37], ff' i = ff i
def RESX (a r : Int32) (pp pp' : Nat → Int32) (ff ff' : Nat → Nat → Int32) : Prop := (((a.toInt < 0 ∨ 2 ≤ a.toInt) ∧ r = -2 ∨ (a = 0 ∧ pp 47 = 0 ∨ a = 1 ∧ pp 62 = 0) ∧ r = -5) ∧ SAMX pp pp' ff ff') ∨ (r = 0 ∧ (∀ j : Nat, j < 2000 → ff' 15 j = 0) ∧ pp' 35 = 0 ∧ (a = 0 ∧ ¬ pp 47 = 0 ∧ RNX0 pp pp' ff ff' ∨ a = 1 ∧ ¬ pp 62 = 0 ∧ RNX1 pp pp' ff ff'))
def IMGX (a r : Int32) (pp pp' : Nat → Int32) (ff ff' : Nat → Nat → Int32) : Prop := (a.toInt < 0 ∨ 2 ≤ a.toInt) ∧ r = -2 ∧ ISX0 pp pp' ff ff' ∧ ISX1 pp pp' ff ff' ∨ a = 0 ∧ r = 0 ∧ INX0 pp pp' ff ff' ∧ ISX1 pp pp' ff ff' ∨ a = 1 ∧ r = 0 ∧ ISX0 pp pp' ff ff' ∧ INX1 pp pp' ff ff'
theorem isI (a : Int32) : (F_k_X9_isImage_0 a = 0 ∧ a.toInt < 0) ∨ (F_k_X9_isImage_0 a = 1 ∧ 2 ≤ a.toInt) ∨ (F_k_X9_isImage_0 a = 2 ∧ (a = 0 ∨ a = 1)) := by
  have z0 : (0 : Int32).toInt = 0 := by decide
  have z1 : (1 : Int32).toInt = 1 := by decide
  have z2 : (2 : Int32).toInt = 2 := by decide
  by_cases h : a < 0
  · exact Or.inl ⟨if_pos h, by rw [Int32.lt_iff_toInt_lt, z0] at h; exact h⟩
  · by_cases g : (2 : Int32) ≤ a
    · exact Or.inr (Or.inl ⟨(if_neg h).trans (if_pos g), by rw [Int32.le_iff_toInt_le, z2] at g; exact g⟩)
    · refine Or.inr (Or.inr ⟨(if_neg h).trans (if_neg g), ?_⟩)
      rw [Int32.lt_iff_toInt_lt, z0] at h
      rw [Int32.le_iff_toInt_le, z2] at g
      by_cases e : a.toInt = 0
      · exact Or.inl (Int32.toInt_inj.mp (e.trans z0.symm))
      · exact Or.inr (Int32.toInt_inj.mp (by rw [z1]; omega))
theorem imW {a : Int32} : F_k_X10_within_0 a.toInt64 0 1 = if 0 ≤ a.toInt ∧ a.toInt ≤ 1 then 1 else 0 := by
  rw [wiZ, z64, (by decide : (0 : Int64).toInt = 0), (by decide : (1 : Int64).toInt = 1)]
theorem imW1 {a : Int32} (h : a = 0 ∨ a = 1) : ¬ F_k_X10_within_0 a.toInt64 0 1 = 0 := by
  rw [imW, if_pos (by rcases h with e | e <;> (subst e; decide))]; decide
theorem imW0 {a : Int32} (h : a.toInt < 0 ∨ 2 ≤ a.toInt) : F_k_X10_within_0 a.toInt64 0 1 = 0 := by
  rw [imW, if_neg (by omega)]
theorem imN {a : Int32} (A hz : Nat → Int32) (h : a.toInt < 0 ∨ 2 ≤ a.toInt) : F_k_X10_image_0 a A hz = (-2, 0, A, hz) := if_pos (imW0 h)
theorem im0 (A hz : Nat → Int32) : F_k_X10_image_0 0 A hz = W9 (L_k_X10_image_0_1 hz) (0, A) := by
  show (if F_k_X10_within_0 (0 : Int32).toInt64 0 1 = 0 then (-2, 0, A, hz) else if (0 : Int32) = 0 then W9 (L_k_X10_image_0_1 hz) (0, A) else W9 (L_k_X10_image_0_2 hz) (0, A)) = _
  rw [if_neg (imW1 (Or.inl rfl)), if_pos rfl]
theorem im1 (A hz : Nat → Int32) : F_k_X10_image_0 1 A hz = W9 (L_k_X10_image_0_2 hz) (0, A) := by
  show (if F_k_X10_within_0 (1 : Int32).toInt64 0 1 = 0 then (-2, 0, A, hz) else if (1 : Int32) = 0 then W9 (L_k_X10_image_0_1 hz) (0, A) else W9 (L_k_X10_image_0_2 hz) (0, A)) = _
  rw [if_neg (imW1 (Or.inr rfl)), if_neg (by decide)]
theorem reN {a : Int32} (A hz : Nat → Int32) (h : a.toInt < 0 ∨ 2 ≤ a.toInt) : F_k_X10_restore_0 a A hz = (-2, 0, A) := if_pos (imW0 h)
theorem re0 (A hz : Nat → Int32) : F_k_X10_restore_0 0 A hz = if hz 0 = 0 then (-5, 0, A) else W9 L_k_X10_restore_0_1 (0, A) := by
  show (if F_k_X10_within_0 (0 : Int32).toInt64 0 1 = 0 then (-2, 0, A) else if (0 : Int32) = 0 then (if hz 0 = 0 then (-5, 0, A) else W9 L_k_X10_restore_0_1 (0, A)) else (if hz 1 = 0 then (-5, 0, A) else W9 L_k_X10_restore_0_2 (0, A))) = _
  rw [if_neg (imW1 (Or.inl rfl)), if_pos rfl]
theorem re1 (A hz : Nat → Int32) : F_k_X10_restore_0 1 A hz = if hz 1 = 0 then (-5, 0, A) else W9 L_k_X10_restore_0_2 (0, A) := by
  show (if F_k_X10_within_0 (1 : Int32).toInt64 0 1 = 0 then (-2, 0, A) else if (1 : Int32) = 0 then (if hz 0 = 0 then (-5, 0, A) else W9 L_k_X10_restore_0_1 (0, A)) else (if hz 1 = 0 then (-5, 0, A) else W9 L_k_X10_restore_0_2 (0, A))) = _
  rw [if_neg (imW1 (Or.inr rfl)), if_neg (by decide)]
theorem AF_im {A A' fe : Nat → Int32} (h : ∀ j : Nat, j < 1025 → A' j = A j) : ∀ j : Nat, j < 1025 → AF A' fe j = AF A fe j := fun j hj => by
  unfold AF
  split
  · rfl
  · exact h j hj
theorem CLs_im {B B' : Nat → Int32} (h : ∀ j : Nat, j < 1025 → B' j = B j) {many fr : Nat} (h1 : many < 1025) (h2 : fr < 1025) (w : (B fr).toNatClampNeg + (B many).toNatClampNeg ≤ 900) : CLs B' many fr = CLs B many fr := CLs_b (h _ h1) (h _ h2) (fun k hk => h _ (by omega))
theorem DF_im {A A' fe : Nat → Int32} (h : ∀ j : Nat, j < 1025 → A' j = A j) (w : WF A 0) : DF A' fe = DF A fe := by
  have hA := AF_im (fe := fe) h
  have w0 : (AF A fe 6).toNatClampNeg + (AF A fe 8).toNatClampNeg ≤ 900 := by
    rw [AF_o (A := A) (fe := fe) (j := 6) (by decide), AF_o (A := A) (fe := fe) (j := 8) (by decide)]; exact (w 0 (by decide)).1
  have w1 : (AF A fe 7).toNatClampNeg + (AF A fe 9).toNatClampNeg ≤ 900 := by
    rw [AF_o (A := A) (fe := fe) (j := 7) (by decide), AF_o (A := A) (fe := fe) (j := 9) (by decide)]; exact (w 1 (by decide)).1
  have c0 := CLs_im hA (many := 8) (fr := 6) (by decide) (by decide) w0
  have c1 := CLs_im hA (many := 9) (fr := 7) (by decide) (by decide) w1
  unfold DF
  funext j
  unfold DA dgS tkQ adQ
  rw [c0, c1, hA 4 (by decide), hA 5 (by decide), hA (10 + j / 50 % 4) (by omega)]
theorem SR_image {pp pp' : Nat → Int32} {ff ff' : Nat → Nat → Int32} {gg gg' : Nat → Nat → Int64} {pz pz' : Nat → Int32} {fz fz' : Nat → Nat → Int32} {gz gz' : Nat → Nat → Int64} (hs : SR9 pp ff gg pz fz gz) (t : RT3 (fz 0)) (fp : ∀ i ∈ [0, 1, 2, 3, 4, 5, 6, 7, 10, 11, 12, 13, 14, 15, 16, 35, 36, 37, 38, 39, 40, 41, 42, 43], pp' i = pp i) (fr : ∀ i ∈ [0, 1, 2, 3, 4, 5, 6, 7, 20, 21, 22], ff' i = ff i) (fg : ∀ i ∈ [0, 1, 2, 3], gg' i = gg i) (zp : ∀ i ∈ [5, 13, 14], pz' i = pz i) (zf : ∀ i ∈ [2, 18, 19], fz' i = fz i) (zg : ∀ i ∈ [3], gz' i = gz i) (kn : KN (DF (fz 0) (ff 1)) (ff' 15)) (hlo : ∀ j : Nat, j < 1025 → fz' 0 j = fz 0 j) (i0 : I0G pp' ff' fz') (i1 : I1G pp' ff' fz') : SR9 pp' ff' gg' pz' fz' gz' := by
  have e1 : fz' 0 1 = fz 0 1 := hlo 1 (by decide)
  refine ⟨(TpG_c (sb9 fp (by decide)) (sb9 fr (by decide)) (zp 5 (by decide)) (zf 2 (by decide)) hs.1), (FaG_c (sb9 fp (by decide)) (zp 13 (by decide)) (zp 14 (by decide)) hs.2.1), ?_, ?_, ?_, (TrG_c (sb9 fp (by decide)) (sb9 fg (by decide)) (zf 18 (by decide)) (zf 19 (by decide)) (zg 3 (by decide)) hs.2.2.2.2.2.1), i0, i1, ?_⟩
  · have h := hs.2.2.1
    unfold CoG at h ⊢
    rw [fp 4 (by decide), fp 5 (by decide), fp 6 (by decide), fp 7 (by decide), fp 10 (by decide), fp 11 (by decide), fp 12 (by decide), fp 13 (by decide), fp 14 (by decide), fr 1 (by decide), fr 2 (by decide), fr 3 (by decide), fr 4 (by decide), fr 5 (by decide), fr 6 (by decide), fr 7 (by decide)]
    exact CoR_cg (fun j _ hj => hlo j hj) t.1 h
  · have h := hs.2.2.2.1
    unfold SnG at h ⊢
    rw [fp 1 (by decide), fp 2 (by decide), fp 3 (by decide), e1]
    exact SnR_cg h (fun k hk => hlo _ (by omega))
  · have h := hs.2.2.2.2.1
    unfold PaG at h ⊢
    rw [fp 35 (by decide), fr 20 (by decide), fr 21 (by decide), fr 22 (by decide), e1]
    exact PaR_g h (fun j hj => hlo j (by omega))
  · unfold KnG
    rw [fr 1 (by decide), DF_im hlo t.1.2]
    exact kn
theorem sh_j {A : Nat → Int32} {o j : Nat} : sh9A A o j = A (o + j) := rfl
theorem IN_0 {pp pp' : Nat → Int32} {ff ff' : Nat → Nat → Int32} {gg : Nat → Nat → Int64} {pz : Nat → Int32} {fz fz' : Nat → Nat → Int32} {gz : Nat → Nat → Int64} (hs : SR9 pp ff gg pz fz gz) (t : RT3 (fz 0)) (x : INX0 pp pp' ff ff') (hz : fz' 1 0 = 1) (hh : ∀ j : Nat, j < 1025 → fz' 0 (1025 + j) = fz 0 j) : I0G pp' ff' fz' := by
  have h := hs.2.2.1
  have g := hs.2.2.2.1
  unfold CoG at h
  unfold SnG at g
  unfold INX0 at x
  have e1 : sh9A (fz' 0) 1025 1 = fz 0 1 := hh 1 (by decide)
  unfold I0G
  rw [x.1, x.2.1, x.2.2.1, x.2.2.2.1, x.2.2.2.2.1, x.2.2.2.2.2.1, x.2.2.2.2.2.2.1, x.2.2.2.2.2.2.2.1, x.2.2.2.2.2.2.2.2.1, x.2.2.2.2.2.2.2.2.2.1, x.2.2.2.2.2.2.2.2.2.2.1, x.2.2.2.2.2.2.2.2.2.2.2.1, x.2.2.2.2.2.2.2.2.2.2.2.2.1, x.2.2.2.2.2.2.2.2.2.2.2.2.2.1, x.2.2.2.2.2.2.2.2.2.2.2.2.2.2.1, x.2.2.2.2.2.2.2.2.2.2.2.2.2.2.2.1, x.2.2.2.2.2.2.2.2.2.2.2.2.2.2.2.2.1, x.2.2.2.2.2.2.2.2.2.2.2.2.2.2.2.2.2.1, x.2.2.2.2.2.2.2.2.2.2.2.2.2.2.2.2.2.2.1, x.2.2.2.2.2.2.2.2.2.2.2.2.2.2.2.2.2.2.2]
  refine Or.inr ⟨hz, rfl, CoR_cg (fun j _ hj => hh j hj) t.1 (CoR_cp t.1 h), ?_⟩
  rw [e1]
  exact SnR_cg g (fun k hk => hh _ (by omega))
theorem IS_0 {pp pp' : Nat → Int32} {ff ff' : Nat → Nat → Int32} {gg : Nat → Nat → Int64} {pz : Nat → Int32} {fz fz' : Nat → Nat → Int32} {gz : Nat → Nat → Int64} (hs : SR9 pp ff gg pz fz gz) (t : RT3 (fz 0)) (x : ISX0 pp pp' ff ff') (hz : fz' 1 0 = fz 1 0) (hh : ∀ j : Nat, j < 1025 → fz' 0 (1025 + j) = fz 0 (1025 + j)) : I0G pp' ff' fz' := by
  have h := hs.2.2.2.2.2.2.1
  unfold I0G at h ⊢
  rw [x.1 44 (by decide), x.1 45 (by decide), x.1 46 (by decide), x.1 47 (by decide), x.1 48 (by decide), x.1 49 (by decide), x.1 50 (by decide), x.1 51 (by decide), x.1 54 (by decide), x.1 55 (by decide), x.1 56 (by decide), x.1 57 (by decide), x.1 58 (by decide), x.2 24 (by decide), x.2 25 (by decide), x.2 26 (by decide), x.2 27 (by decide), x.2 28 (by decide), x.2 29 (by decide), x.2 30 (by decide)]
  exact ImR_f hz hh t.2.1 h
theorem IN_1 {pp pp' : Nat → Int32} {ff ff' : Nat → Nat → Int32} {gg : Nat → Nat → Int64} {pz : Nat → Int32} {fz fz' : Nat → Nat → Int32} {gz : Nat → Nat → Int64} (hs : SR9 pp ff gg pz fz gz) (t : RT3 (fz 0)) (x : INX1 pp pp' ff ff') (hz : fz' 1 1 = 1) (hh : ∀ j : Nat, j < 1025 → fz' 0 (2050 + j) = fz 0 j) : I1G pp' ff' fz' := by
  have h := hs.2.2.1
  have g := hs.2.2.2.1
  unfold CoG at h
  unfold SnG at g
  unfold INX1 at x
  have e1 : sh9A (fz' 0) 2050 1 = fz 0 1 := hh 1 (by decide)
  unfold I1G
  rw [x.1, x.2.1, x.2.2.1, x.2.2.2.1, x.2.2.2.2.1, x.2.2.2.2.2.1, x.2.2.2.2.2.2.1, x.2.2.2.2.2.2.2.1, x.2.2.2.2.2.2.2.2.1, x.2.2.2.2.2.2.2.2.2.1, x.2.2.2.2.2.2.2.2.2.2.1, x.2.2.2.2.2.2.2.2.2.2.2.1, x.2.2.2.2.2.2.2.2.2.2.2.2.1, x.2.2.2.2.2.2.2.2.2.2.2.2.2.1, x.2.2.2.2.2.2.2.2.2.2.2.2.2.2.1, x.2.2.2.2.2.2.2.2.2.2.2.2.2.2.2.1, x.2.2.2.2.2.2.2.2.2.2.2.2.2.2.2.2.1, x.2.2.2.2.2.2.2.2.2.2.2.2.2.2.2.2.2.1, x.2.2.2.2.2.2.2.2.2.2.2.2.2.2.2.2.2.2.1, x.2.2.2.2.2.2.2.2.2.2.2.2.2.2.2.2.2.2.2]
  refine Or.inr ⟨hz, rfl, CoR_cg (fun j _ hj => hh j hj) t.1 (CoR_cp t.1 h), ?_⟩
  rw [e1]
  exact SnR_cg g (fun k hk => hh _ (by omega))
theorem IS_1 {pp pp' : Nat → Int32} {ff ff' : Nat → Nat → Int32} {gg : Nat → Nat → Int64} {pz : Nat → Int32} {fz fz' : Nat → Nat → Int32} {gz : Nat → Nat → Int64} (hs : SR9 pp ff gg pz fz gz) (t : RT3 (fz 0)) (x : ISX1 pp pp' ff ff') (hz : fz' 1 1 = fz 1 1) (hh : ∀ j : Nat, j < 1025 → fz' 0 (2050 + j) = fz 0 (2050 + j)) : I1G pp' ff' fz' := by
  have h := hs.2.2.2.2.2.2.2.1
  unfold I1G at h ⊢
  rw [x.1 59 (by decide), x.1 60 (by decide), x.1 61 (by decide), x.1 62 (by decide), x.1 63 (by decide), x.1 64 (by decide), x.1 65 (by decide), x.1 66 (by decide), x.1 69 (by decide), x.1 70 (by decide), x.1 71 (by decide), x.1 72 (by decide), x.1 73 (by decide), x.2 31 (by decide), x.2 32 (by decide), x.2 33 (by decide), x.2 34 (by decide), x.2 35 (by decide), x.2 36 (by decide), x.2 37 (by decide)]
  exact ImR_f hz hh t.2.2 h
theorem ST_image {pp pp' : Nat → Int32} {ff ff' : Nat → Nat → Int32} {gg gg' : Nat → Nat → Int64} {pz pz' : Nat → Int32} {fz fz' : Nat → Nat → Int32} {gz gz' : Nat → Nat → Int64} {a r0 r1 : Int32} (hs : SR9 pp ff gg pz fz gz) (t : RT3 (fz 0)) (fp : ∀ i ∈ [0, 1, 2, 3, 4, 5, 6, 7, 10, 11, 12, 13, 14, 15, 16, 35, 36, 37, 38, 39, 40, 41, 42, 43], pp' i = pp i) (fr : ∀ i ∈ [0, 1, 2, 3, 4, 5, 6, 7, 20, 21, 22], ff' i = ff i) (fg : ∀ i ∈ [0, 1, 2, 3], gg' i = gg i) (zp : ∀ i ∈ [5, 13, 14], pz' i = pz i) (zf : ∀ i ∈ [2, 18, 19], fz' i = fz i) (zg : ∀ i ∈ [3], gz' i = gz i) (kn : KN (DF (fz 0) (ff 1)) (ff' 15)) (x : IMGX a r0 pp pp' ff ff') (zr : r1 = (F_k_X10_image_0 a (fz 0) (fz 1)).1) (z0 : fz' 0 = (F_k_X10_image_0 a (fz 0) (fz 1)).2.2.1) (z1 : fz' 1 = (F_k_X10_image_0 a (fz 0) (fz 1)).2.2.2) : SR9 pp' ff' gg' pz' fz' gz' ∧ r0 = r1 := by
  rcases x with ⟨b, e, x0, x1⟩ | ⟨b, e, x0, x1⟩ | ⟨b, e, x0, x1⟩
  · rw [imN _ _ b] at zr z0 z1
    have z0 : fz' 0 = fz 0 := z0
    have z1 : fz' 1 = fz 1 := z1
    exact ⟨SR_image hs t fp fr fg zp zf zg kn (fun j _ => by rw [z0]) (IS_0 hs t x0 (by rw [z1]) (fun j _ => by rw [z0])) (IS_1 hs t x1 (by rw [z1]) (fun j _ => by rw [z0])), e.trans zr.symm⟩
  · subst b
    rw [im0] at zr z0 z1
    have q := im_Z0 (fz 0) (fz 1)
    obtain ⟨q0, q1, q2, q3⟩ := q
    rw [← zr] at q0
    rw [← z1] at q1
    rw [← z0] at q2 q3
    have z1 := q1
    exact ⟨SR_image hs t fp fr fg zp zf zg kn (fun j hj => q3 j (by omega)) (IN_0 hs t x0 (by rw [z1]; exact upd_at) q2) (IS_1 hs t x1 (by rw [z1]; exact upd_ne (by decide)) (fun j hj => q3 _ (by omega))), e.trans q0.symm⟩
  · subst b
    rw [im1] at zr z0 z1
    have q := im_Z1 (fz 0) (fz 1)
    obtain ⟨q0, q1, q2, q3⟩ := q
    rw [← zr] at q0
    rw [← z1] at q1
    rw [← z0] at q2 q3
    have z1 := q1
    exact ⟨SR_image hs t fp fr fg zp zf zg kn (fun j hj => q3 j (by omega)) (IS_0 hs t x0 (by rw [z1]; exact upd_ne (by decide)) (fun j hj => q3 _ (by omega))) (IN_1 hs t x1 (by rw [z1]; exact upd_at) q2), e.trans q0.symm⟩
theorem SR_same {pp pp' : Nat → Int32} {ff ff' : Nat → Nat → Int32} {gg gg' : Nat → Nat → Int64} {pz pz' : Nat → Int32} {fz fz' : Nat → Nat → Int32} {gz gz' : Nat → Nat → Int64} (hs : SR9 pp ff gg pz fz gz) (t : RT3 (fz 0)) (fp : ∀ i ∈ (0 :: 15 :: 16 :: 36 :: 37 :: 38 :: 39 :: 40 :: 41 :: 42 :: 43 :: 44 :: 45 :: 46 :: 47 :: 48 :: 49 :: 50 :: 51 :: 54 :: 55 :: 56 :: 57 :: 58 :: 59 :: 60 :: 61 :: 62 :: 63 :: 64 :: 65 :: 66 :: 69 :: 70 :: 71 :: 72 :: 73 :: ([] : List Nat)), pp' i = pp i) (fr : ∀ i ∈ [0, 20, 21, 22, 24, 25, 26, 27, 28, 29, 30, 31, 32, 33, 34, 35, 36, 37], ff' i = ff i) (fg : ∀ i ∈ [0, 1, 2, 3], gg' i = gg i) (zp : ∀ i ∈ [5, 13, 14], pz' i = pz i) (zf : ∀ i ∈ [0, 1, 2, 18, 19], fz' i = fz i) (zg : ∀ i ∈ [3], gz' i = gz i) (x : SAMX pp pp' ff ff') : SR9 pp' ff' gg' pz' fz' gz' :=
  SR_keep hs t (fun i hi => (List.mem_append.mp ((by decide : ∀ i ∈ (0 :: 1 :: 2 :: 3 :: 4 :: 5 :: 6 :: 7 :: 10 :: 11 :: 12 :: 13 :: 14 :: 15 :: 16 :: 35 :: 36 :: 37 :: 38 :: 39 :: 40 :: 41 :: 42 :: 43 :: 44 :: 45 :: 46 :: 47 :: 48 :: 49 :: 50 :: 51 :: 54 :: 55 :: 56 :: 57 :: 58 :: 59 :: 60 :: 61 :: 62 :: 63 :: 64 :: 65 :: 66 :: 69 :: 70 :: 71 :: 72 :: 73 :: ([] : List Nat)), i ∈ [1, 2, 3, 35, 4, 5, 6, 7, 10, 11, 12, 13, 14] ++ (0 :: 15 :: 16 :: 36 :: 37 :: 38 :: 39 :: 40 :: 41 :: 42 :: 43 :: 44 :: 45 :: 46 :: 47 :: 48 :: 49 :: 50 :: 51 :: 54 :: 55 :: 56 :: 57 :: 58 :: 59 :: 60 :: 61 :: 62 :: 63 :: 64 :: 65 :: 66 :: 69 :: 70 :: 71 :: 72 :: 73 :: ([] : List Nat))) i hi)).elim (x.1 i) (fp i)) (fun i hi => (List.mem_append.mp ((by decide : ∀ i ∈ [0, 1, 2, 3, 4, 5, 6, 7, 20, 21, 22, 24, 25, 26, 27, 28, 29, 30, 31, 32, 33, 34, 35, 36, 37], i ∈ [1, 2, 3, 4, 5, 6, 7, 15] ++ [0, 20, 21, 22, 24, 25, 26, 27, 28, 29, 30, 31, 32, 33, 34, 35, 36, 37]) i hi)).elim (x.2 i) (fr i)) fg zp zf zg (by rw [x.2 15 (by decide)]; exact hs.2.2.2.2.2.2.2.2)
theorem PaG_0 {pp' : Nat → Int32} {ff' fz' : Nat → Nat → Int32} (e : pp' 35 = 0) (z : fz' 0 53 = 0) : PaG pp' ff' fz' := ⟨0, by decide, e.trans nI_0.symm, z.trans nI_0.symm, fun i hi => absurd hi (Nat.not_lt_zero _)⟩
theorem RE_0 {pp pp' : Nat → Int32} {ff ff' : Nat → Nat → Int32} {gg gg' : Nat → Nat → Int64} {pz pz' : Nat → Int32} {fz fz' : Nat → Nat → Int32} {gz gz' : Nat → Nat → Int64} (hs : SR9 pp ff gg pz fz gz) (t : RT3 (fz 0)) (fp : ∀ i ∈ (0 :: 15 :: 16 :: 36 :: 37 :: 38 :: 39 :: 40 :: 41 :: 42 :: 43 :: 44 :: 45 :: 46 :: 47 :: 48 :: 49 :: 50 :: 51 :: 54 :: 55 :: 56 :: 57 :: 58 :: 59 :: 60 :: 61 :: 62 :: 63 :: 64 :: 65 :: 66 :: 69 :: 70 :: 71 :: 72 :: 73 :: ([] : List Nat)), pp' i = pp i) (fr : ∀ i ∈ [0, 20, 21, 22, 24, 25, 26, 27, 28, 29, 30, 31, 32, 33, 34, 35, 36, 37], ff' i = ff i) (fg : ∀ i ∈ [0, 1, 2, 3], gg' i = gg i) (zp : ∀ i ∈ [5, 13, 14], pz' i = pz i) (zf : ∀ i ∈ [1, 2, 18, 19], fz' i = fz i) (zg : ∀ i ∈ [3], gz' i = gz i) (mk : ¬ pp 47 = 0) (x : RNX0 pp pp' ff ff') (e35 : pp' 35 = 0) (hk : ∀ j : Nat, j < 2000 → ff' 15 j = 0) (h53 : fz' 0 53 = 0) (hh : ∀ j : Nat, j < 1025 → j ≠ 53 → fz' 0 j = fz 0 (1025 + j)) (hi : ∀ j : Nat, 1025 ≤ j → fz' 0 j = fz 0 j) : SR9 pp' ff' gg' pz' fz' gz' := by
  have h := hs.2.2.2.2.2.2.1
  unfold I0G at h
  rcases h with ⟨_, m0⟩ | ⟨_, _, c, s⟩
  · exact absurd m0 mk
  unfold RNX0 at x
  have e1 : fz' 0 1 = sh9A (fz 0) 1025 1 := hh 1 (by decide) (by decide)
  have kn : KnG ff' fz' := KnG_0 hk
  have co : CoG pp' ff' fz' := by
    unfold CoG
    rw [x.2.2.2.1, x.2.2.2.2.1, x.2.2.2.2.2.1, x.2.2.2.2.2.2.1, x.2.2.2.2.2.2.2.1, x.2.2.2.2.2.2.2.2.1, x.2.2.2.2.2.2.2.2.2.1, x.2.2.2.2.2.2.2.2.2.2.1, x.2.2.2.2.2.2.2.2.2.2.2.1, x.2.2.2.2.2.2.2.2.2.2.2.2.1, x.2.2.2.2.2.2.2.2.2.2.2.2.2.1, x.2.2.2.2.2.2.2.2.2.2.2.2.2.2.1, x.2.2.2.2.2.2.2.2.2.2.2.2.2.2.2.1, x.2.2.2.2.2.2.2.2.2.2.2.2.2.2.2.2.1, x.2.2.2.2.2.2.2.2.2.2.2.2.2.2.2.2.2.1, x.2.2.2.2.2.2.2.2.2.2.2.2.2.2.2.2.2.2]
    exact CoR_cg (fun j hj h9 => hh j h9 (by omega)) t.2.1 (CoR_cp t.2.1 c)
  have sn : SnG pp' fz' := by
    unfold SnG
    rw [x.1, x.2.1, x.2.2.1, e1]
    exact SnR_cg s (fun k hk => hh _ (by omega) (by omega))
  exact SR_new hs t (sb9 fp (by decide)) (sb9 fr (by decide)) fg (fun i hi => absurd hi List.not_mem_nil) (sb9 zf (by decide)) zg hi (TpG_c (sb9 fp (by decide)) (sb9 fr (by decide)) (zp 5 (by decide)) (zf 2 (by decide)) hs.1) (FaG_c (sb9 fp (by decide)) (zp 13 (by decide)) (zp 14 (by decide)) hs.2.1) co sn (PaG_0 e35 h53) kn
theorem RE_1 {pp pp' : Nat → Int32} {ff ff' : Nat → Nat → Int32} {gg gg' : Nat → Nat → Int64} {pz pz' : Nat → Int32} {fz fz' : Nat → Nat → Int32} {gz gz' : Nat → Nat → Int64} (hs : SR9 pp ff gg pz fz gz) (t : RT3 (fz 0)) (fp : ∀ i ∈ (0 :: 15 :: 16 :: 36 :: 37 :: 38 :: 39 :: 40 :: 41 :: 42 :: 43 :: 44 :: 45 :: 46 :: 47 :: 48 :: 49 :: 50 :: 51 :: 54 :: 55 :: 56 :: 57 :: 58 :: 59 :: 60 :: 61 :: 62 :: 63 :: 64 :: 65 :: 66 :: 69 :: 70 :: 71 :: 72 :: 73 :: ([] : List Nat)), pp' i = pp i) (fr : ∀ i ∈ [0, 20, 21, 22, 24, 25, 26, 27, 28, 29, 30, 31, 32, 33, 34, 35, 36, 37], ff' i = ff i) (fg : ∀ i ∈ [0, 1, 2, 3], gg' i = gg i) (zp : ∀ i ∈ [5, 13, 14], pz' i = pz i) (zf : ∀ i ∈ [1, 2, 18, 19], fz' i = fz i) (zg : ∀ i ∈ [3], gz' i = gz i) (mk : ¬ pp 62 = 0) (x : RNX1 pp pp' ff ff') (e35 : pp' 35 = 0) (hk : ∀ j : Nat, j < 2000 → ff' 15 j = 0) (h53 : fz' 0 53 = 0) (hh : ∀ j : Nat, j < 1025 → j ≠ 53 → fz' 0 j = fz 0 (2050 + j)) (hi : ∀ j : Nat, 1025 ≤ j → fz' 0 j = fz 0 j) : SR9 pp' ff' gg' pz' fz' gz' := by
  have h := hs.2.2.2.2.2.2.2.1
  unfold I1G at h
  rcases h with ⟨_, m0⟩ | ⟨_, _, c, s⟩
  · exact absurd m0 mk
  unfold RNX1 at x
  have e1 : fz' 0 1 = sh9A (fz 0) 2050 1 := hh 1 (by decide) (by decide)
  have kn : KnG ff' fz' := KnG_0 hk
  have co : CoG pp' ff' fz' := by
    unfold CoG
    rw [x.2.2.2.1, x.2.2.2.2.1, x.2.2.2.2.2.1, x.2.2.2.2.2.2.1, x.2.2.2.2.2.2.2.1, x.2.2.2.2.2.2.2.2.1, x.2.2.2.2.2.2.2.2.2.1, x.2.2.2.2.2.2.2.2.2.2.1, x.2.2.2.2.2.2.2.2.2.2.2.1, x.2.2.2.2.2.2.2.2.2.2.2.2.1, x.2.2.2.2.2.2.2.2.2.2.2.2.2.1, x.2.2.2.2.2.2.2.2.2.2.2.2.2.2.1, x.2.2.2.2.2.2.2.2.2.2.2.2.2.2.2.1, x.2.2.2.2.2.2.2.2.2.2.2.2.2.2.2.2.1, x.2.2.2.2.2.2.2.2.2.2.2.2.2.2.2.2.2.1, x.2.2.2.2.2.2.2.2.2.2.2.2.2.2.2.2.2.2]
    exact CoR_cg (fun j hj h9 => hh j h9 (by omega)) t.2.2 (CoR_cp t.2.2 c)
  have sn : SnG pp' fz' := by
    unfold SnG
    rw [x.1, x.2.1, x.2.2.1, e1]
    exact SnR_cg s (fun k hk => hh _ (by omega) (by omega))
  exact SR_new hs t (sb9 fp (by decide)) (sb9 fr (by decide)) fg (fun i hi => absurd hi List.not_mem_nil) (sb9 zf (by decide)) zg hi (TpG_c (sb9 fp (by decide)) (sb9 fr (by decide)) (zp 5 (by decide)) (zf 2 (by decide)) hs.1) (FaG_c (sb9 fp (by decide)) (zp 13 (by decide)) (zp 14 (by decide)) hs.2.1) co sn (PaG_0 e35 h53) kn
theorem hz_k {A : Nat → Int32} {o : Nat} {hz mk s w g ln hn vn rn : Int32} {fe ga ne rf rt ca st : Nat → Int32} {sc tb te ab ae : Int32} (h : ImR A o hz mk s w g ln hn vn rn fe ga ne rf rt ca st sc tb te ab ae) : (mk = 0 → hz = 0) ∧ (¬ mk = 0 → ¬ hz = 0) := by
  rcases h with ⟨a, b⟩ | ⟨a, b, _, _⟩
  · exact ⟨fun _ => a, fun q => absurd b q⟩
  · exact ⟨fun q => absurd (b.symm.trans q) (by decide), fun _ q => absurd (a.symm.trans q) (by decide)⟩
theorem ST_restore {pp pp' : Nat → Int32} {ff ff' : Nat → Nat → Int32} {gg gg' : Nat → Nat → Int64} {pz pz' : Nat → Int32} {fz fz' : Nat → Nat → Int32} {gz gz' : Nat → Nat → Int64} {a r0 r1 : Int32} (hs : SR9 pp ff gg pz fz gz) (t : RT3 (fz 0)) (fp : ∀ i ∈ (0 :: 15 :: 16 :: 36 :: 37 :: 38 :: 39 :: 40 :: 41 :: 42 :: 43 :: 44 :: 45 :: 46 :: 47 :: 48 :: 49 :: 50 :: 51 :: 54 :: 55 :: 56 :: 57 :: 58 :: 59 :: 60 :: 61 :: 62 :: 63 :: 64 :: 65 :: 66 :: 69 :: 70 :: 71 :: 72 :: 73 :: ([] : List Nat)), pp' i = pp i) (fr : ∀ i ∈ [0, 20, 21, 22, 24, 25, 26, 27, 28, 29, 30, 31, 32, 33, 34, 35, 36, 37], ff' i = ff i) (fg : ∀ i ∈ [0, 1, 2, 3], gg' i = gg i) (zp : ∀ i ∈ [5, 13, 14], pz' i = pz i) (zf : ∀ i ∈ [1, 2, 18, 19], fz' i = fz i) (zg : ∀ i ∈ [3], gz' i = gz i) (x : RESX a r0 pp pp' ff ff') (zr : r1 = (F_k_X10_restore_0 a (fz 0) (fz 1)).1) (z0 : fz' 0 = (F_k_X10_restore_0 a (fz 0) (fz 1)).2.2) : SR9 pp' ff' gg' pz' fz' gz' ∧ r0 = r1 := by
  have k0 := hz_k hs.2.2.2.2.2.2.1
  have k1 := hz_k hs.2.2.2.2.2.2.2.1
  rcases x with ⟨⟨b, e⟩ | ⟨⟨b, m⟩ | ⟨b, m⟩, e⟩, x⟩ | ⟨e, hk, e35, ⟨b, m, x⟩ | ⟨b, m, x⟩⟩
  · rw [reN _ _ b] at zr z0
    exact ⟨SR_same hs t fp fr fg zp (List.forall_mem_cons.mpr ⟨z0, zf⟩) zg x, e.trans zr.symm⟩
  · subst b
    rw [re0, if_pos (k0.1 m)] at zr z0
    exact ⟨SR_same hs t fp fr fg zp (List.forall_mem_cons.mpr ⟨z0, zf⟩) zg x, e.trans zr.symm⟩
  · subst b
    rw [re1, if_pos (k1.1 m)] at zr z0
    exact ⟨SR_same hs t fp fr fg zp (List.forall_mem_cons.mpr ⟨z0, zf⟩) zg x, e.trans zr.symm⟩
  · subst b
    rw [re0, if_neg (k0.2 m)] at zr z0
    obtain ⟨q0, q1, q2, q3⟩ := re_Z0 (fz 0)
    rw [← zr] at q0
    rw [← z0] at q1 q2 q3
    exact ⟨RE_0 hs t fp fr fg zp zf zg m x e35 hk q1 q2 q3, e.trans q0.symm⟩
  · subst b
    rw [re1, if_neg (k1.2 m)] at zr z0
    obtain ⟨q0, q1, q2, q3⟩ := re_Z1 (fz 0)
    rw [← zr] at q0
    rw [← z0] at q1 q2 q3
    exact ⟨RE_1 hs t fp fr fg zp zf zg m x e35 hk q1 q2 q3, e.trans q0.symm⟩
theorem CO_same {pp pp' : Nat → Int32} {ff ff' : Nat → Nat → Int32} {gg gg' : Nat → Nat → Int64} {pz pz' : Nat → Int32} {fz fz' : Nat → Nat → Int32} {gz gz' : Nat → Nat → Int64} (hs : SR9 pp ff gg pz fz gz) (t : RT3 (fz 0)) (fp : ∀ i ∈ (36 :: 37 :: 38 :: 39 :: 40 :: 41 :: 42 :: 43 :: 44 :: 45 :: 46 :: 47 :: 48 :: 49 :: 50 :: 51 :: 54 :: 55 :: 56 :: 57 :: 58 :: 59 :: 60 :: 61 :: 62 :: 63 :: 64 :: 65 :: 66 :: 69 :: 70 :: 71 :: 72 :: 73 :: ([] : List Nat)), pp' i = pp i) (fr : ∀ i ∈ [20, 21, 22, 24, 25, 26, 27, 28, 29, 30, 31, 32, 33, 34, 35, 36, 37], ff' i = ff i) (fg : ∀ i ∈ [0, 1, 2, 3], gg' i = gg i) (zp : ∀ i ∈ ([] : List Nat), pz' i = pz i) (zf : ∀ i ∈ [1, 2, 18, 19], fz' i = fz i) (zg : ∀ i ∈ [3], gz' i = gz i) (tp : TpG pp' ff' pz' fz') (fa : FaG pp' pz') (k : pp' 1 = pp 1 ∧ pp' 2 = pp 2 ∧ pp' 3 = pp 3 ∧ pp' 4 = pp 4 ∧ pp' 5 = pp 5 ∧ pp' 6 = pp 6 ∧ pp' 7 = pp 7 ∧ pp' 10 = pp 10 ∧ pp' 11 = pp 11 ∧ pp' 12 = pp 12 ∧ pp' 13 = pp 13 ∧ pp' 14 = pp 14 ∧ pp' 35 = pp 35 ∧ ff' 1 = ff 1 ∧ ff' 2 = ff 2 ∧ ff' 3 = ff 3 ∧ ff' 4 = ff 4 ∧ ff' 5 = ff 5 ∧ ff' 6 = ff 6 ∧ ff' 7 = ff 7 ∧ ff' 15 = ff 15) (k0 : fz' 0 = fz 0) : SR9 pp' ff' gg' pz' fz' gz' := by
  have S : SAMX pp pp' ff ff' := ⟨(List.forall_mem_cons.mpr ⟨k.1, (List.forall_mem_cons.mpr ⟨k.2.1, (List.forall_mem_cons.mpr ⟨k.2.2.1, (List.forall_mem_cons.mpr ⟨k.2.2.2.2.2.2.2.2.2.2.2.2.1, (List.forall_mem_cons.mpr ⟨k.2.2.2.1, (List.forall_mem_cons.mpr ⟨k.2.2.2.2.1, (List.forall_mem_cons.mpr ⟨k.2.2.2.2.2.1, (List.forall_mem_cons.mpr ⟨k.2.2.2.2.2.2.1, (List.forall_mem_cons.mpr ⟨k.2.2.2.2.2.2.2.1, (List.forall_mem_cons.mpr ⟨k.2.2.2.2.2.2.2.2.1, (List.forall_mem_cons.mpr ⟨k.2.2.2.2.2.2.2.2.2.1, (List.forall_mem_cons.mpr ⟨k.2.2.2.2.2.2.2.2.2.2.1, (List.forall_mem_cons.mpr ⟨k.2.2.2.2.2.2.2.2.2.2.2.1, fun _ h => absurd h List.not_mem_nil⟩)⟩)⟩)⟩)⟩)⟩)⟩)⟩)⟩)⟩)⟩)⟩)⟩), (List.forall_mem_cons.mpr ⟨k.2.2.2.2.2.2.2.2.2.2.2.2.2.1, (List.forall_mem_cons.mpr ⟨k.2.2.2.2.2.2.2.2.2.2.2.2.2.2.1, (List.forall_mem_cons.mpr ⟨k.2.2.2.2.2.2.2.2.2.2.2.2.2.2.2.1, (List.forall_mem_cons.mpr ⟨k.2.2.2.2.2.2.2.2.2.2.2.2.2.2.2.2.1, (List.forall_mem_cons.mpr ⟨k.2.2.2.2.2.2.2.2.2.2.2.2.2.2.2.2.2.1, (List.forall_mem_cons.mpr ⟨k.2.2.2.2.2.2.2.2.2.2.2.2.2.2.2.2.2.2.1, (List.forall_mem_cons.mpr ⟨k.2.2.2.2.2.2.2.2.2.2.2.2.2.2.2.2.2.2.2.1, (List.forall_mem_cons.mpr ⟨k.2.2.2.2.2.2.2.2.2.2.2.2.2.2.2.2.2.2.2.2, fun _ h => absurd h List.not_mem_nil⟩)⟩)⟩)⟩)⟩)⟩)⟩)⟩)⟩
  exact SR_new hs t (sb9 fp (by decide)) (sb9 fr (by decide)) fg (fun i hi => absurd hi List.not_mem_nil) (sb9 zf (by decide)) zg (fun j _ => by rw [k0]) tp fa (CoG_c (sb9 S.1 (by decide)) (sb9 S.2 (by decide)) (AGR_e k0) t hs.2.2.1) (SnG_c (sb9 S.1 (by decide)) k0 hs.2.2.2.1) (PaG_c (sb9 S.1 (by decide)) (sb9 fr (by decide)) k0 hs.2.2.2.2.1) (KnG_c (AGR_e k0) (S.2 1 (by decide)) (by rw [S.2 15 (by decide)]; exact hs.2.2.2.2.2.2.2.2))
theorem ST_coast {pp pp' : Nat → Int32} {ff ff' : Nat → Nat → Int32} {gg gg' : Nat → Nat → Int64} {pz pz' : Nat → Int32} {fz fz' : Nat → Nat → Int32} {gz gz' : Nat → Nat → Int64} {a1 : Int32} (hs : SR9 pp ff gg pz fz gz) (t : RT3 (fz 0)) (t' : RT3 (fz' 0)) (hle : (pp 0).toInt ≤ 900) (fp : ∀ i ∈ (36 :: 37 :: 38 :: 39 :: 40 :: 41 :: 42 :: 43 :: 44 :: 45 :: 46 :: 47 :: 48 :: 49 :: 50 :: 51 :: 54 :: 55 :: 56 :: 57 :: 58 :: 59 :: 60 :: 61 :: 62 :: 63 :: 64 :: 65 :: 66 :: 69 :: 70 :: 71 :: 72 :: 73 :: ([] : List Nat)), pp' i = pp i) (fr0 : ff' 0 = ff 0) (fr : ∀ i ∈ [20, 21, 22, 24, 25, 26, 27, 28, 29, 30, 31, 32, 33, 34, 35, 36, 37], ff' i = ff i) (fg : ∀ i ∈ [0, 1, 2, 3], gg' i = gg i) (zp : ∀ i ∈ ([] : List Nat), pz' i = pz i) (zf : ∀ i ∈ [1, 2, 18, 19], fz' i = fz i) (zg : ∀ i ∈ [3], gz' i = gz i) (e1 : pp' 0 = coS a1 (pp 0)) (e2 : pp' 15 = coW (ff 0) (pp 0) a1 (pp 15)) (e3 : pp' 16 = coA (ff 0) (pp 0) a1 (pp 16)) (x1 : ¬ (a1 < 0 ∨ pp 0 < a1) → (txR (tkX (ff 0) a1)).1.1 = 0 → ∃ fe9 ga9 ne9 rf9 rt9 ca9 st9 : Nat → Int32, (pp' 4 = (txR (tkX (ff 0) a1)).2 0 ∧ pp' 5 = (txR (tkX (ff 0) a1)).2 1 ∧ pp' 6 = (txR (tkX (ff 0) a1)).2 2 ∧ pp' 7 = (txR (tkX (ff 0) a1)).2 3) ∧ RWc (txR (tkX (ff 0) a1)).2 (pp' 1) fe9 ga9 ne9 rf9 rt9 ca9 ∧ LWc (txR (tkX (ff 0) a1)).2 (pp' 11) (pp' 12) (pp' 13) (pp' 14) (pp' 2) ∧ CDc (txR (tkX (ff 0) a1)).1 (pp' 10) st9 ∧ pp' 3 = 0 ∧ pp' 35 = 0 ∧ (ff' 1 = va_cpy fe9 (ff 1) (0 : Int32).toNatClampNeg (0 : Int32).toNatClampNeg (4 : Int32).toNatClampNeg ∧ ff' 2 = va_cpy ga9 (ff 2) (0 : Int32).toNatClampNeg (0 : Int32).toNatClampNeg (4 : Int32).toNatClampNeg ∧ ff' 3 = va_cpy ne9 (ff 3) (0 : Int32).toNatClampNeg (0 : Int32).toNatClampNeg (4 : Int32).toNatClampNeg ∧ ff' 4 = va_cpy rf9 (ff 4) (0 : Int32).toNatClampNeg (0 : Int32).toNatClampNeg (8 : Int32).toNatClampNeg ∧ ff' 5 = va_cpy rt9 (ff 5) (0 : Int32).toNatClampNeg (0 : Int32).toNatClampNeg (8 : Int32).toNatClampNeg ∧ ff' 6 = va_cpy ca9 (ff 6) (0 : Int32).toNatClampNeg (0 : Int32).toNatClampNeg (8 : Int32).toNatClampNeg ∧ ff' 7 = va_cpy st9 (ff 7) (0 : Int32).toNatClampNeg (0 : Int32).toNatClampNeg (pp' 10).toNatClampNeg) ∧ ∀ j : Nat, j < 2000 → ff' 15 j = 0) (x2 : ((a1 < 0 ∨ pp 0 < a1) ∨ ¬ (txR (tkX (ff 0) a1)).1.1 = 0) → pp' 1 = pp 1 ∧ pp' 2 = pp 2 ∧ pp' 3 = pp 3 ∧ pp' 4 = pp 4 ∧ pp' 5 = pp 5 ∧ pp' 6 = pp 6 ∧ pp' 7 = pp 7 ∧ pp' 10 = pp 10 ∧ pp' 11 = pp 11 ∧ pp' 12 = pp 12 ∧ pp' 13 = pp 13 ∧ pp' 14 = pp 14 ∧ pp' 35 = pp 35 ∧ ff' 1 = ff 1 ∧ ff' 2 = ff 2 ∧ ff' 3 = ff 3 ∧ ff' 4 = ff 4 ∧ ff' 5 = ff 5 ∧ ff' 6 = ff 6 ∧ ff' 7 = ff 7 ∧ ff' 15 = ff 15) (z1 : pz' 5 = coS a1 (pz 5)) (z2 : pz' 13 = coW (fz 2) (pz 5) a1 (pz 13)) (z3 : pz' 14 = coA (fz 2) (pz 5) a1 (pz 14)) (y1 : ¬ (a1 < 0 ∨ pz 5 < a1) → (txR (tkX (fz 2) a1)).1.1 = 0 → (∀ j : Nat, j < 124 → fz' 0 j = (txR (tkX (fz 2) a1)).2 j) ∧ CDz (txR (tkX (fz 2) a1)).1 (fz' 0) ∧ ∀ j : Nat, 1025 ≤ j → fz' 0 j = fz 0 j) (y2 : ((a1 < 0 ∨ pz 5 < a1) ∨ ¬ (txR (tkX (fz 2) a1)).1.1 = 0) → fz' 0 = fz 0) : SR9 pp' ff' gg' pz' fz' gz' := by
  have h := hs.1
  have g := hs.2.1
  unfold TpG at h
  unfold FaG at g
  have tp : TpG pp' ff' pz' fz' := ⟨by rw [fr0, zf 2 (by decide)]; exact h.1, by rw [e1, z1, h.2]⟩
  rw [← h.2] at z2 z3 y1 y2
  have fa : FaG pp' pz' := ⟨by rw [e2, z2, coW_cg h.1 hle, g.1], by rw [e3, z3, coA_cg h.1 hle, g.2]⟩
  by_cases no : a1 < 0 ∨ pp 0 < a1
  · exact CO_same hs t fp fr fg zp zf zg tp fa (x2 (Or.inl no)) (y2 (Or.inl no))
  have l9 := tk_le no hle
  have eX : tkX (ff 0) a1 = tkX (fz 2) a1 := tkX_cg h.1 l9
  rw [← eX] at y1 y2
  by_cases w : (txR (tkX (ff 0) a1)).1.1 = 0
  · obtain ⟨fe9, ga9, ne9, rf9, rt9, ca9, st9, lin, rw9, lw9, cd9, q3, q35, cp, hk⟩ := x1 no w
    obtain ⟨b9, cz9, hi9⟩ := y1 no w
    have hX : ∀ e, (tkX (ff 0) a1 e).2.2.2 < 3000 := fun e => tkX_lt l9 e
    have sn9 := SnR_tx hX w rw9 lw9 b9 t'.1
    have co : CoG pp' ff' fz' := by
      unfold CoG
      rw [cp.1, cp.2.1, cp.2.2.1, cp.2.2.2.1, cp.2.2.2.2.1, cp.2.2.2.2.2.1, cp.2.2.2.2.2.2]
      exact CoR_cp t'.1 (CoR_tx hX w lin rw9 lw9 cd9 b9 cz9)
    have sn : SnG pp' fz' := by
      unfold SnG
      rw [q3]
      exact sn9.1
    exact SR_new hs t (sb9 fp (by decide)) (sb9 fr (by decide)) fg (fun i hi => absurd hi List.not_mem_nil) (sb9 zf (by decide)) zg hi9 tp fa co sn (PaG_0 q35 sn9.2) (KnG_0 hk)
  · exact CO_same hs t fp fr fg zp zf zg tp fa (x2 (Or.inr w)) (y2 (Or.inr w))
theorem CoR_0 : CoR (fun _ => 0) 0 0 0 0 (fun _ => 0) (fun _ => 0) (fun _ => 0) (fun _ => 0) (fun _ => 0) (fun _ => 0) (fun _ => 0) 0 0 0 0 0 :=
  have z : ∀ {P : Prop} (j : Nat), (j : Int) < (0 : Int32).toInt → P := fun j h => absurd h (by have h9 : (0 : Int32).toInt = 0 := (by decide); omega)
  ⟨⟨rfl, rfl, rfl, rfl⟩, fun j h => z j h, fun j h => z j h, fun j h => z j h, ⟨Or.inl ⟨rfl, rfl, rfl⟩, Or.inl ⟨rfl, rfl, rfl⟩⟩, ⟨rfl, by unfold iv; decide⟩, fun j h => z j h, fun h => absurd h (by decide), fun h => absurd h (by decide)⟩
