def R_law : String := "BeaconDelayLaw"
def lw_P (b : Addr) (xs : List Int32) (args : Array Value) (s : State) : Prop := args = #[.ref b] ∧ s.IntsAt b xs ∧ xs.length ≤ 3072 ∧ (Jvm.Cond.and given_1 narrow_1).before args s = true
def lw_Q (_ : Array Value) (s : State) (o : Outcome) (t : State) : Prop := o = .returned (some (.int 1)) ∧ Framed s o t [] 600000 7302250
def lw_Z (below : List Frame) (a : Array Value) (s : State) : State → Prop := fun t => ∃ o, t.status = .running ∧ Ended t below o ∧ lw_Q a s o t
/-- the law's own end, with 1 on the stack, nothing written that was there before, its room as the claim has it -/
theorem lw_ret {p : Program} {l : Launch} {e : Env} {s : State} {m : MethodId} {below : List Frame} {meth : Method} {c : Code} {b : Nat} (hx : p.tables.exec = Jvm.exec) (hb : c.code = code) (hr : meth.sig.returnType = ret) (hlocks : meth.locks = false) {pc : Nat} {H : Heap} {ls : Array Slot} (hdg : decode code pc = .ok (.ireturn, 1)) : W p l e room_1 s m #[Value.ref b] below meth c H [] 600000 7302250 (lw_Z below #[Value.ref b] s) (F0 m pc ls [.int 1]) := by
  intro T hT X
  obtain ⟨fs, hret, hrun, hended, hW, hframe⟩ := X.leave (v := some (.int 1)) (hlocks := hlocks) (fun h => by rw [hr] at h; cases h)
  have hmeth' : T.vm.method? m = some meth := X.method'
  refine ⟨T.setFrames fs, ?_, .returned (some (.int 1)), hrun, hended, rfl, ⟨_, rfl⟩, hW, hframe⟩
  jvm_step X.here [X.here.top, hx, hb, hdg, hmeth', hr, ret, narrow_b1]
  (try refine ⟨rfl, ?_⟩); (try refine ⟨rfl, ?_⟩)
  first | (intro acts; rw [hret _ acts rfl rfl rfl]) | rw [hret _ _ rfl rfl rfl]
  exact Steps.refl _
/-- what holds at the law's entry: the machine, the code, the tables' words (any of lw_tbl by 'hts w (by decide +kernel)'), the script of L ints xs at the cell b, what the Statement gives of the start (any of its parts by flat_of_before) -/
def lw_At (p : Program) (s : State) (m : MethodId) (meth : Method) (c : Code) (b L : Nat) (xs : Nat → Int32) : Prop :=
  p.tables.exec = Jvm.exec ∧ c.code = code ∧ meth.sig.returnType = ret ∧ c.maxLocals = 4 ∧ s.vm.findClass R_law = some m.cls ∧ (∀ w ∈ lw_tbl, w.before #[Value.ref b] s = true) ∧ va_X b L xs s s.heap ∧ b < s.heap.size ∧ meth.locks = false ∧ (Jvm.Cond.and given_1 narrow_1).before #[Value.ref b] s = true


def up9 {α : Type} (f : Nat → α) (k : Nat) (v : α) : Nat → α := fun n => cond (Nat.beq n k) v (f n)
theorem ivUp {T : Nat → Int × Int} {f : Nat → Int32} {v : Int32} (k : Nat) (h : ivT T f) (hv : iv (T k).1 (T k).2 v) : ivT T (up9 f k v) := fun j => by
  unfold up9
  cases e : Nat.beq j k with
  | true => rw [cond_true, Nat.eq_of_beq_eq_true e]; exact hv
  | false => rw [cond_false]; exact h j
def lf9 {α : Type} (a : α) : Nat → α := fun _ => a
def br9 {α : Type} (m : Nat) (l r : Nat → α) : Nat → α := fun n => cond (Nat.ble m n) (r n) (l n)
def ivG (T : Nat → Int × Int) (f : Nat → Int32) (a b : Nat) : Prop := ∀ j, a ≤ j → j < b → iv (T j).1 (T j).2 (f j)
theorem ivG_b {T : Nat → Int × Int} {f g : Nat → Int32} {a b : Nat} (m : Nat) (h1 : ivG T f a m) (h2 : ivG T g m b) : ivG T (br9 m f g) a b := fun j ha hb => by
  unfold br9
  by_cases e : m ≤ j
  · rw [Nat.ble_eq_true_of_le e, cond_true]; exact h2 j e hb
  · rw [Bool.eq_false_iff.mpr (fun q => e (Nat.le_of_ble_eq_true q)), cond_false]; exact h1 j ha (by omega)
theorem ivG_l {T : Nat → Int × Int} {v : Int32} (k : Nat) (h : iv (T k).1 (T k).2 v) : ivG T (lf9 v) k (k + 1) := fun j ha hb => by
  have e : j = k := by omega
  subst e; exact h
theorem ivG_p {T : Nat → Int × Int} {f : Nat → Int32} {a b : Nat} (h : ivT T f) : ivG T f a b := fun j _ _ => h j
theorem ivG_t {T : Nat → Int × Int} {f g : Nat → Int32} (m : Nat) (h1 : ivG T f 0 m) (h2 : ivT T g) : ivT T (br9 m f g) := fun j => by
  unfold br9
  by_cases e : m ≤ j
  · rw [Nat.ble_eq_true_of_le e, cond_true]; exact h2 j
  · rw [Bool.eq_false_iff.mpr (fun q => e (Nat.le_of_ble_eq_true q)), cond_false]; exact h1 j (by omega) (by omega)
theorem as3 (a b c : va_W) : (a ++ b) ++ c = a ++ (b ++ c) := List.append_assoc a b c
theorem as4 (a b c d : va_W) : (a ++ (b ++ c)) ++ d = (a ++ b) ++ (c ++ d) := by rw [List.append_assoc, List.append_assoc, List.append_assoc]
theorem ptP {D : va_G} {cl : List vw_C} {ws ws' tl : va_W} {H : Heap} (h : va_P D cl (ws ++ tl) H) (is : List Nat) (hs : is.map (fun i => ws[i]?) = ws'.map some) : va_P D cl (ws' ++ tl) H := fun k q hk => h _ q (va_part is hs k q hk)
theorem swP {D : va_G} {cl : List vw_C} {a b : va_W} {H : Heap} (h : va_P D cl (a ++ b) H) : va_P D cl (b ++ a) H := fun k q hk => by
  have h1 := List.mem_append.mp (List.mem_of_getElem? hk)
  obtain ⟨i, hi⟩ := List.mem_iff_getElem?.mp (List.mem_append.mpr h1.symm)
  exact h i q hi
theorem swD {A : Nat → Prop} {a b : va_W} (h : va_D A (a ++ b)) : va_D A (b ++ a) := by
  have ha : ∀ (i : Nat) (q : Nat × va_E), a[i]? = some q → (a ++ b)[i]? = some q := fun i q hq => by rw [List.getElem?_append_left (List.getElem?_eq_some_iff.mp hq).1]; exact hq
  have hb : ∀ (i : Nat) (q : Nat × va_E), b[i]? = some q → (a ++ b)[a.length + i]? = some q := fun i q hq => by rw [List.getElem?_append_right (by omega), Nat.add_sub_cancel_left]; exact hq
  refine va_D.app ⟨fun i j x y hi hj e => ?_, fun k q hk => h.2 _ q (hb k q hk)⟩ ⟨fun i j x y hi hj e => h.1 i j x y (ha i x hi) (ha j y hj) e, fun k q hk => h.2 _ q (ha k q hk)⟩ (fun i j x y hi hj e => ?_)
  · have := h.1 _ _ x y (hb i x hi) (hb j y hj) e
    omega
  · have h1 := h.1 _ _ x y (hb i x hi) (ha j y hj) e
    have h2 := (List.getElem?_eq_some_iff.mp hj).1
    omega
theorem mapApp {ws w tl : va_W} (is : List Nat) (h : is.map (fun i => ws[i]?) = w.map some) : is.map (fun i => (ws ++ tl)[i]?) = w.map some := by
  rw [← h]
  refine List.map_congr_left (fun i hi => ?_)
  have h1 : ws[i]? ∈ is.map (fun i => ws[i]?) := List.mem_map.mpr ⟨i, hi, rfl⟩
  rw [h] at h1
  obtain ⟨q, -, hq⟩ := List.mem_map.mp h1
  exact List.getElem?_append_left (List.getElem?_eq_some_iff.mp hq.symm).1

def rpl : List Nat → va_W → va_W → va_W
  | 0 :: ds, c :: w, _ :: X => c :: rpl ds w X
  | (d + 1) :: ds, w, x :: X => x :: rpl (d :: ds) w X
  | _, _, X => X
def ixg : Nat → List Nat → List Nat
  | _, [] => []
  | n, d :: ds => (n + d) :: ixg (n + d + 1) ds
theorem ixg_s : ∀ (ds : List Nat) (n : Nat), ixg (n + 1) ds = (ixg n ds).map (· + 1)
  | [], _ => rfl
  | d :: ds, n => by
    show (n + 1 + d) :: ixg (n + 1 + d + 1) ds = (n + d + 1) :: (ixg (n + d + 1) ds).map (· + 1)
    rw [show n + 1 + d = n + d + 1 by omega, ixg_s ds (n + d + 1)]
theorem ixg_0 {d : Nat} {ds : List Nat} : ixg 0 ((d + 1) :: ds) = (ixg 0 (d :: ds)).map (· + 1) := by
  show (0 + (d + 1)) :: ixg (0 + (d + 1) + 1) ds = (0 + d + 1) :: (ixg (0 + d + 1) ds).map (· + 1)
  rw [← ixg_s]
  rfl
theorem mem_s {k : Nat} {l : List Nat} (h : k + 1 ∈ l.map (· + 1)) : k ∈ l := by
  obtain ⟨i, hi, e⟩ := List.mem_map.mp h
  have e' : i + 1 = k + 1 := e
  have e2 : i = k := by omega
  subst e2; exact hi
theorem rpl_n (d : Nat) (ds : List Nat) (w : va_W) : rpl (d :: ds) w [] = [] := by cases d <;> cases w <;> rfl
theorem rpl_in : ∀ (X : va_W) (ds : List Nat) (w : va_W), w.length = ds.length → ∀ (k : Nat) (q : Nat × va_E), (rpl ds w X)[k]? = some q → q ∈ w ∨ (X[k]? = some q ∧ k ∉ ixg 0 ds)
  | X, [], w, _, k, q, h => Or.inr ⟨by simpa [rpl] using h, by simp [ixg]⟩
  | [], d :: ds, w, _, k, q, h => by rw [rpl_n] at h; simp at h
  | x :: X, 0 :: ds, [], hl, _, _, _ => by simp at hl
  | x :: X, 0 :: ds, c :: w, hl, k, q, h => by
    have h' : (c :: rpl ds w X)[k]? = some q := h
    cases k with
    | zero =>
      rw [List.getElem?_cons_zero] at h'
      exact Or.inl (by rw [← Option.some.inj h']; exact List.mem_cons_self)
    | succ k =>
      rw [List.getElem?_cons_succ] at h'
      rcases rpl_in X ds w (by simpa using hl) k q h' with h1 | ⟨h1, h2⟩
      · exact Or.inl (List.mem_cons_of_mem _ h1)
      · refine Or.inr ⟨h1, fun z => ?_⟩
        have z' : k + 1 ∈ 0 :: ixg (0 + 1) ds := z
        rw [ixg_s] at z'
        rcases List.mem_cons.mp z' with z1 | z1
        · omega
        · exact h2 (mem_s z1)
  | x :: X, (d + 1) :: ds, w, hl, k, q, h => by
    have h' : (x :: rpl (d :: ds) w X)[k]? = some q := h
    cases k with
    | zero =>
      refine Or.inr ⟨h', fun z => ?_⟩
      rw [ixg_0] at z
      obtain ⟨i, _, e⟩ := List.mem_map.mp z
      have e' : i + 1 = 0 := e
      omega
    | succ k =>
      rw [List.getElem?_cons_succ] at h'
      rcases rpl_in X (d :: ds) w hl k q h' with h1 | ⟨h1, h2⟩
      · exact Or.inl h1
      · refine Or.inr ⟨h1, fun z => ?_⟩
        rw [ixg_0] at z
        exact h2 (mem_s z)
theorem rpl_fst : ∀ (X : va_W) (ds : List Nat) (w : va_W), (ixg 0 ds).map (fun i => (X.map Prod.fst)[i]?) = w.map (fun q => some q.1) → (rpl ds w X).map Prod.fst = X.map Prod.fst
  | X, [], w, _ => by simp [rpl]
  | [], d :: ds, w, _ => by rw [rpl_n]
  | x :: X, 0 :: ds, [], h => by simp [ixg] at h
  | x :: X, 0 :: ds, c :: w, h => by
    have h' : (some x.1) :: (ixg (0 + 1) ds).map (fun i => ((x :: X).map Prod.fst)[i]?) = some c.1 :: w.map (fun q => some q.1) := h
    have h1 := Option.some.inj (List.cons.inj h').1
    have h2 := (List.cons.inj h').2
    rw [ixg_s, List.map_map] at h2
    show c.1 :: (rpl ds w X).map Prod.fst = x.1 :: X.map Prod.fst
    rw [rpl_fst X ds w h2, h1]
  | x :: X, (d + 1) :: ds, w, h => by
    rw [ixg_0, List.map_map] at h
    show x.1 :: (rpl (d :: ds) w X).map Prod.fst = x.1 :: X.map Prod.fst
    rw [rpl_fst X (d :: ds) w h]
theorem dAddr {A : Nat → Prop} {ws ws' : va_W} (h : va_D A ws) (e : ws'.map Prod.fst = ws.map Prod.fst) : va_D A ws' := by
  have key : ∀ (k : Nat) (q : Nat × va_E), ws'[k]? = some q → ∃ q0 : Nat × va_E, ws[k]? = some q0 ∧ q0.1 = q.1 := by
    intro k q hk
    have h1 : (ws'.map Prod.fst)[k]? = some q.1 := by rw [List.getElem?_map, hk]; rfl
    rw [e, List.getElem?_map] at h1
    cases h2 : ws[k]? with
    | none => rw [h2] at h1; cases h1
    | some q0 => rw [h2] at h1; exact ⟨q0, rfl, Option.some.inj h1⟩
  refine ⟨fun i j x y hi hj exy => ?_, fun k q hk => ?_⟩
  · obtain ⟨x0, a1, a2⟩ := key i x hi
    obtain ⟨y0, b1, b2⟩ := key j y hj
    exact h.1 i j x0 y0 a1 b1 (by rw [a2, b2]; exact exy)
  · obtain ⟨q0, a1, a2⟩ := key k q hk
    rw [← a2]; exact h.2 k q0 a1
theorem nd_of : ∀ (l : List Nat), l.Nodup → va_nd l = true
  | [], _ => rfl
  | a :: l, h => by
    have h1 := List.nodup_cons.mp h
    unfold va_nd
    rw [Bool.and_eq_true, decide_eq_true_eq]
    exact ⟨h1.1, nd_of l h1.2⟩
def isRof (X : va_W) (isC : List Nat) : List Nat := (List.range X.length).filter (fun i => !isC.contains i)
theorem isRof_nd (X : va_W) (isC : List Nat) : va_nd (isRof X isC) = true := nd_of _ (List.Pairwise.filter _ List.nodup_range)
theorem isRof_mem {X : va_W} {isC : List Nat} {i : Nat} : i ∈ isRof X isC ↔ i < X.length ∧ i ∉ isC := by
  unfold isRof
  rw [List.mem_filter, List.mem_range]
  simp
theorem isRof_map (X : va_W) (isC : List Nat) : (isRof X isC).map (fun i => X[i]?) = ((isRof X isC).filterMap (fun i => X[i]?)).map some := by
  have key : ∀ l : List Nat, (∀ i ∈ l, i < X.length) → l.map (fun i => X[i]?) = (l.filterMap (fun i => X[i]?)).map some := by
    intro l
    induction l with
    | nil => intro _; rfl
    | cons a l ih =>
      intro h
      have ha := h a List.mem_cons_self
      have e : X[a]? = some X[a] := List.getElem?_eq_getElem ha
      have ih' := ih (fun i hi => h i (List.mem_cons_of_mem _ hi))
      simp only [List.map_cons, List.filterMap_cons, e, ih']
  exact key _ (fun i hi => (isRof_mem.mp hi).1)
theorem setJoin {A : Nat → Prop} {D : va_G} {cl : List vw_C} {X pl wc w : va_W} {H1 : Heap} (isC : List Nat) (hC : isC.map (fun i => X[i]?) = wc.map some) (hD : va_D A (X ++ pl)) (hP : va_P D cl ((((isRof X isC).filterMap (fun i => X[i]?)) ++ w) ++ pl) H1) (hf : w.map Prod.fst = wc.map Prod.fst) {ds : List Nat} (hds : ixg 0 ds = isC) {X' : va_W} (e : rpl ds w X = X') : va_P D cl (X' ++ pl) H1 ∧ va_D A (X' ++ pl) := by
  have hl : w.length = isC.length := by
    have h1 := congrArg List.length hf
    have h2 := congrArg List.length hC
    simp only [List.length_map] at h1 h2
    omega
  subst e
  subst hds
  have hl : w.length = ds.length := by
    have h9 : ∀ (l : List Nat) (n : Nat), (ixg n l).length = l.length := fun l => by
      induction l with
      | nil => intro n; rfl
      | cons a l ih => intro n; show (ixg (n + a + 1) l).length + 1 = l.length + 1; rw [ih]
    rw [hl, h9]
  refine ⟨fun k q hk => ?_, dAddr hD ?_⟩
  · have hm : q ∈ (((isRof X (ixg 0 ds)).filterMap (fun i => X[i]?)) ++ w) ++ pl := by
      rcases List.mem_append.mp (List.mem_of_getElem? hk) with h1 | h1
      · refine List.mem_append_left _ ?_
        obtain ⟨i, hi⟩ := List.mem_iff_getElem?.mp h1
        rcases rpl_in X ds w hl i q hi with h2 | ⟨h2, h3⟩
        · exact List.mem_append_right _ h2
        · exact List.mem_append_left _ (List.mem_filterMap.mpr ⟨i, isRof_mem.mpr ⟨(List.getElem?_eq_some_iff.mp h2).1, h3⟩, h2⟩)
      · exact List.mem_append_right _ h1
    obtain ⟨i, hi⟩ := List.mem_iff_getElem?.mp hm
    exact hP i q hi
  · have h1 : (ixg 0 ds).map (fun i => (X.map Prod.fst)[i]?) = ((ixg 0 ds).map (fun i => X[i]?)).map (fun o => o.map Prod.fst) := by
      rw [List.map_map]
      exact List.map_congr_left (fun i _ => List.getElem?_map)
    have h2 := congrArg (List.map some) hf
    rw [List.map_map, List.map_map] at h2
    have h3 : (ixg 0 ds).map (fun i => (X.map Prod.fst)[i]?) = w.map (fun q => some q.1) := by
      rw [h1, hC, List.map_map]
      exact h2.symm
    rw [List.map_append, List.map_append, rpl_fst X ds w h3]

abbrev AAs (s : State) : Nat → Prop := fun q : Nat => s.heap.size ≤ q
def LCx (p : Program) (s : State) (m : MethodId) (meth : Method) (c : Code) (b Lk : Nat) (xs : Nat → Int32) (V : GV) : Prop := lw_At p s m meth c b Lk xs ∧ (∀ w ∈ gw, w.before #[Value.ref b] s = true) ∧ va_K V.1 vwCl (tyV V) s ∧ En V (AAs s) s s.heap


theorem cXI {p : Program} {e : Env} {s : State} {m : MethodId} {below : List Frame} {meth : Method} {c : Code} {l : Launch} {b Lk : Nat} {xs : Nat → Int32} {V : GV} {H : Heap} {locs : List Loc} {cells slots mc ms : Nat} {X pl wc wr : va_W} {bytes : ByteArray} {pc mL n k index : Nat} {ls : Array Slot} {st rest As : List Value} {yy : MethodName} {bb : Nat} {ret : Option FieldType} {Q : State → Prop} {post : Int32 → va_W → Prop} (G : LCx p s m meth c b Lk xs V) (hM : Ct l V yy (.code yy bytes mL ret) k (.ref bb :: As) wc mc ms (QI V post)) (hm : MtV yy bytes mL ret n) (hlk : Cond.methodLink "BeaconDelayLaw" index yy ∈ gw) (hk : k + 1 ≤ room_1.frames ∧ 8 + (mL + 11) + 40 * k ≤ room_1.locals) (hP : va_P V.1 vwCl (X ++ pl) H) (hD : va_D (AAs s) (X ++ pl)) (hS : va_S (AAs s) s.heap H locs) (isC isR : List Nat) (hnC : va_nd isC = true) (hC : isC.map (fun i => X[i]?) = wc.map some) (hR : isR.map (fun i => X[i]?) = wr.map some) (hnR : va_nd isR = true) (hdis : ∀ i ∈ isR, i ∉ isC) (q0 : Nat) {ci : Nat} {fs : List Value} {qc : vw_C} (he : X[q0]? = some (bb, .inr (ci, fs))) (hci : vwCl[ci]? = some qc) (hqc : qc.1 = yy.cls) (hal : As.length = n) (hlz : ls.size = 4) (hst : st = As.reverse ++ .ref bb :: rest) (hro : (rest.map fun v => v.category).sum ≤ 8) (hdg : decode code pc = .ok (.invokevirtual index, 3)) (hf : cells + mc ≤ 600000 ∧ slots + ms ≤ 7302250)
    (kk : ∀ (r : Int32) (w : va_W) (H1 : Heap) (locs1 : List Loc), post r w → va_P V.1 vwCl ((wr ++ w) ++ pl) H1 → va_D (AAs s) ((wr ++ w) ++ pl) → va_S (AAs s) s.heap H1 locs1 → W p l e room_1 s m #[Value.ref b] below meth c H1 locs1 (cells + mc) (slots + ms) Q (F0 m (pc + 3) ls (.int r :: rest))) : W p l e room_1 s m #[Value.ref b] below meth c H locs cells slots Q (F0 m pc ls st) := by
  obtain ⟨⟨hx, hb, hr, hml, hown, hts, hX, hbl, hlocks, hgv⟩, hg, hK, hE⟩ := G
  have hA : ∀ q : Nat, s.heap.size ≤ q → (AAs s) q := fun _ h => h
  have hC2 := mapApp (tl := pl) isC hC
  have hrun := rnV (rest := rest) (R := room_1) (own := "BeaconDelayLaw") (cells := cells) (slots := slots) (below := below) (e := e) (meth := meth) ⟨hx, hb, hml, hown, hg⟩ hM hm hlk hk hK hP hD hS hA hE isC hnC hC2 q0 (by rw [List.getElem?_append_left (List.getElem?_eq_some_iff.mp he).1]; exact he) hci hqc hal hlz hst hro hdg hf
  refine va_calli hrun hS (fun q _ h => va_free hD hS hA isC hC2 q h) (va_free hD hS hA isC hC2) (fun r w t H1 locs1 ht hvm hw hB hz1 hk1 hS1 => ?_)
  obtain ⟨hP1, hK1, hD1⟩ := hB
  rw [ht] at hP1
  obtain ⟨hP2, hD2⟩ := va_joinQ hP hD isC isR hC hR hnR hdis hk1 (va_free hD hS hA isC hC2) hP1 hD1
  exact kk r w H1 locs1 hw hP2 hD2 hS1

theorem cXL {p : Program} {e : Env} {s : State} {m : MethodId} {below : List Frame} {meth : Method} {c : Code} {l : Launch} {b Lk : Nat} {xs : Nat → Int32} {V : GV} {H : Heap} {locs : List Loc} {cells slots mc ms : Nat} {X pl wc wr : va_W} {bytes : ByteArray} {pc mL n k index : Nat} {ls : Array Slot} {st rest As : List Value} {yy : MethodName} {bb : Nat} {ret : Option FieldType} {Q : State → Prop} {post : Int64 → va_W → Prop} (G : LCx p s m meth c b Lk xs V) (hM : Ct l V yy (.code yy bytes mL ret) k (.ref bb :: As) wc mc ms (QL V post)) (hm : MtV yy bytes mL ret n) (hlk : Cond.methodLink "BeaconDelayLaw" index yy ∈ gw) (hk : k + 1 ≤ room_1.frames ∧ 8 + (mL + 11) + 40 * k ≤ room_1.locals) (hP : va_P V.1 vwCl (X ++ pl) H) (hD : va_D (AAs s) (X ++ pl)) (hS : va_S (AAs s) s.heap H locs) (isC isR : List Nat) (hnC : va_nd isC = true) (hC : isC.map (fun i => X[i]?) = wc.map some) (hR : isR.map (fun i => X[i]?) = wr.map some) (hnR : va_nd isR = true) (hdis : ∀ i ∈ isR, i ∉ isC) (q0 : Nat) {ci : Nat} {fs : List Value} {qc : vw_C} (he : X[q0]? = some (bb, .inr (ci, fs))) (hci : vwCl[ci]? = some qc) (hqc : qc.1 = yy.cls) (hal : As.length = n) (hlz : ls.size = 4) (hst : st = As.reverse ++ .ref bb :: rest) (hro : (rest.map fun v => v.category).sum ≤ 8) (hdg : decode code pc = .ok (.invokevirtual index, 3)) (hf : cells + mc ≤ 600000 ∧ slots + ms ≤ 7302250)
    (kk : ∀ (r : Int64) (w : va_W) (H1 : Heap) (locs1 : List Loc), post r w → va_P V.1 vwCl ((wr ++ w) ++ pl) H1 → va_D (AAs s) ((wr ++ w) ++ pl) → va_S (AAs s) s.heap H1 locs1 → W p l e room_1 s m #[Value.ref b] below meth c H1 locs1 (cells + mc) (slots + ms) Q (F0 m (pc + 3) ls (.long r :: rest))) : W p l e room_1 s m #[Value.ref b] below meth c H locs cells slots Q (F0 m pc ls st) := by
  obtain ⟨⟨hx, hb, hr, hml, hown, hts, hX, hbl, hlocks, hgv⟩, hg, hK, hE⟩ := G
  have hA : ∀ q : Nat, s.heap.size ≤ q → (AAs s) q := fun _ h => h
  have hC2 := mapApp (tl := pl) isC hC
  have hrun := rnV (rest := rest) (R := room_1) (own := "BeaconDelayLaw") (cells := cells) (slots := slots) (below := below) (e := e) (meth := meth) ⟨hx, hb, hml, hown, hg⟩ hM hm hlk hk hK hP hD hS hA hE isC hnC hC2 q0 (by rw [List.getElem?_append_left (List.getElem?_eq_some_iff.mp he).1]; exact he) hci hqc hal hlz hst hro hdg hf
  refine va_calll hrun hS (fun q _ h => va_free hD hS hA isC hC2 q h) (va_free hD hS hA isC hC2) (fun r w t H1 locs1 ht hvm hw hB hz1 hk1 hS1 => ?_)
  obtain ⟨hP1, hK1, hD1⟩ := hB
  rw [ht] at hP1
  obtain ⟨hP2, hD2⟩ := va_joinQ hP hD isC isR hC hR hnR hdis hk1 (va_free hD hS hA isC hC2) hP1 hD1
  exact kk r w H1 locs1 hw hP2 hD2 hS1

theorem cSI {p : Program} {e : Env} {s : State} {m : MethodId} {below : List Frame} {meth : Method} {c : Code} {l : Launch} {b Lk : Nat} {xs : Nat → Int32} {V : GV} {H : Heap} {locs : List Loc} {cells slots mc ms : Nat} {X pl wc : va_W} {bytes : ByteArray} {pc mL n k index : Nat} {ls : Array Slot} {st rest As : List Value} {yy : MethodName} {bb : Nat} {ret : Option FieldType} {Q : State → Prop} {post : Int32 → va_W → Prop} (G : LCx p s m meth c b Lk xs V) (hM : Ct l V yy (.code yy bytes mL ret) k (.ref bb :: As) wc mc ms (QI V post)) (hm : MtV yy bytes mL ret n) (hlk : Cond.methodLink "BeaconDelayLaw" index yy ∈ gw) (hk : k + 1 ≤ room_1.frames ∧ 8 + (mL + 11) + 40 * k ≤ room_1.locals) (hP : va_P V.1 vwCl (X ++ pl) H) (hD : va_D (AAs s) (X ++ pl)) (hS : va_S (AAs s) s.heap H locs) (isC ds : List Nat) (hds : ixg 0 ds = isC) (hnC : va_nd isC = true) (hC : isC.map (fun i => X[i]?) = wc.map some) (q0 : Nat) {ci : Nat} {fs : List Value} {qc : vw_C} (he : X[q0]? = some (bb, .inr (ci, fs))) (hci : vwCl[ci]? = some qc) (hqc : qc.1 = yy.cls) (hal : As.length = n) (hlz : ls.size = 4) (hst : st = As.reverse ++ .ref bb :: rest) (hro : (rest.map fun v => v.category).sum ≤ 8) (hdg : decode code pc = .ok (.invokevirtual index, 3)) (hf : cells + mc ≤ 600000 ∧ slots + ms ≤ 7302250)
    (kk : ∀ (r : Int32) (w : va_W) (H1 : Heap) (locs1 : List Loc), post r w → (∀ X' : va_W, rpl ds w X = X' → w.map Prod.fst = wc.map Prod.fst → va_P V.1 vwCl (X' ++ pl) H1 ∧ va_D (AAs s) (X' ++ pl)) → va_S (AAs s) s.heap H1 locs1 → W p l e room_1 s m #[Value.ref b] below meth c H1 locs1 (cells + mc) (slots + ms) Q (F0 m (pc + 3) ls (.int r :: rest))) : W p l e room_1 s m #[Value.ref b] below meth c H locs cells slots Q (F0 m pc ls st) := by
  obtain ⟨⟨hx, hb, hr, hml, hown, hts, hX, hbl, hlocks, hgv⟩, hg, hK, hE⟩ := G
  have hA : ∀ q : Nat, s.heap.size ≤ q → (AAs s) q := fun _ h => h
  have hC2 := mapApp (tl := pl) isC hC
  have hrun := rnV (rest := rest) (R := room_1) (own := "BeaconDelayLaw") (cells := cells) (slots := slots) (below := below) (e := e) (meth := meth) ⟨hx, hb, hml, hown, hg⟩ hM hm hlk hk hK hP hD hS hA hE isC hnC hC2 q0 (by rw [List.getElem?_append_left (List.getElem?_eq_some_iff.mp he).1]; exact he) hci hqc hal hlz hst hro hdg hf
  refine va_calli hrun hS (fun q _ h => va_free hD hS hA isC hC2 q h) (va_free hD hS hA isC hC2) (fun r w t H1 locs1 ht hvm hw hB hz1 hk1 hS1 => ?_)
  obtain ⟨hP1, hK1, hD1⟩ := hB
  rw [ht] at hP1
  obtain ⟨hP2, hD2⟩ := va_joinQ hP hD isC (isRof X isC) hC (isRof_map X isC) (isRof_nd X isC) (fun i hi => (isRof_mem.mp hi).2) hk1 (va_free hD hS hA isC hC2) hP1 hD1
  exact kk r w H1 locs1 hw (fun X' e hf => setJoin isC hC hD hP2 hf hds e) hS1

theorem cSL {p : Program} {e : Env} {s : State} {m : MethodId} {below : List Frame} {meth : Method} {c : Code} {l : Launch} {b Lk : Nat} {xs : Nat → Int32} {V : GV} {H : Heap} {locs : List Loc} {cells slots mc ms : Nat} {X pl wc : va_W} {bytes : ByteArray} {pc mL n k index : Nat} {ls : Array Slot} {st rest As : List Value} {yy : MethodName} {bb : Nat} {ret : Option FieldType} {Q : State → Prop} {post : Int64 → va_W → Prop} (G : LCx p s m meth c b Lk xs V) (hM : Ct l V yy (.code yy bytes mL ret) k (.ref bb :: As) wc mc ms (QL V post)) (hm : MtV yy bytes mL ret n) (hlk : Cond.methodLink "BeaconDelayLaw" index yy ∈ gw) (hk : k + 1 ≤ room_1.frames ∧ 8 + (mL + 11) + 40 * k ≤ room_1.locals) (hP : va_P V.1 vwCl (X ++ pl) H) (hD : va_D (AAs s) (X ++ pl)) (hS : va_S (AAs s) s.heap H locs) (isC ds : List Nat) (hds : ixg 0 ds = isC) (hnC : va_nd isC = true) (hC : isC.map (fun i => X[i]?) = wc.map some) (q0 : Nat) {ci : Nat} {fs : List Value} {qc : vw_C} (he : X[q0]? = some (bb, .inr (ci, fs))) (hci : vwCl[ci]? = some qc) (hqc : qc.1 = yy.cls) (hal : As.length = n) (hlz : ls.size = 4) (hst : st = As.reverse ++ .ref bb :: rest) (hro : (rest.map fun v => v.category).sum ≤ 8) (hdg : decode code pc = .ok (.invokevirtual index, 3)) (hf : cells + mc ≤ 600000 ∧ slots + ms ≤ 7302250)
    (kk : ∀ (r : Int64) (w : va_W) (H1 : Heap) (locs1 : List Loc), post r w → (∀ X' : va_W, rpl ds w X = X' → w.map Prod.fst = wc.map Prod.fst → va_P V.1 vwCl (X' ++ pl) H1 ∧ va_D (AAs s) (X' ++ pl)) → va_S (AAs s) s.heap H1 locs1 → W p l e room_1 s m #[Value.ref b] below meth c H1 locs1 (cells + mc) (slots + ms) Q (F0 m (pc + 3) ls (.long r :: rest))) : W p l e room_1 s m #[Value.ref b] below meth c H locs cells slots Q (F0 m pc ls st) := by
  obtain ⟨⟨hx, hb, hr, hml, hown, hts, hX, hbl, hlocks, hgv⟩, hg, hK, hE⟩ := G
  have hA : ∀ q : Nat, s.heap.size ≤ q → (AAs s) q := fun _ h => h
  have hC2 := mapApp (tl := pl) isC hC
  have hrun := rnV (rest := rest) (R := room_1) (own := "BeaconDelayLaw") (cells := cells) (slots := slots) (below := below) (e := e) (meth := meth) ⟨hx, hb, hml, hown, hg⟩ hM hm hlk hk hK hP hD hS hA hE isC hnC hC2 q0 (by rw [List.getElem?_append_left (List.getElem?_eq_some_iff.mp he).1]; exact he) hci hqc hal hlz hst hro hdg hf
  refine va_calll hrun hS (fun q _ h => va_free hD hS hA isC hC2 q h) (va_free hD hS hA isC hC2) (fun r w t H1 locs1 ht hvm hw hB hz1 hk1 hS1 => ?_)
  obtain ⟨hP1, hK1, hD1⟩ := hB
  rw [ht] at hP1
  obtain ⟨hP2, hD2⟩ := va_joinQ hP hD isC (isRof X isC) hC (isRof_map X isC) (isRof_nd X isC) (fun i hi => (isRof_mem.mp hi).2) hk1 (va_free hD hS hA isC hC2) hP1 hD1
  exact kk r w H1 locs1 hw (fun X' e hf => setJoin isC hC hD hP2 hf hds e) hS1

def tX : Nat → Int × Int := fun k => [(0, 900), (0, 9999), (0, 9), (-2147483648, 2147483647), (-2147483648, 2147483647), (0, 4), (0, 4), (0, 8), (0, 9999), (0, 9), (0, 900), (0, 900), (0, 900), (0, 900), (0, 900), (-2147483648, 2147483647), (-2147483648, 2147483647), (0, 900), (-2147483648, 2147483647), (0, 900), (0, 900), (0, 999), (-2147483648, 2147483647), (0, 4), (0, 4), (0, 8), (0, 9999), (0, 9), (0, 900), (0, 900), (0, 900), (0, 900), (0, 900), (-2147483648, 2147483647), (-2147483648, 2147483647), (0, 10), (-1, 40), (-2147483648, 2147483647), (-1, 40), (-2147483648, 2147483647), (-1, 40), (-2147483648, 2147483647), (-1, 40), (-2147483648, 2147483647), (0, 9999), (0, 9), (-2147483648, 2147483647), (-2147483648, 2147483647), (-2147483648, 2147483647), (0, 4), (0, 4), (0, 8), (0, 9999), (0, 9), (0, 900), (0, 900), (0, 900), (0, 900), (0, 900), (0, 9999), (0, 9), (-2147483648, 2147483647), (-2147483648, 2147483647), (-2147483648, 2147483647), (0, 4), (0, 4), (0, 8), (0, 9999), (0, 9), (0, 900), (0, 900), (0, 900), (0, 900), (0, 900)].getD k (-2147483648, 2147483647)
def tZ : Nat → Int × Int := fun k => [(-2147483648, 2147483647), (-2147483648, 2147483647), (-2147483648, 2147483647), (-2147483648, 2147483647), (-2147483648, 2147483647), (0, 900), (0, 900), (0, 900), (0, 900), (-2147483648, 2147483647), (0, 999), (0, 4), (0, 900), (0, 4), (-1, 900), (-2147483648, 2147483647), (-2147483648, 2147483647), (-2147483648, 2147483647), (0, 2), (-2147483648, 2147483647), (-2147483648, 2147483647), (-2147483648, 2147483647), (0, 9999), (-2147483648, 2147483647), (-2147483648, 2147483647), (-2147483648, 2147483647), (-2147483648, 2147483647), (-2147483648, 2147483647), (-2147483648, 2147483647), (0, 10000)].getD k (-2147483648, 2147483647)
def wB (V : GV) (y : Nat → Nat) (pp : Nat → Int32) (ff : Nat → Nat → Int32) (gg : Nat → Nat → Int64) (o10 o11 : Value) : va_W := [(y 0, .inr (9, o9_rirrrrrrrrvviii (y 1) (pp 0) (y 2) (y 10) (y 19) (y 25) (y 26) (y 30) (y 31) (y 32) o10 o11 (pp 1) (pp 2) (pp 3))), (y 1, aB V 900 (ff 0)), (y 2, .inr (1, o1_iiiiiirrrrrrriiiii (pp 4) (pp 5) (pp 6) (pp 7) (pp 8) (pp 9) (y 3) (y 4) (y 5) (y 6) (y 7) (y 8) (y 9) (pp 10) (pp 11) (pp 12) (pp 13) (pp 14))), (y 3, aI V 4 (ff 1)), (y 4, aI V 4 (ff 2)), (y 5, aI V 4 (ff 3)), (y 6, aI V 8 (ff 4)), (y 7, aI V 8 (ff 5)), (y 8, aI V 8 (ff 6)), (y 9, aI V 900 (ff 7)), (y 10, .inr (6, o6_riiriiiii (y 11) (pp 15) (pp 16) (y 1) (pp 17) (pp 18) (pp 19) (pp 20) (pp 21))), (y 11, .inr (1, o1_iiiiiirrrrrrriiiii (pp 22) (pp 23) (pp 24) (pp 25) (pp 26) (pp 27) (y 12) (y 13) (y 14) (y 15) (y 16) (y 17) (y 18) (pp 28) (pp 29) (pp 30) (pp 31) (pp 32))), (y 12, aI V 4 (ff 8)), (y 13, aI V 4 (ff 9)), (y 14, aI V 4 (ff 10)), (y 15, aI V 8 (ff 11)), (y 16, aI V 8 (ff 12)), (y 17, aI V 8 (ff 13)), (y 18, aI V 900 (ff 14)), (y 19, .inr (4, o4_rrrrrr (y 2) (y 20) (y 21) (y 22) (y 23) (y 24))), (y 20, aI V 2000 (ff 15)), (y 21, aI V 6 (ff 16)), (y 22, aI V 64 (ff 17)), (y 23, aI V 10 (ff 18)), (y 24, aI V 10 (ff 19)), (y 25, .inr (0, [.int (pp 33), .int (pp 34)])), (y 26, .inr (5, o5_rrri (y 27) (y 28) (y 29) (pp 35))), (y 27, aI V 10 (ff 20)), (y 28, aI V 10 (ff 21)), (y 29, aI V 10 (ff 22)), (y 30, aT V 4 (va_up (va_up (va_up (va_up (fun _ => none) 0 (some (y 33))) 1 (some (y 35))) 2 (some (y 37))) 3 (some (y 39)))), (y 31, aM V 2 (va_up (va_up (fun _ => none) 0 (some (y 41))) 1 (some (y 50)))), (y 32, aI V 10 (ff 23)), (y 33, .inr (7, o7_rii (y 34) (pp 36) (pp 37))), (y 34, aJ V 40 (gg 0)), (y 35, .inr (7, o7_rii (y 36) (pp 38) (pp 39))), (y 36, aJ V 40 (gg 1)), (y 37, .inr (7, o7_rii (y 38) (pp 40) (pp 41))), (y 38, aJ V 40 (gg 2)), (y 39, .inr (7, o7_rii (y 40) (pp 42) (pp 43))), (y 40, aJ V 40 (gg 3)), (y 41, .inr (3, o3_riiii (y 42) (pp 44) (pp 45) (pp 46) (pp 47))), (y 42, .inr (1, o1_iiiiiirrrrrrriiiii (pp 48) (pp 49) (pp 50) (pp 51) (pp 52) (pp 53) (y 43) (y 44) (y 45) (y 46) (y 47) (y 48) (y 49) (pp 54) (pp 55) (pp 56) (pp 57) (pp 58))), (y 43, aI V 4 (ff 24)), (y 44, aI V 4 (ff 25)), (y 45, aI V 4 (ff 26)), (y 46, aI V 8 (ff 27)), (y 47, aI V 8 (ff 28)), (y 48, aI V 8 (ff 29)), (y 49, aI V 900 (ff 30)), (y 50, .inr (3, o3_riiii (y 51) (pp 59) (pp 60) (pp 61) (pp 62))), (y 51, .inr (1, o1_iiiiiirrrrrrriiiii (pp 63) (pp 64) (pp 65) (pp 66) (pp 67) (pp 68) (y 52) (y 53) (y 54) (y 55) (y 56) (y 57) (y 58) (pp 69) (pp 70) (pp 71) (pp 72) (pp 73))), (y 52, aI V 4 (ff 31)), (y 53, aI V 4 (ff 32)), (y 54, aI V 4 (ff 33)), (y 55, aI V 8 (ff 34)), (y 56, aI V 8 (ff 35)), (y 57, aI V 8 (ff 36)), (y 58, aI V 900 (ff 37))]
def wZ (V : GV) (z : Nat → Nat) (pz : Nat → Int32) (fz : Nat → Nat → Int32) (gz : Nat → Nat → Int64) : va_W := [(z 0, .inr (10, mo z (pz 0) (pz 5) (pz 6) (pz 7) (pz 8) (pz 9) (pz 10) (pz 11) (pz 12) (pz 13) (pz 14) (pz 18) (pz 19) (pz 22) (pz 23) (pz 29))), (z 1, aI V 3075 (fz 0)), (z 2, aZ V 2 (fz 1)), (z 3, aI V 900 (fz 2)), (z 4, aI V 1025 (fz 3)), (z 15, aI V 900 (fz 4)), (z 16, aI V 6 (fz 5)), (z 17, aI V 7 (fz 6)), (z 20, aI V 10001 (fz 7)), (z 21, aI V 10000 (fz 8)), (z 24, aI V 10000 (fz 9)), (z 25, aI V 40000 (fz 10)), (z 26, aI V 10000 (fz 11)), (z 27, aI V 10000 (fz 12)), (z 28, aZ V 10000 (fz 13)), (z 30, aJ V 10000 (gz 0)), (z 31, aJ V 10000 (gz 1)), (z 32, aI V 100 (fz 14)), (z 33, aI V 10 (fz 15)), (z 34, aI V 10 (fz 16)), (z 35, aJ V 90000 (gz 2)), (z 36, aI V 10 (fz 17)), (z 37, aI V 4 (fz 18)), (z 38, aI V 4 (fz 19)), (z 39, aJ V 160 (gz 3))]
def wY (V : GV) (y : Nat → Nat) (n L : Nat) (Yw : Nat → Nat) (wa wb : Nat) (qq : Nat → Int32) (ee : Nat → Nat → Int32) : va_W := [(Yw 0, .inr (8, o8_iirrriirrrrrrriii (qq 0) (nI n) (Yw 1) (Yw 2) wa (qq 5) (qq 6) (y 19) (Yw 4) (Yw 5) (Yw 6) (Yw 7) (Yw 8) wb (qq 14) (qq 15) (qq 16))), (Yw 1, aI V n (ee 0)), (Yw 2, aI V n (ee 1)), (wa, aI V n (ee 2)), (Yw 4, aI V L (ee 3)), (Yw 5, aI V n (ee 4)), (Yw 6, aI V (n * 4) (ee 5)), (Yw 7, aI V n (ee 6)), (Yw 8, aI V 4 (ee 7)), (wb, aI V n (ee 8))]
def wO (V : GV) (fm : Nat) (Yg : Nat → Nat) (rr : Nat → Int32) (uu : Nat → Nat → Int32) : va_W := [(Yg 0, .inr (2, o2_irrrrri (nI fm) (Yg 1) (Yg 2) (Yg 3) (Yg 4) (Yg 5) (rr 6))), (Yg 1, aI V (fm * 2) (uu 0)), (Yg 2, aI V fm (uu 1)), (Yg 3, aI V (fm * 2) (uu 2)), (Yg 4, aI V (fm + 1) (uu 3)), (Yg 5, aI V (fm * 4) (uu 4))]
def WFa (n L : Nat) (qq : Nat → Int32) (ee : Nat → Nat → Int32) : Prop := (1 ≤ n ∧ n ≤ 3646) ∧ (1 ≤ L ∧ L ≤ 10000) ∧ iv 0 4 (qq 0) ∧ iv 0 ((n : Int)) (qq 5) ∧ iv 0 4 (qq 6) ∧ iv 0 4 (qq 14) ∧ iv 0 9 (qq 15) ∧ iv 0 ((n : Int)) (qq 16) ∧ (∀ j, iv 0 ((L : Int) - 1) ((ee 0) j)) ∧ (∀ j, iv 0 ((n : Int)) ((ee 3) j)) ∧ (∀ j, iv 0 (4 * (n : Int) - 1) ((ee 4) j)) ∧ (∀ j, iv 0 ((n : Int) - 1) ((ee 5) j)) ∧ (∀ j, iv 0 ((n : Int) - 1) ((ee 6) j)) ∧ WA (qq 5) (ee 3) (ee 0) ∧ WB (qq 16) (qq 6) (qq 5) (ee 5) ∧ WC (qq 5) (ee 1)
def RFo (V : GV) (o11 : Value) (fr : va_W) (fm : Nat) : Prop := (fm = 0 ∧ o11 = .null ∧ fr = []) ∨ (∃ (Yg : Nat → Nat) (rr : Nat → Int32) (uu : Nat → Nat → Int32), (1 ≤ fm ∧ fm ≤ 7291) ∧ iv 0 (2 * (fm : Int)) (rr 6) ∧ (∀ j, iv (-1) (2 * (fm : Int)) ((uu 0) j)) ∧ (∀ j, iv 0 (2 * (fm : Int) - 1) ((uu 2) j)) ∧ (∀ j, iv 0 (4 * (fm : Int)) ((uu 3) j)) ∧ (∀ j, iv 0 ((fm : Int) - 1) ((uu 4) j)) ∧ o11 = .ref (Yg 0) ∧ fr = wO V fm Yg rr uu)
def ph6 (fm n : Nat) : Int := if fm < n then 1 else 0
def PTn (cells slots n fm : Nat) (mh : Int32) : Prop := (cells : Int) + 22 * (4 - mh.toInt) + 6 * ph6 fm n ≤ 600000 ∧ (slots : Int) + 119417 * (4 - mh.toInt) + 36468 * ph6 fm n ≤ 7302250
def RZo (cells slots : Nat) (o10 o11 : Value) (rest : va_W) : Prop := o10 = .null ∧ o11 = .null ∧ rest = [] ∧ cells + 116 ≤ 600000 ∧ slots + 633553 ≤ 7302250
def RYo (V : GV) (y : Nat → Nat) (cells slots : Nat) (o10 o11 : Value) (rest : va_W) : Prop := ∃ (n L : Nat) (Yw : Nat → Nat) (wa wb : Nat) (qq : Nat → Int32) (ee : Nat → Nat → Int32) (fr : va_W) (fm : Nat), WFa n L qq ee ∧ RFo V o11 fr fm ∧ PTn cells slots n fm (qq 0) ∧ o10 = .ref (Yw 0) ∧ rest = wY V y n L Yw wa wb qq ee ++ fr
def RRo (V : GV) (y : Nat → Nat) (cells slots : Nat) (o10 o11 : Value) (rest : va_W) : Prop := RZo cells slots o10 o11 rest ∨ RYo V y cells slots o10 o11 rest
def KX (V : GV) (y : Nat → Nat) (cells slots : Nat) (pp : Nat → Int32) (ff : Nat → Nat → Int32) (gg : Nat → Nat → Int64) (wx : va_W) : Prop := ∃ (o10 o11 : Value) (rest : va_W), ivT tX pp ∧ (∀ j, iv (-128) 127 ((ff 0) j)) ∧ (∀ j, iv 0 10 ((ff 15) j)) ∧ (∀ j, iv 0 9999 ((ff 20) j)) ∧ (∀ j, iv 0 9 ((ff 21) j)) ∧ (∀ j, iv 0 9999 ((ff 23) j)) ∧ RRo V y cells slots o10 o11 rest ∧ wx = wB V y pp ff gg o10 o11 ++ rest
def KZ (V : GV) (z : Nat → Nat) (pz : Nat → Int32) (fz : Nat → Nat → Int32) (gz : Nat → Nat → Int64) (wz : va_W) : Prop := ivT tZ pz ∧ (ivT tA (fz 0)) ∧ (∀ j, iv 0 255 ((fz 2) j)) ∧ (ivT tF (fz 3)) ∧ (ivT tW (fz 5)) ∧ (ivT tS (fz 6)) ∧ (∀ j, iv 0 9999 ((fz 7) j)) ∧ (∀ j, iv (-1) 9999 ((fz 8) j)) ∧ (∀ j, iv 0 9999 ((fz 9) j)) ∧ (∀ j, iv (-1) 9999 ((fz 10) j)) ∧ (∀ j, iv 0 268435456 ((fz 11) j)) ∧ (∀ j, iv 0 268435456 ((fz 12) j)) ∧ (∀ j, iv (-1) 9 ((fz 15) j)) ∧ (∀ j, iv 0 9 ((fz 16) j)) ∧ (∀ j, iv (-1) 3 ((fz 18) j)) ∧ (∀ j, iv 0 40 ((fz 19) j)) ∧ RW (fz 0) ∧ wz = wZ V z pz fz gz
theorem ph6_b (fm n : Nat) : 0 ≤ ph6 fm n ∧ ph6 fm n ≤ 1 := by
  unfold ph6
  by_cases h : fm < n
  · rw [if_pos h]; decide
  · rw [if_neg h]; decide
theorem PTn_room {cells slots n fm : Nat} {mh : Int32} (h : PTn cells slots n fm mh) (hm : iv 0 4 mh) : cells + 0 ≤ 600000 ∧ slots + 0 ≤ 7302250 := by
  unfold PTn at h; unfold iv at hm
  have := ph6_b fm n
  omega
theorem PTn_B {cells slots n fm : Nat} {mh mh' : Int32} (c d : Nat) (h : PTn cells slots n fm mh) (hm : iv 0 4 mh) (hm' : iv 0 4 mh') (hl : mh < mh') (hc : c ≤ 16) (hd : d ≤ 82949) : (cells + c ≤ 600000 ∧ slots + d ≤ 7302250) ∧ ∀ n' fm' : Nat, PTn (cells + c) (slots + d) n' fm' mh' := by
  unfold PTn at h ⊢; unfold iv at hm hm'
  rw [Int32.lt_iff_toInt_lt] at hl
  have := ph6_b fm n
  refine ⟨by omega, fun n' fm' => ?_⟩
  have := ph6_b fm' n'
  omega
theorem PTn_0 {cells slots : Nat} {mh : Int32} (c d : Nat) (h : cells + 116 ≤ 600000 ∧ slots + 633553 ≤ 7302250) (hm : iv 0 4 mh) (hc : c ≤ 16) (hd : d ≤ 82949) : ∀ n' fm' : Nat, PTn (cells + c) (slots + d) n' fm' mh := by
  intro n' fm'
  unfold PTn; unfold iv at hm
  have := ph6_b fm' n'
  omega
theorem PTn_f {cells slots n fm : Nat} {mh : Int32} (h : PTn cells slots n fm mh) (hm : iv 0 4 mh) (hl : fm < n) : (cells + 6 ≤ 600000 ∧ slots + 36468 ≤ 7302250) ∧ ∀ ft : Nat, PTn (cells + 6) (slots + 36468) n (n + ft) mh := by
  unfold PTn at h ⊢; unfold iv at hm
  have e : ph6 fm n = 1 := by unfold ph6; rw [if_pos hl]
  rw [e] at h
  refine ⟨by omega, fun ft => ?_⟩
  have e2 : ph6 (n + ft) n = 0 := by unfold ph6; rw [if_neg (by omega)]
  rw [e2]
  omega
theorem RRo.room {V : GV} {y : Nat → Nat} {cells slots : Nat} {o10 o11 : Value} {rest : va_W} (h : RRo V y cells slots o10 o11 rest) : cells + 0 ≤ 600000 ∧ slots + 0 ≤ 7302250 := by
  rcases h with ⟨q1, q2, q3, h1, h2⟩ | ⟨n, L, Yw, wa, wb, qq, ee, fr, fm, hW, q1, hT, q2, q3⟩
  · omega
  · exact PTn_room hT hW.2.2.1
theorem KX.room {V : GV} {y : Nat → Nat} {cells slots : Nat} {pp : Nat → Int32} {ff : Nat → Nat → Int32} {gg : Nat → Nat → Int64} {wx : va_W} (h : KX V y cells slots pp ff gg wx) : cells + 0 ≤ 600000 ∧ slots + 0 ≤ 7302250 := by
  obtain ⟨q4, q5, q6, q7, u0, u1, u2, u3, u4, q8, q9⟩ := h
  exact RRo.room q8
theorem ixk {jj Lk : Nat} {k : Int32} (d : Nat) (hk : k.toInt = d) (h : jj + 6 ≤ Lk ∧ Lk ≤ 3072) (hd : d ≤ 5) : vp_in (nI jj + k) Lk := iv_in (a := (jj : Int) + d) (b := (jj : Int) + d) (iv_add (iv_nI (n := jj) (by omega)) (c := (d : Int)) (d := (d : Int)) ⟨by omega, by omega⟩ (by omega)) (by omega)
theorem nI_6 {jj : Nat} (h : jj ≤ 3072) : nI jj + 6 = nI (jj + 6) := by
  apply Int32.toInt_inj.mp
  rw [Int32.toInt_add, nI_toInt (by omega), nI_toInt (by omega), (by decide : (6 : Int32).toInt = 6), iv_bm (by omega) (by omega)]
  omega
def SX (V : GV) (y z : Nat → Nat) (cells slots : Nat) (wx wz : va_W) : Prop := ∃ (pp : Nat → Int32) (ff : Nat → Nat → Int32) (gg : Nat → Nat → Int64) (pz : Nat → Int32) (fz : Nat → Nat → Int32) (gz : Nat → Nat → Int64), KX V y cells slots pp ff gg wx ∧ KZ V z pz fz gz wz ∧ SR9 pp ff gg pz fz gz
theorem SX.room {V : GV} {y z : Nat → Nat} {cells slots : Nat} {wx wz : va_W} (h : SX V y z cells slots wx wz) : cells + 0 ≤ 600000 ∧ slots + 0 ≤ 7302250 := by
  obtain ⟨pp, ff, gg, pz, fz, gz, kx, _⟩ := h
  exact kx.room
theorem KX.le {V : GV} {y : Nat → Nat} {cells slots : Nat} {pp : Nat → Int32} {ff : Nat → Nat → Int32} {gg : Nat → Nat → Int64} {wx : va_W} (h : KX V y cells slots pp ff gg wx) : (pp 0).toInt ≤ 900 := by
  obtain ⟨o10, o11, rest, hp, _⟩ := h
  exact (hp 0).2
theorem KZ.rt {V : GV} {z : Nat → Nat} {pz : Nat → Int32} {fz : Nat → Nat → Int32} {gz : Nat → Nat → Int64} {wz : va_W} (h : KZ V z pz fz gz wz) : RT3 (fz 0) := by
  obtain ⟨hp, hz_tz1, hz_tz3, hz_tz4, hz_tz16, hz_tz17, hz_tz20, hz_tz21, hz_tz24, hz_tz25, hz_tz26, hz_tz27, hz_tz33, hz_tz34, hz_tz37, hz_tz38, hz_RW, rfl⟩ := h
  exact RT3_of hz_tz1 hz_RW

theorem nI_i {jj : Nat} (h : jj ≤ 3072) : nI jj + Int32.ofInt 6 = nI (jj + 6) := by
  rw [(by decide : Int32.ofInt 6 = 6)]; exact nI_6 h
