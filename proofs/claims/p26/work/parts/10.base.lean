/-! THE BASE: a small machine over numbers (Int), with the heap as shapes (S) and numbers (M); each rule goes back to rows of the kit -/
abbrev ev_V : Type := Int ⊕ Option (Option Nat)
abbrev vi (x : Int) : ev_V := .inl x
abbrev vr (i : Nat) : ev_V := .inr (some (some i))
abbrev vs : ev_V := .inr (some none)
abbrev vn : ev_V := .inr none
abbrev ev_M : Type := Nat → Nat → Int
abbrev ev_Sh : Type := (Nat × Nat) ⊕ (Nat × List (Option (Option Nat))) ⊕ (Nat × Nat × (Nat → Option Nat))
abbrev ev_K : Type := ByteArray × String × Nat × Option FieldType × Bool
abbrev inR (x : Int) : Prop := -2147483648 ≤ x ∧ x < 2147483648
def RM (M : ev_M) : Prop := ∀ i k, inR (M i k)
def okv (v : Option ev_V) : Prop := ∀ x, v = some (vi x) → inR x
def up (M : ev_M) (i k : Nat) (x : Int) : ev_M := fun a b => if a = i ∧ b = k then x else M a b
def tr (sb o : Nat) (v : ev_V) : Value := match v with
  | .inl x => .int (Int32.ofInt x)
  | .inr none => .null
  | .inr (some none) => .ref sb
  | .inr (some (some i)) => .ref (o + i)
def ev_f1 (o : Nat) (f : Nat → Int) (k : Nat) (q : Option (Option Nat)) : Value := match q with
  | none => .int (Int32.ofInt (f k))
  | some r => va_rf (r.map (fun j => o + j))
def ev_fv (o : Nat) (f : Nat → Int) (fl : List (Option (Option Nat))) : List Value := fl.mapIdx (ev_f1 o f)
def ev_cell (o : Nat) (ca : Nat → ClassId) (f : Nat → Int) (sh : ev_Sh) : va_E := match sh with
  | .inl (t, n) => .inl (ca t, n, .inl (fun j => Int32.ofInt (f j)))
  | .inr (.inl (ci, fl)) => .inr (ci, ev_fv o f fl)
  | .inr (.inr (t, n, g)) => .inl (ca t, n, .inr (.inr (.inr (.inr (fun j => (g j).map (fun j => o + j))))))
def ev_w (o : Nat) (ca : Nat → ClassId) (S : List ev_Sh) (M : ev_M) : va_W := S.mapIdx fun i sh => (o + i, ev_cell o ca (M i) sh)
def ev_tys (ca : Nat → ClassId) : List (ClassId × FieldType) := [(ca 0, .int), (ca 1, .int), (ca 2, .int), (ca 3, .object "StyleCascade$State")]
def ev_A (o : Nat) : Nat → Prop := fun q => o ≤ q
theorem ev_w_at {o : Nat} {ca : Nat → ClassId} {S : List ev_Sh} {M : ev_M} {i : Nat} {sh : ev_Sh} (h : S[i]? = some sh) : (ev_w o ca S M)[i]? = some (o + i, ev_cell o ca (M i) sh) := by
  simp [ev_w, List.getElem?_mapIdx, h]
theorem ev_w_inv {o : Nat} {ca : Nat → ClassId} {S : List ev_Sh} {M : ev_M} {i : Nat} {q : Nat × va_E} (h : (ev_w o ca S M)[i]? = some q) : ∃ sh, S[i]? = some sh ∧ q = (o + i, ev_cell o ca (M i) sh) := by
  simp only [ev_w, List.getElem?_mapIdx] at h
  cases hs : S[i]? with
  | none => rw [hs] at h; cases h
  | some sh => rw [hs] at h; exact ⟨sh, rfl, (Option.some.inj h).symm⟩
theorem ev_D (o : Nat) (ca : Nat → ClassId) (S : List ev_Sh) (M : ev_M) : va_D (ev_A o) (ev_w o ca S M) := by
  refine ⟨fun i j p q hi hj hpq => ?_, fun k q hk => ?_⟩
  · obtain ⟨s1, -, rfl⟩ := ev_w_inv hi
    obtain ⟨s2, -, rfl⟩ := ev_w_inv hj
    dsimp only at hpq; omega
  · obtain ⟨s1, -, rfl⟩ := ev_w_inv hk
    exact Nat.le_add_right _ _
theorem ev_w_set {o : Nat} {ca : Nat → ClassId} {S : List ev_Sh} {M M' : ev_M} {i : Nat} {sh : ev_Sh} {e : va_E} (h : S[i]? = some sh) (he : e = ev_cell o ca (M' i) sh) (hM : ∀ j, j ≠ i → M' j = M j) : (ev_w o ca S M).set i (o + i, e) = ev_w o ca S M' := by
  apply List.ext_getElem?
  intro j
  have hl : i < (ev_w o ca S M).length := (List.getElem?_eq_some_iff.mp (ev_w_at (o := o) (ca := ca) (M := M) h)).1
  by_cases hj : j = i
  · subst hj
    rw [List.getElem?_set_self hl, ev_w_at h, he]
  · rw [List.getElem?_set_ne (Ne.symm hj)]
    simp only [ev_w, List.getElem?_mapIdx, hM j hj]
theorem ev_w_setS {o : Nat} {ca : Nat → ClassId} {S : List ev_Sh} {M : ev_M} {i : Nat} {sh sh' : ev_Sh} {e : va_E} (h : S[i]? = some sh) (he : e = ev_cell o ca (M i) sh') : (ev_w o ca S M).set i (o + i, e) = ev_w o ca (S.set i sh') M := by
  have hl : i < S.length := (List.getElem?_eq_some_iff.mp h).1
  apply List.ext_getElem?
  intro j
  by_cases hj : j = i
  · subst hj
    rw [List.getElem?_set_self (by simpa [ev_w] using hl)]
    simp [ev_w, List.getElem?_mapIdx, hl, he]
  · rw [List.getElem?_set_ne (Ne.symm hj)]
    simp only [ev_w, List.getElem?_mapIdx, List.getElem?_set_ne (Ne.symm hj)]
theorem ev_w_push {o : Nat} {ca : Nat → ClassId} {S : List ev_Sh} {M : ev_M} {f : Nat → Int} {sh : ev_Sh} {e : va_E} (he : e = ev_cell o ca f sh) : ev_w o ca S M ++ [(o + S.length, e)] = ev_w o ca (S ++ [sh]) (fun a b => if a = S.length then f b else M a b) := by
  unfold ev_w
  rw [List.mapIdx_append]
  congr 1
  · apply List.ext_getElem?
    intro j
    simp only [List.getElem?_mapIdx]
    by_cases hj : j < S.length
    · have : j ≠ S.length := by omega
      simp [this]
    · simp [List.getElem?_eq_none (Nat.le_of_not_lt hj)]
  · simp [he]
-- locals
def ev_Ls (sb o : Nat) (lsr : Array Slot) (nL : Nat) (ls : List (Option ev_V)) : Prop := lsr.size = nL ∧ lv_wf lsr ∧ ∀ (i : Nat) (v : ev_V), ls[i]? = some (some v) → lsr[i]? = some (.val (tr sb o v))
def ev_lst (sb o : Nat) (ls : List (Option ev_V)) : List (Nat × Value) := (List.range ls.length).filterMap fun j => (ls[j]?).join.map fun v => (j, tr sb o v)
theorem tr_cat (sb o : Nat) (v : ev_V) : (tr sb o v).category = 1 := by
  rcases v with x | r
  · rfl
  · rcases r with _ | r
    · rfl
    · rcases r with _ | r <;> rfl
theorem ev_lst_mem {sb o : Nat} {ls : List (Option ev_V)} {i : Nat} {v : ev_V} (h : ls[i]? = some (some v)) : (i, tr sb o v) ∈ ev_lst sb o ls := by
  refine List.mem_filterMap.mpr ⟨i, List.mem_range.mpr (List.getElem?_eq_some_iff.mp h).1, ?_⟩
  simp [h]
theorem ev_lst_inv {sb o : Nat} {ls : List (Option ev_V)} {q : Nat × Value} (h : q ∈ ev_lst sb o ls) : ∃ v, ls[q.1]? = some (some v) ∧ q.2 = tr sb o v := by
  obtain ⟨j, -, hj⟩ := List.mem_filterMap.mp h
  cases hx : ls[j]? with
  | none => rw [hx] at hj; cases hj
  | some y =>
    cases y with
    | none => rw [hx] at hj; cases hj
    | some v =>
      rw [hx] at hj
      cases hj
      exact ⟨v, hx, rfl⟩
theorem ev_Ls.has {sb o : Nat} {lsr : Array Slot} {nL : Nat} {ls : List (Option ev_V)} (h : ev_Ls sb o lsr nL ls) : lv_has lsr nL (ev_lst sb o ls) := by
  refine ⟨h.1, h.2.1, fun q hq => ?_⟩
  obtain ⟨v, h1, h2⟩ := ev_lst_inv hq
  rw [h2]
  exact h.2.2 _ _ h1
theorem ev_Ls.of_store {sb o : Nat} {lsr : Array Slot} {nL : Nat} {ls : List (Option ev_V)} {i : Nat} {v : ev_V} (h : lv_has lsr nL ((i, tr sb o v) :: (ev_lst sb o ls).filter (fun q => !(q.1 == i) && !(q.1 + 1 == i && q.2.category == 2)))) : ev_Ls sb o lsr nL (ls.set i (some v)) := by
  refine ⟨h.1, h.2.1, fun j w hj => ?_⟩
  by_cases hji : j = i
  · subst hji
    have hl : j < ls.length := by
      have := (List.getElem?_eq_some_iff.mp hj).1
      simpa using this
    rw [List.getElem?_set_self hl] at hj
    cases hj
    exact h.2.2 _ List.mem_cons_self
  · rw [List.getElem?_set_ne (Ne.symm hji)] at hj
    refine h.2.2 (j, tr sb o w) (List.mem_cons_of_mem _ (List.mem_filter.mpr ⟨ev_lst_mem hj, ?_⟩))
    simp [hji, tr_cat]
-- numbers
theorem oi_add (x y : Int) : Int32.ofInt x + Int32.ofInt y = Int32.ofInt (x + y) := by
  apply Int32.toBitVec.inj
  simp [BitVec.ofInt_add]
theorem oi_mul (x y : Int) : Int32.ofInt x * Int32.ofInt y = Int32.ofInt (x * y) := by
  apply Int32.toBitVec.inj
  simp [BitVec.ofInt_mul]
theorem oi_sub (x y : Int) : Int32.ofInt x - Int32.ofInt y = Int32.ofInt (x - y) := by
  rw [Int32.sub_eq_add_neg, Int32.neg_ofInt, oi_add, Int.sub_eq_add_neg]
theorem oi_toInt {x : Int} (h : inR x) : (Int32.ofInt x).toInt = x := Int32.toInt_ofInt_of_le h.1 h.2
theorem oi_lt {x y : Int} (hx : inR x) (hy : inR y) : Int32.ofInt x < Int32.ofInt y ↔ x < y := by
  rw [Int32.lt_iff_toInt_lt, oi_toInt hx, oi_toInt hy]
theorem oi_le {x y : Int} (hx : inR x) (hy : inR y) : Int32.ofInt x ≤ Int32.ofInt y ↔ x ≤ y := by
  rw [Int32.le_iff_toInt_le, oi_toInt hx, oi_toInt hy]
theorem oi_eq {x y : Int} (hx : inR x) (hy : inR y) : Int32.ofInt x = Int32.ofInt y ↔ x = y := by
  rw [← Int32.toInt_inj, oi_toInt hx, oi_toInt hy]
theorem in0 : inR 0 := by unfold inR; decide
theorem oi_0 : Int32.ofInt 0 = 0 := by decide
theorem oi_lt0 {x : Int} (hx : inR x) : Int32.ofInt x < 0 ↔ x < 0 := by rw [← oi_0]; exact oi_lt hx in0
theorem oi_le0 {x : Int} (hx : inR x) : Int32.ofInt x ≤ 0 ↔ x ≤ 0 := by rw [← oi_0]; exact oi_le hx in0
theorem oi_0lt {x : Int} (hx : inR x) : 0 < Int32.ofInt x ↔ 0 < x := by rw [← oi_0]; exact oi_lt in0 hx
theorem oi_0le {x : Int} (hx : inR x) : 0 ≤ Int32.ofInt x ↔ 0 ≤ x := by rw [← oi_0]; exact oi_le in0 hx
theorem oi_eq0 {x : Int} (hx : inR x) : Int32.ofInt x = 0 ↔ x = 0 := by rw [← oi_0]; exact oi_eq hx in0
theorem oi_clamp {x : Int} (h : inR x) : (Int32.ofInt x).toNatClampNeg = x.toNat := Int32.toNatClampNeg_ofInt_of_le h.1 h.2
theorem oi_in {x : Int} {n : Nat} (h : inR x) (h0 : 0 ≤ x) (h1 : x < n) : vp_in (Int32.ofInt x) n := by
  unfold vp_in
  rw [oi_lt0 h, oi_clamp h]
  omega
-- the tables' words that a call hands on; those of nest mates
def ev_T : List Cond := lw_tbl.filter goodWord
theorem ev_in {w : Cond} (i : Nat) (h : lw_tbl[i]? = some w) (g : goodWord w = true) : w ∈ ev_T := List.mem_filter.mpr ⟨List.mem_of_getElem? h, g⟩
theorem ev_good : GoodIn ev_T ev_T := fun w hw => ⟨hw, good_of_word (List.mem_filter.mp hw).2⟩
def ev_nw : Cond → Bool
  | .fieldLinkNest .. | .methodLinkNest .. => true
  | _ => false
def ev_Ex (U : State) : Prop := (∀ w ∈ lw_tbl, ev_nw w = true → va_Nw w U) ∧ va_AO "StyleCascade$State" U
theorem ev_nw_tab {w : Cond} (h : ev_nw w = true) : w.onTables = true := by
  cases w <;> first | rfl | (simp [ev_nw] at h)
theorem ev_nw_warm {w : Cond} {s U : State} (h : ev_nw w = true) (hW : s.WarmedH U.vm) (hZ : va_Nw w s) : va_Nw w U := by
  cases w <;> first | exact va_Nw.warmF hW hZ | exact va_Nw.warmM hW hZ | (simp [ev_nw] at h)
theorem ev_Ex.warm {s U : State} (hW : s.WarmedH U.vm) (h : ev_Ex s) : ev_Ex U := ⟨fun w hw hn => ev_nw_warm hn hW (h.1 w hw hn), h.2.moved hW.alike⟩
theorem ev_Ex.same {u U : State} (e : u.vm = U.vm) (h : ev_Ex u) : ev_Ex U := ⟨fun w hw hn => va_Nw.same (ev_nw_tab hn) e (h.1 w hw hn), h.2.moved (by rw [e]; exact Vm.Alike.refl U.vm)⟩
-- the judgement
def ev_Wd (G : va_G) (ca : Nat → ClassId) (o : Nat) (S : List ev_Sh) (M : ev_M) (s : State) (H : Heap) (locs : List Loc) : Prop := H.size = o + S.length ∧ va_P G vwCl (ev_w o ca S M) H ∧ va_S (ev_A o) s.heap H locs
def ev_Cx (X : Option (Nat × (Nat → Int))) (d : Nat) (k : ev_K) (G : va_G) (ca : Nat → ClassId) (sb o : Nat) (p : Program) (R : Room) (s : State) (m : MethodId) (args : Array Value) (meth : Method) (c : Code) : Prop :=
  p.tables.exec = Jvm.exec ∧ c.code = k.1 ∧ meth.sig.returnType = k.2.2.2.1 ∧ meth.locks = false ∧ c.maxLocals = k.2.2.1 ∧ s.vm.findClass k.2.1 = some m.cls ∧ (∀ w ∈ ev_T, w.before args s = true) ∧ ev_Ex s ∧ (k.2.2.2.2 = true → meth.name = "<init>") ∧ d ≤ R.frames ∧ 40 * d ≤ R.locals ∧ va_K G vwCl (ev_tys ca) s ∧ (∀ q, s.heap.size ≤ q → o ≤ q) ∧ ∀ L xs, X = some (L, xs) → va_X sb L (fun j => Int32.ofInt (xs j)) s s.heap ∧ sb < o ∧ sb < s.heap.size
def ev_Qc (G : va_G) (ca : Nat → ClassId) (sb o : Nat) (Q : Option ev_V → List ev_Sh → ev_M → Prop) : Array Value → State → Outcome → State → Prop := fun _ st oc t =>
  (∃ v S' M', Q v S' M' ∧ RM M' ∧ okv v ∧ oc = .returned (v.map (tr sb o)) ∧ t.heap.size = o + S'.length ∧ va_P G vwCl (ev_w o ca S' M') t.heap) ∧ va_F (ev_A o) st t
def Ev (l : Launch) (X : Option (Nat × (Nat → Int))) (d : Nat) (k : ev_K) (b : Nat × Nat) (S : List ev_Sh) (M : ev_M) (pc : Nat) (ls : List (Option ev_V)) (st : List ev_V) (Q : Option ev_V → List ev_Sh → ev_M → Prop) : Prop :=
  RM M → ∀ (p : Program) (e : Env) (R : Room) (s : State) (m : MethodId) (args : Array Value) (below : List Frame) (meth : Method) (c : Code) (G : va_G) (ca : Nat → ClassId) (sb o : Nat), ev_Cx X d k G ca sb o p R s m args meth c →
    ∀ (H : Heap) (locs : List Loc) (cells slots : Nat) (lsr : Array Slot), ev_Wd G ca o S M s H locs → cells + b.1 ≤ R.cells → slots + b.2 ≤ R.slots → ev_Ls sb o lsr k.2.2.1 ls →
      W p l e R s m args below meth c H locs cells slots (MQ below (ev_Qc G ca sb o Q) args s R.cells R.slots (ev_A o)) (F0 m pc lsr (st.map (tr sb o)))
def ev_rm (d : Nat) (b : Nat × Nat) : Room := { frames := d, cells := b.1, slots := b.2, locals := 40 * d }
def ev_Pc (G : va_G) (ca : Nat → ClassId) (sb o : Nat) (S : List ev_Sh) (M : ev_M) (av : List ev_V) : Array Value → State → Prop :=
  va_Pc (av.map (tr sb o)) (fun U => U.heap.size = o + S.length ∧ va_P G vwCl (ev_w o ca S M) U.heap ∧ va_K G vwCl (ev_tys ca) U ∧ ev_Ex U)
def Ct (l : Launch) (d : Nat) (k : ev_K) (y : MethodName) (b : Nat × Nat) (S : List ev_Sh) (M : ev_M) (av : List ev_V) (Q : Option ev_V → List ev_Sh → ev_M → Prop) : Prop :=
  RM M → ∀ (G : va_G) (ca : Nat → ClassId) (sb o : Nat), Met l y (.code y k.1 k.2.2.1 k.2.2.2.1 :: ev_T) (ev_rm d b) (ev_Pc G ca sb o S M av) (ev_Qc G ca sb o Q) b.1 b.2 (ev_A o)
/-- a method's words, and how it is called -/
def ev_MO (y : MethodName) (k : ev_K) (n : Nat) : Prop := Cond.code y k.1 k.2.2.1 k.2.2.2.1 ∈ ev_T ∧ Cond.initialized y.cls ∈ ev_T ∧ (y.cls ≠ "java/lang/invoke/MethodHandle" ∧ y.cls ≠ "java/lang/invoke/VarHandle" ∧ (parseMethodDescriptor y.desc).map (fun d => d.parameters.length) = some n) ∧ k.2.2.1 ≤ 21
def ev_LK (own : String) (idx : Nat) (y : MethodName) : Prop := Cond.methodLink own idx y ∈ ev_T ∨ ∃ host, Cond.methodLinkNest own idx y host ∈ lw_tbl
