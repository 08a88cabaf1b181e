section EvMore
variable {l : Launch} {X : Option (Nat × (Nat → Int))} {d : Nat} {k : ev_K} {b : Nat × Nat} {S : List ev_Sh} {M : ev_M} {pc q : Nat} {ls tl : List (Option ev_V)} {st : List ev_V} {Q : Option ev_V → List ev_Sh → ev_M → Prop}
variable {idx n d1 L : Nat} {xs : Nat → Int} {y : MethodName} {k1 : ev_K} {b1 b2 : Nat × Nat} {As stk : List ev_V} {Q1 : Option ev_V → List ev_Sh → ev_M → Prop}
theorem oi_div {x y : Int} (hx : inR x) (hy : inR y) (h0 : 0 ≤ x) (h1 : 0 < y) : Int32.ofInt x / Int32.ofInt y = Int32.ofInt (x / y) := by
  rw [← Int32.toInt_inj, lg_idiv_nonneg (by rw [oi_toInt hx]; exact h0) (by rw [oi_toInt hy]; exact h1), oi_toInt hx, oi_toInt hy, oi_toInt]
  have q1 : 0 ≤ x / y := Int.ediv_nonneg h0 (by omega)
  have q2 : x / y ≤ x := Int.ediv_le_self _ h0
  unfold inR at *
  omega
theorem ev_idiv {x y : Int} (hd : decode k.1 pc = .ok (.idiv, 1)) (hq : pc + 1 = q) (hxy : inR x ∧ inR y ∧ 0 ≤ x ∧ 0 < y) (K : Ev l X d k b S M q ls (vi (x / y) :: st) Q) : Ev l X d k b S M pc ls (vi y :: vi x :: st) Q := by
  intro hR p e R s m args below meth c G ca sb o hC H locs cells slots lsr hW h1 h2 hL
  obtain ⟨hx, hb, hr, hlk, hml, hown, hts, hex, hin, hf, hlo, hK, hos, hX⟩ := id hC
  subst hq
  obtain ⟨i1, i2, i3, i4⟩ := hxy
  exact lv_idiv hx hb hd (by rw [oi_eq0 i2]; omega) (by rw [oi_div i1 i2 i3 i4]; exact K hR p e R s m args below meth c G ca sb o hC H locs cells slots lsr hW h1 h2 hL)
/-- the script hidden behind a sign bit is never negative -/
theorem and_nn (x : Int32) : 0 ≤ (x &&& Int32.ofInt 2147483647).toInt := by
  show 0 ≤ ((x &&& Int32.ofInt 2147483647).toBitVec).toInt
  rw [Int32.toBitVec_and]
  have h : (x.toBitVec &&& (Int32.ofInt 2147483647).toBitVec).msb = false := by
    rw [BitVec.msb_and, show ((Int32.ofInt 2147483647).toBitVec).msb = false by decide, Bool.and_false]
  rw [BitVec.toInt_eq_toNat_of_msb h]
  exact Int.natCast_nonneg _
/-- a start that holds the script too -/
def ev_PcX (G : va_G) (ca : Nat → ClassId) (sb o : Nat) (S : List ev_Sh) (M : ev_M) (av : List ev_V) (L : Nat) (xs : Nat → Int) : Array Value → State → Prop :=
  va_Pc (av.map (tr sb o)) (fun U => U.heap.size = o + S.length ∧ va_P G vwCl (ev_w o ca S M) U.heap ∧ va_K G vwCl (ev_tys ca) U ∧ ev_Ex U ∧ va_X sb L (fun j => Int32.ofInt (xs j)) U U.heap)
theorem ev_PcX_blind {G : va_G} {ca : Nat → ClassId} {sb o : Nat} {av : List ev_V} : FrameBlind (ev_PcX G ca sb o S M av L xs) := by
  intro a U g mk h
  obtain ⟨h1, h2, h3, h4, h5, h6⟩ := h
  exact ⟨h1, h2, h3, va_K.moved (u := U) (U := U.calling g mk a) (Vm.Alike.refl U.vm) h4, ev_Ex.same (u := U) (U := U.calling g mk a) rfl h5, va_X.moved (u := U) (U := U.calling g mk a) (Vm.Alike.refl U.vm) h6⟩
/-- the contract of a method that is handed the script -/
def CtX (l : Launch) (d : Nat) (k : ev_K) (y : MethodName) (b : Nat × Nat) (S : List ev_Sh) (M : ev_M) (av : List ev_V) (L : Nat) (xs : Nat → Int) (Q : Option ev_V → List ev_Sh → ev_M → Prop) : Prop :=
  RM M → ∀ (G : va_G) (ca : Nat → ClassId) (sb o : Nat), sb < o → Met l y (.code y k.1 k.2.2.1 k.2.2.2.1 :: ev_T) (ev_rm d b) (ev_PcX G ca sb o S M av L xs) (ev_Qc G ca sb o Q) b.1 b.2 (ev_A o)
theorem CtX.of (hpl : plainName y.cls = true) (hy : y.cls = k.2.1) (hi : k.2.2.2.2 = true → y.name = "<init>") (hn : As.length ≤ k.2.2.1) (hbody : Ev l (some (L, xs)) d k b S M 0 (As.map some ++ List.replicate (k.2.2.1 - As.length) none) [] Q) : CtX l d k y b S M As L xs Q := by
  intro hR G ca sb o hso
  refine Met.ofW (cc := k.1) (maxL := k.2.2.1) (ret := k.2.2.2.1) hpl rfl ?_
  intro p e s m args below meth c s₁ B hml hv
  obtain ⟨rfl, hsz, hP, hK, hex, hXX⟩ := hv
  have hts := atoms_spec (ws := Cond.code y k.1 k.2.2.1 k.2.2.2.1 :: ev_T) B.pre
  have hown : s.vm.findClass y.cls = some m.cls := findClass_of_methodNamed B.named
  have hin : meth.name = y.name := (name_of_methodNamed B.named B.method).1
  have hl := lv_entry (As.map (tr sb o)) (n := k.2.2.1) (by rw [ev_sl_len]; exact hn)
  rw [lg_entry_eq]
  refine hbody hR p e _ s m _ below meth c G ca sb o ⟨B.exec, B.bytes, B.returns, B.notSynchronized, hml, by rw [← hy]; exact hown, fun w hw => hts w (List.mem_cons_of_mem _ hw), hex, fun z => hin.trans (hi z), Nat.le_refl _, Nat.le_refl _, hK, fun q hq => by omega, fun _ _ z => by cases z; exact ⟨hXX, hso, by omega⟩⟩ s.heap [] 0 0 _ ⟨hsz, hP, va_S.rf⟩ (by show 0 + b.1 ≤ b.1; omega) (by show 0 + b.2 ≤ b.2; omega) ⟨hl.1, hl.2.1, fun i v hi => ?_⟩
  have hi' : As[i]? = some v := by
    by_cases hlt : i < As.length
    · rw [List.getElem?_append_left (by simpa using hlt), List.getElem?_map] at hi
      cases ha : As[i]? with
      | none => rw [ha] at hi; cases hi
      | some w => rw [ha] at hi; cases hi; rfl
    · rw [List.getElem?_append_right (by simpa using hlt), List.getElem?_replicate] at hi
      split at hi <;> cases hi
  have := ev_args_mem sb o As 0 i v hi'
  rw [Nat.zero_add] at this
  exact hl.2.2 _ this
theorem ev_callSX (hXX : X = some (L, xs)) (hd : decode k.1 pc = .ok (.invokestatic idx, 3)) (hs : ev_SS k.2.1 idx y k1 n) (hc : CtX l d1 k1 y b1 S M As L xs Q1) (hd1 : d1 + 1 ≤ d) (hn : As.length = n) (hstk : stk = As.reverse ++ st) (hst : st.length ≤ 8) (hbb : b = (b1.1 + b2.1, b1.2 + b2.2)) (hq : pc + 3 = q)
    (K : ∀ v S' M', Q1 v S' M' → okv v → Ev l X d k b2 S' M' q ls (v.toList ++ st) Q) : Ev l X d k b S M pc ls stk Q := by
  intro hR p e R s m args below meth c G ca sb o hC H locs cells slots lsr hW h1 h2 hL
  obtain ⟨hx, hb, hr, hlk, hml, hown, hts, hex, hin, hf, hlo, hK, hos, hX⟩ := id hC
  obtain ⟨hl, ⟨m1, m2, m3, m4⟩, s1⟩ := hs
  obtain ⟨x1, x2, x3⟩ := hX L xs hXX
  subst hq hstk hbb
  dsimp only at h1 h2
  have hM := hc hR G ca sb o x2
  have hroom : (ev_rm d1 b1).frames + 1 ≤ R.frames ∧ 8 + (k1.2.2.1 + 11) + (ev_rm d1 b1).locals ≤ R.locals := by
    unfold ev_rm; dsimp only; omega
  have hpre : PreS s H (ev_PcX G ca sb o S M As L xs) (As.map (tr sb o)) := by
    refine ⟨ev_PcX_blind, fun U hU hWm => ⟨rfl, by rw [hU]; exact hW.1, by rw [hU]; exact hW.2.1, va_K.moved hWm.alike hK, hex.warm hWm, ?_⟩⟩
    rw [hU]
    exact va_X.moved hWm.alike (x1.kept (hW.2.2.2.1 sb x3 (Nat.not_le.mpr x2)))
  have hrest : (As.reverse ++ st).map (tr sb o) = (As.map (tr sb o)).reverse ++ st.map (tr sb o) := by
    rw [List.map_append, List.map_reverse]
  have hsum : ((st.map (tr sb o)).map fun v => v.category).sum ≤ 8 := by rw [ev_sum]; exact hst
  have fin : ∀ (v : Option ev_V) (S' : List ev_Sh) (M' : ev_M) (H1 : Heap) (locs1 : List Loc), Q1 v S' M' → RM M' → okv v → ev_Wd G ca o S' M' s H1 locs1 → W p l e R s m args below meth c H1 locs1 (cells + b1.1) (slots + b1.2) (MQ below (ev_Qc G ca sb o Q) args s R.cells R.slots (ev_A o)) (F0 m (pc + 3) lsr ((v.map (tr sb o)).toList ++ st.map (tr sb o))) := by
    intro v S' M' H1 locs1 w1 w2 w3 w4
    have := K v S' M' w1 w3 w2 p e R s m args below meth c G ca sb o hC H1 locs1 (cells + b1.1) (slots + b1.2) lsr w4 (by omega) (by omega) hL
    cases v <;> exact this
  rw [hrest]
  rcases hl with hl | ⟨host, hl⟩
  · exact ev_after (va_runS (As := As.map (tr sb o)) (rest := st.map (tr sb o)) ⟨hx, hb, hml, hown, hts⟩ hM ⟨callB_of n hts (ev_goodc m1) rfl rfl rfl (hts _ m2) (hts _ hl) m3 hroom, hts _ s1⟩ hpre rfl (by rw [List.length_map]; exact hn) hL.1 rfl (lv_room hsum) hd ⟨by omega, by omega⟩) hW.2.2 fin
  · exact ev_after (va_runSN (As := As.map (tr sb o)) (rest := st.map (tr sb o)) ⟨hx, hb, hml, hown, hts⟩ hM ⟨va_cnB n hts (ev_goodc m1) rfl rfl rfl (hex.1 _ hl rfl) (hts _ m2) m3 hroom, hts _ s1, trivial⟩ hpre rfl (by rw [List.length_map]; exact hn) hL.1 rfl (lv_room hsum) hd ⟨by omega, by omega⟩) hW.2.2 fin
end EvMore

