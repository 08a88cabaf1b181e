theorem ev_Pc_blind {G : va_G} {ca : Nat → ClassId} {sb o : Nat} {S : List ev_Sh} {M : ev_M} {av : List ev_V} : FrameBlind (ev_Pc G ca sb o S M av) := by
  intro a U g mk h
  obtain ⟨h1, h2, h3, h4, h5⟩ := h
  exact ⟨h1, h2, h3, va_K.moved (u := U) (U := U.calling g mk a) (Vm.Alike.refl U.vm) h4, ev_Ex.same (u := U) (U := U.calling g mk a) rfl h5⟩
theorem ev_sum (sb o : Nat) : ∀ st : List ev_V, ((st.map (tr sb o)).map fun v => v.category).sum = st.length
  | [] => rfl
  | v :: st => by
    have := ev_sum sb o st
    simp only [List.map_cons, List.sum_cons, List.length_cons, tr_cat, this]
    omega
theorem ev_goodc {y : MethodName} {bytes : ByteArray} {maxL : Nat} {ret : Option FieldType} (h : Cond.code y bytes maxL ret ∈ ev_T) : GoodIn ev_T (Cond.code y bytes maxL ret :: ev_T) := by
  intro w hw
  rcases List.mem_cons.mp hw with rfl | hw
  · exact ev_good _ h
  · exact ev_good _ hw
theorem ev_after {p : Program} {l : Launch} {e : Env} {R : Room} {s : State} {m : MethodId} {args : Array Value} {below : List Frame} {meth : Method} {c : Code} {H : Heap} {locs : List Loc} {cells slots mc ms pc : Nat} {lsr : Array Slot} {st0 rest : List Value} {Qw : State → Prop} {G : va_G} {ca : Nat → ClassId} {sb o : Nat} {Q1 : Option ev_V → List ev_Sh → ev_M → Prop} {a : Array Value}
    (hr : va_Run p l e R s m args below meth c H locs cells slots mc ms (F0 m pc lsr st0) rest (ev_Qc G ca sb o Q1 a) (ev_A o)) (hS : va_S (ev_A o) s.heap H locs)
    (kk : ∀ (v : Option ev_V) (S' : List ev_Sh) (M' : ev_M) (H1 : Heap) (locs1 : List Loc), Q1 v S' M' → RM M' → okv v → ev_Wd G ca o S' M' s H1 locs1 → W p l e R s m args below meth c H1 locs1 (cells + mc) (slots + ms) Qw (F0 m (pc + 3) lsr ((v.map (tr sb o)).toList ++ rest))) : W p l e R s m args below meth c H locs cells slots Qw (F0 m pc lsr st0) := by
  intro T hT X
  obtain ⟨v, st₀, t, T', L, h0, X', hL, e1, e2, ⟨⟨v', S', M', q1, q2, q3, q4, q5, q6⟩, hz, hk⟩, st⟩ := hr T hT X
  cases q4
  rw [h0] at hz hk
  obtain ⟨t2, a1, b1⟩ := kk v' S' M' T'.heap (locs ++ L) q1 q2 q3 ⟨by rw [e1]; exact q5, by rw [e1]; exact q6, ⟨Nat.le_trans hS.1 (by rw [e1]; exact hz), fun q h1 h2 => by rw [e1, hk q (Nat.lt_of_lt_of_le h1 hS.1) h2]; exact hS.2.1 q h1 h2, fun q hq => by
      rcases List.mem_append.mp hq with h | h
      · exact hS.2.2 q h
      · exact hL q h⟩⟩ T' rfl X'
  exact ⟨t2, st t2 a1, b1⟩
def ev_VS (own : String) (idx : Nat) (y : MethodName) (k1 : ev_K) (n ci : Nat) : Prop := ev_LK own idx y ∧ ev_MO y k1 n ∧ Cond.instanceMethod y ∈ ev_T ∧ Cond.selects y.cls y y ∈ lw_tbl ∧ Cond.selects y.cls y y ∈ ev_T ∧ ∃ T N, vwCl[ci]? = some (y.cls, T, N)
def ev_SS (own : String) (idx : Nat) (y : MethodName) (k1 : ev_K) (n : Nat) : Prop := ev_LK own idx y ∧ ev_MO y k1 n ∧ Cond.static y ∈ ev_T
def ev_IS (own : String) (idx : Nat) (y : MethodName) (k1 : ev_K) (n : Nat) : Prop := ev_LK own idx y ∧ ev_MO y k1 n ∧ Cond.instanceMethod y ∈ ev_T ∧ y.name = "<init>" ∧ k1.2.2.2.1 = none
section EvCalls
variable {l : Launch} {X : Option (Nat × (Nat → Int))} {d : Nat} {k : ev_K} {b : Nat × Nat} {S : List ev_Sh} {M : ev_M} {pc q : Nat} {ls tl : List (Option ev_V)} {st : List ev_V} {Q : Option ev_V → List ev_Sh → ev_M → Prop}
variable {idx n ci i d1 : Nat} {y : MethodName} {k1 : ev_K} {b1 b2 : Nat × Nat} {fl : List (Option (Option Nat))} {As stk : List ev_V} {Q1 : Option ev_V → List ev_Sh → ev_M → Prop}
theorem ev_callV (hd : decode k.1 pc = .ok (.invokevirtual idx, 3)) (hs : ev_VS k.2.1 idx y k1 n ci) (hS : S[i]? = some (.inr (.inl (ci, fl)))) (hc : Ct l d1 k1 y b1 S M (vr i :: As) Q1) (hd1 : d1 + 1 ≤ d) (hn : As.length = n) (hstk : stk = As.reverse ++ vr i :: st) (hst : st.length ≤ 8) (hbb : b = (b1.1 + b2.1, b1.2 + b2.2)) (hq : pc + 3 = q)
    (K : ∀ v S' M', Q1 v S' M' → okv v → Ev l X d k b2 S' M' q ls (v.toList ++ st) Q) : Ev l X d k b S M pc ls stk Q := by
  intro hR p e R s m args below meth c G ca sb o hC H locs cells slots lsr hW h1 h2 hL
  obtain ⟨hx, hb, hr, hlk, hml, hown, hts, hex, hin, hf, hlo, hK, hos, hX⟩ := id hC
  obtain ⟨hl, ⟨m1, m2, m3, m4⟩, s1, -, s2, T, N, g1⟩ := hs
  have he := ev_w_at (o := o) (ca := ca) (M := M) hS
  subst hq hstk hbb
  dsimp only at h1 h2
  have hM := hc hR G ca sb o
  have hroom : (ev_rm d1 b1).frames + 1 ≤ R.frames ∧ 8 + (k1.2.2.1 + 11) + (ev_rm d1 b1).locals ≤ R.locals := by
    unfold ev_rm; dsimp only; omega
  have hpre : PreV s H y.cls (o + i) (ev_Pc G ca sb o S M (vr i :: As)) (As.map (tr sb o)) := by
    refine ⟨ev_Pc_blind, va_recv hK hW.2.1 g1 he, fun U hU hWm => ⟨rfl, by rw [hU]; exact hW.1, by rw [hU]; exact hW.2.1, va_K.moved hWm.alike hK, hex.warm hWm⟩⟩
  have hrest : (As.reverse ++ vr i :: st).map (tr sb o) = (As.map (tr sb o)).reverse ++ Value.ref (o + i) :: st.map (tr sb o) := by
    rw [List.map_append, List.map_reverse]; rfl
  have hsum : ((st.map (tr sb o)).map fun v => v.category).sum ≤ 8 := by rw [ev_sum]; exact hst
  have fin : ∀ (v : Option ev_V) (S' : List ev_Sh) (M' : ev_M) (H1 : Heap) (locs1 : List Loc), Q1 v S' M' → RM M' → okv v → ev_Wd G ca o S' M' s H1 locs1 → W p l e R s m args below meth c H1 locs1 (cells + b1.1) (slots + b1.2) (MQ below (ev_Qc G ca sb o Q) args s R.cells R.slots (ev_A o)) (F0 m (pc + 3) lsr ((v.map (tr sb o)).toList ++ st.map (tr sb o))) := by
    intro v S' M' H1 locs1 w1 w2 w3 w4
    have := K v S' M' w1 w3 w2 p e R s m args below meth c G ca sb o hC H1 locs1 (cells + b1.1) (slots + b1.2) lsr w4 (by omega) (by omega) hL
    cases v <;> exact this
  rw [hrest]
  rcases hl with hl | ⟨host, hl⟩
  · exact ev_after (va_runV (As := As.map (tr sb o)) (rest := st.map (tr sb o)) ⟨hx, hb, hml, hown, hts⟩ hM ⟨callB_of n hts (ev_goodc m1) rfl rfl rfl (hts _ m2) (hts _ hl) m3 hroom, hts _ s1, hts _ s2⟩ hpre rfl (by rw [List.length_map]; exact hn) hL.1 rfl (lv_room hsum) hd ⟨by omega, by omega⟩) hW.2.2 fin
  · exact ev_after (va_runVN (As := As.map (tr sb o)) (rest := st.map (tr sb o)) ⟨hx, hb, hml, hown, hts⟩ hM ⟨va_cnB n hts (ev_goodc m1) rfl rfl rfl (hex.1 _ hl rfl) (hts _ m2) m3 hroom, hts _ s1, hts _ s2⟩ hpre rfl (by rw [List.length_map]; exact hn) hL.1 rfl (lv_room hsum) hd ⟨by omega, by omega⟩) hW.2.2 fin
theorem ev_callS (hd : decode k.1 pc = .ok (.invokestatic idx, 3)) (hs : ev_SS k.2.1 idx y k1 n) (hc : Ct l d1 k1 y b1 S M As Q1) (hd1 : d1 + 1 ≤ d) (hn : As.length = n) (hstk : stk = As.reverse ++ st) (hst : st.length ≤ 8) (hbb : b = (b1.1 + b2.1, b1.2 + b2.2)) (hq : pc + 3 = q)
    (K : ∀ v S' M', Q1 v S' M' → okv v → Ev l X d k b2 S' M' q ls (v.toList ++ st) Q) : Ev l X d k b S M pc ls stk Q := by
  intro hR p e R s m args below meth c G ca sb o hC H locs cells slots lsr hW h1 h2 hL
  obtain ⟨hx, hb, hr, hlk, hml, hown, hts, hex, hin, hf, hlo, hK, hos, hX⟩ := id hC
  obtain ⟨hl, ⟨m1, m2, m3, m4⟩, s1⟩ := hs
  subst hq hstk hbb
  dsimp only at h1 h2
  have hM := hc hR G ca sb o
  have hroom : (ev_rm d1 b1).frames + 1 ≤ R.frames ∧ 8 + (k1.2.2.1 + 11) + (ev_rm d1 b1).locals ≤ R.locals := by
    unfold ev_rm; dsimp only; omega
  have hpre : PreS s H (ev_Pc G ca sb o S M As) (As.map (tr sb o)) := by
    refine ⟨ev_Pc_blind, fun U hU hWm => ⟨rfl, by rw [hU]; exact hW.1, by rw [hU]; exact hW.2.1, va_K.moved hWm.alike hK, hex.warm hWm⟩⟩
  have hrest : (As.reverse ++ st).map (tr sb o) = (As.map (tr sb o)).reverse ++ st.map (tr sb o) := by
    rw [List.map_append, List.map_reverse]
  have hsum : ((st.map (tr sb o)).map fun v => v.category).sum ≤ 8 := by rw [ev_sum]; exact hst
  have fin : ∀ (v : Option ev_V) (S' : List ev_Sh) (M' : ev_M) (H1 : Heap) (locs1 : List Loc), Q1 v S' M' → RM M' → okv v → ev_Wd G ca o S' M' s H1 locs1 → W p l e R s m args below meth c H1 locs1 (cells + b1.1) (slots + b1.2) (MQ below (ev_Qc G ca sb o Q) args s R.cells R.slots (ev_A o)) (F0 m (pc + 3) lsr ((v.map (tr sb o)).toList ++ st.map (tr sb o))) := by
    intro v S' M' H1 locs1 w1 w2 w3 w4
    have := K v S' M' w1 w3 w2 p e R s m args below meth c G ca sb o hC H1 locs1 (cells + b1.1) (slots + b1.2) lsr w4 (by omega) (by omega) hL
    cases v <;> exact this
  rw [hrest]
  rcases hl with hl | ⟨host, hl⟩
  · exact ev_after (va_runS (As := As.map (tr sb o)) (rest := st.map (tr sb o)) ⟨hx, hb, hml, hown, hts⟩ hM ⟨callB_of n hts (ev_goodc m1) rfl rfl rfl (hts _ m2) (hts _ hl) m3 hroom, hts _ s1⟩ hpre rfl (by rw [List.length_map]; exact hn) hL.1 rfl (lv_room hsum) hd ⟨by omega, by omega⟩) hW.2.2 fin
  · exact ev_after (va_runSN (As := As.map (tr sb o)) (rest := st.map (tr sb o)) ⟨hx, hb, hml, hown, hts⟩ hM ⟨va_cnB n hts (ev_goodc m1) rfl rfl rfl (hex.1 _ hl rfl) (hts _ m2) m3 hroom, hts _ s1, trivial⟩ hpre rfl (by rw [List.length_map]; exact hn) hL.1 rfl (lv_room hsum) hd ⟨by omega, by omega⟩) hW.2.2 fin
theorem ev_callI (hd : decode k.1 pc = .ok (.invokespecial idx, 3)) (hs : ev_IS k.2.1 idx y k1 n) (hc : Ct l d1 k1 y b1 S M (vr i :: As) Q1) (hd1 : d1 + 1 ≤ d) (hn : As.length = n) (hstk : stk = As.reverse ++ vr i :: st) (hst : st.length ≤ 8) (hbb : b = (b1.1 + b2.1, b1.2 + b2.2)) (hq : pc + 3 = q)
    (K : ∀ v S' M', Q1 v S' M' → okv v → Ev l X d k b2 S' M' q ls (v.toList ++ st) Q) : Ev l X d k b S M pc ls stk Q := by
  intro hR p e R s m args below meth c G ca sb o hC H locs cells slots lsr hW h1 h2 hL
  obtain ⟨hx, hb, hr, hlk, hml, hown, hts, hex, hin, hf, hlo, hK, hos, hX⟩ := id hC
  obtain ⟨hl, ⟨m1, m2, m3, m4⟩, s1, s2, s3⟩ := hs
  subst hq hstk hbb
  dsimp only at h1 h2
  have hM := hc hR G ca sb o
  rw [s3] at hM m1
  have hroom : (ev_rm d1 b1).frames + 1 ≤ R.frames ∧ 8 + (k1.2.2.1 + 11) + (ev_rm d1 b1).locals ≤ R.locals := by
    unfold ev_rm; dsimp only; omega
  have hpre : PreS s H (ev_Pc G ca sb o S M (vr i :: As)) (.ref (o + i) :: As.map (tr sb o)) := by
    refine ⟨ev_Pc_blind, fun U hU hWm => ⟨rfl, by rw [hU]; exact hW.1, by rw [hU]; exact hW.2.1, va_K.moved hWm.alike hK, hex.warm hWm⟩⟩
  have hrest : (As.reverse ++ vr i :: st).map (tr sb o) = (As.map (tr sb o)).reverse ++ Value.ref (o + i) :: st.map (tr sb o) := by
    rw [List.map_append, List.map_reverse]; rfl
  have hsum : ((st.map (tr sb o)).map fun v => v.category).sum ≤ 8 := by rw [ev_sum]; exact hst
  have fin : ∀ (v : Option ev_V) (S' : List ev_Sh) (M' : ev_M) (H1 : Heap) (locs1 : List Loc), Q1 v S' M' → RM M' → okv v → ev_Wd G ca o S' M' s H1 locs1 → W p l e R s m args below meth c H1 locs1 (cells + b1.1) (slots + b1.2) (MQ below (ev_Qc G ca sb o Q) args s R.cells R.slots (ev_A o)) (F0 m (pc + 3) lsr ((v.map (tr sb o)).toList ++ st.map (tr sb o))) := by
    intro v S' M' H1 locs1 w1 w2 w3 w4
    have := K v S' M' w1 w3 w2 p e R s m args below meth c G ca sb o hC H1 locs1 (cells + b1.1) (slots + b1.2) lsr w4 (by omega) (by omega) hL
    cases v <;> exact this
  rw [hrest]
  rcases hl with hl | ⟨host, hl⟩
  · exact ev_after (va_runI (As := As.map (tr sb o)) (rest := st.map (tr sb o)) ⟨hx, hb, hml, hown, hts⟩ hM ⟨callB_of n hts (ev_goodc m1) rfl rfl rfl (hts _ m2) (hts _ hl) m3 hroom, s2, hts _ s1⟩ hpre rfl (by rw [List.length_map]; exact hn) hL.1 rfl (lv_room hsum) hd ⟨by omega, by omega⟩) hW.2.2 fin
  · exact ev_after (va_runIN (As := As.map (tr sb o)) (rest := st.map (tr sb o)) ⟨hx, hb, hml, hown, hts⟩ hM ⟨va_cnB n hts (ev_goodc m1) rfl rfl rfl (hex.1 _ hl rfl) (hts _ m2) m3 hroom, s2, hts _ s1⟩ hpre rfl (by rw [List.length_map]; exact hn) hL.1 rfl (lv_room hsum) hd ⟨by omega, by omega⟩) hW.2.2 fin
/-- the exact contract: this answer, these numbers, no new cell -/
def Cx (l : Launch) (d : Nat) (k : ev_K) (y : MethodName) (S : List ev_Sh) (M : ev_M) (av : List ev_V) (v : Option ev_V) (M' : ev_M) : Prop := Ct l d k y (0, 0) S M av (fun v' S' M2 => v' = v ∧ S' = S ∧ M2 = M')

theorem ev_callV0i {x : Int} {M1 : ev_M} (hd : decode k.1 pc = .ok (.invokevirtual idx, 3)) (hs : ev_VS k.2.1 idx y k1 0 ci) (hS : S[i]? = some (.inr (.inl (ci, fl)))) (hc : Cx l d1 k1 y S M [vr i] (some (vi x)) M1) (hd1 : d1 + 1 ≤ d) (hst : st.length ≤ 8) (hq : pc + 3 = q) (K : inR x → Ev l X d k b S M1 q ls (vi x :: st) Q) : Ev l X d k b S M pc ls (vr i :: st) Q :=
  ev_callV (b2 := b) (st := st) hd hs hS hc hd1 rfl rfl hst (by simp) hq (fun v S' M' h hv => by obtain ⟨rfl, rfl, rfl⟩ := h; exact K (hv x rfl))
theorem ev_callV0v {M1 : ev_M} (hd : decode k.1 pc = .ok (.invokevirtual idx, 3)) (hs : ev_VS k.2.1 idx y k1 0 ci) (hS : S[i]? = some (.inr (.inl (ci, fl)))) (hc : Cx l d1 k1 y S M [vr i] (none) M1) (hd1 : d1 + 1 ≤ d) (hst : st.length ≤ 8) (hq : pc + 3 = q) (K : Ev l X d k b S M1 q ls st Q) : Ev l X d k b S M pc ls (vr i :: st) Q :=
  ev_callV (b2 := b) (st := st) hd hs hS hc hd1 rfl rfl hst (by simp) hq (fun v S' M' h hv => by obtain ⟨rfl, rfl, rfl⟩ := h; exact K)
theorem ev_callV0r {j : Option (Option Nat)} {M1 : ev_M} (hd : decode k.1 pc = .ok (.invokevirtual idx, 3)) (hs : ev_VS k.2.1 idx y k1 0 ci) (hS : S[i]? = some (.inr (.inl (ci, fl)))) (hc : Cx l d1 k1 y S M [vr i] (some (.inr j)) M1) (hd1 : d1 + 1 ≤ d) (hst : st.length ≤ 8) (hq : pc + 3 = q) (K : Ev l X d k b S M1 q ls (.inr j :: st) Q) : Ev l X d k b S M pc ls (vr i :: st) Q :=
  ev_callV (b2 := b) (st := st) hd hs hS hc hd1 rfl rfl hst (by simp) hq (fun v S' M' h hv => by obtain ⟨rfl, rfl, rfl⟩ := h; exact K)
theorem ev_callV1i {a1 : ev_V} {x : Int} {M1 : ev_M} (hd : decode k.1 pc = .ok (.invokevirtual idx, 3)) (hs : ev_VS k.2.1 idx y k1 1 ci) (hS : S[i]? = some (.inr (.inl (ci, fl)))) (hc : Cx l d1 k1 y S M [vr i, a1] (some (vi x)) M1) (hd1 : d1 + 1 ≤ d) (hst : st.length ≤ 8) (hq : pc + 3 = q) (K : inR x → Ev l X d k b S M1 q ls (vi x :: st) Q) : Ev l X d k b S M pc ls (a1 :: vr i :: st) Q :=
  ev_callV (b2 := b) (st := st) hd hs hS hc hd1 rfl rfl hst (by simp) hq (fun v S' M' h hv => by obtain ⟨rfl, rfl, rfl⟩ := h; exact K (hv x rfl))
theorem ev_callS1i {a1 : ev_V} {x : Int} {M1 : ev_M} (hd : decode k.1 pc = .ok (.invokestatic idx, 3)) (hs : ev_SS k.2.1 idx y k1 1) (hc : Cx l d1 k1 y S M [a1] (some (vi x)) M1) (hd1 : d1 + 1 ≤ d) (hst : st.length ≤ 8) (hq : pc + 3 = q) (K : inR x → Ev l X d k b S M1 q ls (vi x :: st) Q) : Ev l X d k b S M pc ls (a1 :: st) Q :=
  ev_callS (b2 := b) (st := st) hd hs hc hd1 rfl rfl hst (by simp) hq (fun v S' M' h hv => by obtain ⟨rfl, rfl, rfl⟩ := h; exact K (hv x rfl))
theorem ev_callV1v {a1 : ev_V} {M1 : ev_M} (hd : decode k.1 pc = .ok (.invokevirtual idx, 3)) (hs : ev_VS k.2.1 idx y k1 1 ci) (hS : S[i]? = some (.inr (.inl (ci, fl)))) (hc : Cx l d1 k1 y S M [vr i, a1] (none) M1) (hd1 : d1 + 1 ≤ d) (hst : st.length ≤ 8) (hq : pc + 3 = q) (K : Ev l X d k b S M1 q ls st Q) : Ev l X d k b S M pc ls (a1 :: vr i :: st) Q :=
  ev_callV (b2 := b) (st := st) hd hs hS hc hd1 rfl rfl hst (by simp) hq (fun v S' M' h hv => by obtain ⟨rfl, rfl, rfl⟩ := h; exact K)
theorem ev_callS1v {a1 : ev_V} {M1 : ev_M} (hd : decode k.1 pc = .ok (.invokestatic idx, 3)) (hs : ev_SS k.2.1 idx y k1 1) (hc : Cx l d1 k1 y S M [a1] (none) M1) (hd1 : d1 + 1 ≤ d) (hst : st.length ≤ 8) (hq : pc + 3 = q) (K : Ev l X d k b S M1 q ls st Q) : Ev l X d k b S M pc ls (a1 :: st) Q :=
  ev_callS (b2 := b) (st := st) hd hs hc hd1 rfl rfl hst (by simp) hq (fun v S' M' h hv => by obtain ⟨rfl, rfl, rfl⟩ := h; exact K)
theorem ev_callV1r {a1 : ev_V} {j : Option (Option Nat)} {M1 : ev_M} (hd : decode k.1 pc = .ok (.invokevirtual idx, 3)) (hs : ev_VS k.2.1 idx y k1 1 ci) (hS : S[i]? = some (.inr (.inl (ci, fl)))) (hc : Cx l d1 k1 y S M [vr i, a1] (some (.inr j)) M1) (hd1 : d1 + 1 ≤ d) (hst : st.length ≤ 8) (hq : pc + 3 = q) (K : Ev l X d k b S M1 q ls (.inr j :: st) Q) : Ev l X d k b S M pc ls (a1 :: vr i :: st) Q :=
  ev_callV (b2 := b) (st := st) hd hs hS hc hd1 rfl rfl hst (by simp) hq (fun v S' M' h hv => by obtain ⟨rfl, rfl, rfl⟩ := h; exact K)
theorem ev_callV2i {a1 a2 : ev_V} {x : Int} {M1 : ev_M} (hd : decode k.1 pc = .ok (.invokevirtual idx, 3)) (hs : ev_VS k.2.1 idx y k1 2 ci) (hS : S[i]? = some (.inr (.inl (ci, fl)))) (hc : Cx l d1 k1 y S M [vr i, a1, a2] (some (vi x)) M1) (hd1 : d1 + 1 ≤ d) (hst : st.length ≤ 8) (hq : pc + 3 = q) (K : inR x → Ev l X d k b S M1 q ls (vi x :: st) Q) : Ev l X d k b S M pc ls (a2 :: a1 :: vr i :: st) Q :=
  ev_callV (b2 := b) (st := st) hd hs hS hc hd1 rfl rfl hst (by simp) hq (fun v S' M' h hv => by obtain ⟨rfl, rfl, rfl⟩ := h; exact K (hv x rfl))
theorem ev_callS2i {a1 a2 : ev_V} {x : Int} {M1 : ev_M} (hd : decode k.1 pc = .ok (.invokestatic idx, 3)) (hs : ev_SS k.2.1 idx y k1 2) (hc : Cx l d1 k1 y S M [a1, a2] (some (vi x)) M1) (hd1 : d1 + 1 ≤ d) (hst : st.length ≤ 8) (hq : pc + 3 = q) (K : inR x → Ev l X d k b S M1 q ls (vi x :: st) Q) : Ev l X d k b S M pc ls (a2 :: a1 :: st) Q :=
  ev_callS (b2 := b) (st := st) hd hs hc hd1 rfl rfl hst (by simp) hq (fun v S' M' h hv => by obtain ⟨rfl, rfl, rfl⟩ := h; exact K (hv x rfl))
theorem ev_callV2v {a1 a2 : ev_V} {M1 : ev_M} (hd : decode k.1 pc = .ok (.invokevirtual idx, 3)) (hs : ev_VS k.2.1 idx y k1 2 ci) (hS : S[i]? = some (.inr (.inl (ci, fl)))) (hc : Cx l d1 k1 y S M [vr i, a1, a2] (none) M1) (hd1 : d1 + 1 ≤ d) (hst : st.length ≤ 8) (hq : pc + 3 = q) (K : Ev l X d k b S M1 q ls st Q) : Ev l X d k b S M pc ls (a2 :: a1 :: vr i :: st) Q :=
  ev_callV (b2 := b) (st := st) hd hs hS hc hd1 rfl rfl hst (by simp) hq (fun v S' M' h hv => by obtain ⟨rfl, rfl, rfl⟩ := h; exact K)
theorem ev_callS2v {a1 a2 : ev_V} {M1 : ev_M} (hd : decode k.1 pc = .ok (.invokestatic idx, 3)) (hs : ev_SS k.2.1 idx y k1 2) (hc : Cx l d1 k1 y S M [a1, a2] (none) M1) (hd1 : d1 + 1 ≤ d) (hst : st.length ≤ 8) (hq : pc + 3 = q) (K : Ev l X d k b S M1 q ls st Q) : Ev l X d k b S M pc ls (a2 :: a1 :: st) Q :=
  ev_callS (b2 := b) (st := st) hd hs hc hd1 rfl rfl hst (by simp) hq (fun v S' M' h hv => by obtain ⟨rfl, rfl, rfl⟩ := h; exact K)
theorem ev_callV2r {a1 a2 : ev_V} {j : Option (Option Nat)} {M1 : ev_M} (hd : decode k.1 pc = .ok (.invokevirtual idx, 3)) (hs : ev_VS k.2.1 idx y k1 2 ci) (hS : S[i]? = some (.inr (.inl (ci, fl)))) (hc : Cx l d1 k1 y S M [vr i, a1, a2] (some (.inr j)) M1) (hd1 : d1 + 1 ≤ d) (hst : st.length ≤ 8) (hq : pc + 3 = q) (K : Ev l X d k b S M1 q ls (.inr j :: st) Q) : Ev l X d k b S M pc ls (a2 :: a1 :: vr i :: st) Q :=
  ev_callV (b2 := b) (st := st) hd hs hS hc hd1 rfl rfl hst (by simp) hq (fun v S' M' h hv => by obtain ⟨rfl, rfl, rfl⟩ := h; exact K)
theorem ev_callV3i {a1 a2 a3 : ev_V} {x : Int} {M1 : ev_M} (hd : decode k.1 pc = .ok (.invokevirtual idx, 3)) (hs : ev_VS k.2.1 idx y k1 3 ci) (hS : S[i]? = some (.inr (.inl (ci, fl)))) (hc : Cx l d1 k1 y S M [vr i, a1, a2, a3] (some (vi x)) M1) (hd1 : d1 + 1 ≤ d) (hst : st.length ≤ 8) (hq : pc + 3 = q) (K : inR x → Ev l X d k b S M1 q ls (vi x :: st) Q) : Ev l X d k b S M pc ls (a3 :: a2 :: a1 :: vr i :: st) Q :=
  ev_callV (b2 := b) (st := st) hd hs hS hc hd1 rfl rfl hst (by simp) hq (fun v S' M' h hv => by obtain ⟨rfl, rfl, rfl⟩ := h; exact K (hv x rfl))
theorem ev_callS3i {a1 a2 a3 : ev_V} {x : Int} {M1 : ev_M} (hd : decode k.1 pc = .ok (.invokestatic idx, 3)) (hs : ev_SS k.2.1 idx y k1 3) (hc : Cx l d1 k1 y S M [a1, a2, a3] (some (vi x)) M1) (hd1 : d1 + 1 ≤ d) (hst : st.length ≤ 8) (hq : pc + 3 = q) (K : inR x → Ev l X d k b S M1 q ls (vi x :: st) Q) : Ev l X d k b S M pc ls (a3 :: a2 :: a1 :: st) Q :=
  ev_callS (b2 := b) (st := st) hd hs hc hd1 rfl rfl hst (by simp) hq (fun v S' M' h hv => by obtain ⟨rfl, rfl, rfl⟩ := h; exact K (hv x rfl))
theorem ev_callV3v {a1 a2 a3 : ev_V} {M1 : ev_M} (hd : decode k.1 pc = .ok (.invokevirtual idx, 3)) (hs : ev_VS k.2.1 idx y k1 3 ci) (hS : S[i]? = some (.inr (.inl (ci, fl)))) (hc : Cx l d1 k1 y S M [vr i, a1, a2, a3] (none) M1) (hd1 : d1 + 1 ≤ d) (hst : st.length ≤ 8) (hq : pc + 3 = q) (K : Ev l X d k b S M1 q ls st Q) : Ev l X d k b S M pc ls (a3 :: a2 :: a1 :: vr i :: st) Q :=
  ev_callV (b2 := b) (st := st) hd hs hS hc hd1 rfl rfl hst (by simp) hq (fun v S' M' h hv => by obtain ⟨rfl, rfl, rfl⟩ := h; exact K)
theorem ev_callS3v {a1 a2 a3 : ev_V} {M1 : ev_M} (hd : decode k.1 pc = .ok (.invokestatic idx, 3)) (hs : ev_SS k.2.1 idx y k1 3) (hc : Cx l d1 k1 y S M [a1, a2, a3] (none) M1) (hd1 : d1 + 1 ≤ d) (hst : st.length ≤ 8) (hq : pc + 3 = q) (K : Ev l X d k b S M1 q ls st Q) : Ev l X d k b S M pc ls (a3 :: a2 :: a1 :: st) Q :=
  ev_callS (b2 := b) (st := st) hd hs hc hd1 rfl rfl hst (by simp) hq (fun v S' M' h hv => by obtain ⟨rfl, rfl, rfl⟩ := h; exact K)
theorem ev_callV3r {a1 a2 a3 : ev_V} {j : Option (Option Nat)} {M1 : ev_M} (hd : decode k.1 pc = .ok (.invokevirtual idx, 3)) (hs : ev_VS k.2.1 idx y k1 3 ci) (hS : S[i]? = some (.inr (.inl (ci, fl)))) (hc : Cx l d1 k1 y S M [vr i, a1, a2, a3] (some (.inr j)) M1) (hd1 : d1 + 1 ≤ d) (hst : st.length ≤ 8) (hq : pc + 3 = q) (K : Ev l X d k b S M1 q ls (.inr j :: st) Q) : Ev l X d k b S M pc ls (a3 :: a2 :: a1 :: vr i :: st) Q :=
  ev_callV (b2 := b) (st := st) hd hs hS hc hd1 rfl rfl hst (by simp) hq (fun v S' M' h hv => by obtain ⟨rfl, rfl, rfl⟩ := h; exact K)
theorem ev_callV4i {a1 a2 a3 a4 : ev_V} {x : Int} {M1 : ev_M} (hd : decode k.1 pc = .ok (.invokevirtual idx, 3)) (hs : ev_VS k.2.1 idx y k1 4 ci) (hS : S[i]? = some (.inr (.inl (ci, fl)))) (hc : Cx l d1 k1 y S M [vr i, a1, a2, a3, a4] (some (vi x)) M1) (hd1 : d1 + 1 ≤ d) (hst : st.length ≤ 8) (hq : pc + 3 = q) (K : inR x → Ev l X d k b S M1 q ls (vi x :: st) Q) : Ev l X d k b S M pc ls (a4 :: a3 :: a2 :: a1 :: vr i :: st) Q :=
  ev_callV (b2 := b) (st := st) hd hs hS hc hd1 rfl rfl hst (by simp) hq (fun v S' M' h hv => by obtain ⟨rfl, rfl, rfl⟩ := h; exact K (hv x rfl))
theorem ev_callS4i {a1 a2 a3 a4 : ev_V} {x : Int} {M1 : ev_M} (hd : decode k.1 pc = .ok (.invokestatic idx, 3)) (hs : ev_SS k.2.1 idx y k1 4) (hc : Cx l d1 k1 y S M [a1, a2, a3, a4] (some (vi x)) M1) (hd1 : d1 + 1 ≤ d) (hst : st.length ≤ 8) (hq : pc + 3 = q) (K : inR x → Ev l X d k b S M1 q ls (vi x :: st) Q) : Ev l X d k b S M pc ls (a4 :: a3 :: a2 :: a1 :: st) Q :=
  ev_callS (b2 := b) (st := st) hd hs hc hd1 rfl rfl hst (by simp) hq (fun v S' M' h hv => by obtain ⟨rfl, rfl, rfl⟩ := h; exact K (hv x rfl))
theorem ev_callV4v {a1 a2 a3 a4 : ev_V} {M1 : ev_M} (hd : decode k.1 pc = .ok (.invokevirtual idx, 3)) (hs : ev_VS k.2.1 idx y k1 4 ci) (hS : S[i]? = some (.inr (.inl (ci, fl)))) (hc : Cx l d1 k1 y S M [vr i, a1, a2, a3, a4] (none) M1) (hd1 : d1 + 1 ≤ d) (hst : st.length ≤ 8) (hq : pc + 3 = q) (K : Ev l X d k b S M1 q ls st Q) : Ev l X d k b S M pc ls (a4 :: a3 :: a2 :: a1 :: vr i :: st) Q :=
  ev_callV (b2 := b) (st := st) hd hs hS hc hd1 rfl rfl hst (by simp) hq (fun v S' M' h hv => by obtain ⟨rfl, rfl, rfl⟩ := h; exact K)
theorem ev_callS4v {a1 a2 a3 a4 : ev_V} {M1 : ev_M} (hd : decode k.1 pc = .ok (.invokestatic idx, 3)) (hs : ev_SS k.2.1 idx y k1 4) (hc : Cx l d1 k1 y S M [a1, a2, a3, a4] (none) M1) (hd1 : d1 + 1 ≤ d) (hst : st.length ≤ 8) (hq : pc + 3 = q) (K : Ev l X d k b S M1 q ls st Q) : Ev l X d k b S M pc ls (a4 :: a3 :: a2 :: a1 :: st) Q :=
  ev_callS (b2 := b) (st := st) hd hs hc hd1 rfl rfl hst (by simp) hq (fun v S' M' h hv => by obtain ⟨rfl, rfl, rfl⟩ := h; exact K)
theorem ev_callV4r {a1 a2 a3 a4 : ev_V} {j : Option (Option Nat)} {M1 : ev_M} (hd : decode k.1 pc = .ok (.invokevirtual idx, 3)) (hs : ev_VS k.2.1 idx y k1 4 ci) (hS : S[i]? = some (.inr (.inl (ci, fl)))) (hc : Cx l d1 k1 y S M [vr i, a1, a2, a3, a4] (some (.inr j)) M1) (hd1 : d1 + 1 ≤ d) (hst : st.length ≤ 8) (hq : pc + 3 = q) (K : Ev l X d k b S M1 q ls (.inr j :: st) Q) : Ev l X d k b S M pc ls (a4 :: a3 :: a2 :: a1 :: vr i :: st) Q :=
  ev_callV (b2 := b) (st := st) hd hs hS hc hd1 rfl rfl hst (by simp) hq (fun v S' M' h hv => by obtain ⟨rfl, rfl, rfl⟩ := h; exact K)
theorem ev_callV5i {a1 a2 a3 a4 a5 : ev_V} {x : Int} {M1 : ev_M} (hd : decode k.1 pc = .ok (.invokevirtual idx, 3)) (hs : ev_VS k.2.1 idx y k1 5 ci) (hS : S[i]? = some (.inr (.inl (ci, fl)))) (hc : Cx l d1 k1 y S M [vr i, a1, a2, a3, a4, a5] (some (vi x)) M1) (hd1 : d1 + 1 ≤ d) (hst : st.length ≤ 8) (hq : pc + 3 = q) (K : inR x → Ev l X d k b S M1 q ls (vi x :: st) Q) : Ev l X d k b S M pc ls (a5 :: a4 :: a3 :: a2 :: a1 :: vr i :: st) Q :=
  ev_callV (b2 := b) (st := st) hd hs hS hc hd1 rfl rfl hst (by simp) hq (fun v S' M' h hv => by obtain ⟨rfl, rfl, rfl⟩ := h; exact K (hv x rfl))
theorem ev_callS5i {a1 a2 a3 a4 a5 : ev_V} {x : Int} {M1 : ev_M} (hd : decode k.1 pc = .ok (.invokestatic idx, 3)) (hs : ev_SS k.2.1 idx y k1 5) (hc : Cx l d1 k1 y S M [a1, a2, a3, a4, a5] (some (vi x)) M1) (hd1 : d1 + 1 ≤ d) (hst : st.length ≤ 8) (hq : pc + 3 = q) (K : inR x → Ev l X d k b S M1 q ls (vi x :: st) Q) : Ev l X d k b S M pc ls (a5 :: a4 :: a3 :: a2 :: a1 :: st) Q :=
  ev_callS (b2 := b) (st := st) hd hs hc hd1 rfl rfl hst (by simp) hq (fun v S' M' h hv => by obtain ⟨rfl, rfl, rfl⟩ := h; exact K (hv x rfl))
theorem ev_callV5v {a1 a2 a3 a4 a5 : ev_V} {M1 : ev_M} (hd : decode k.1 pc = .ok (.invokevirtual idx, 3)) (hs : ev_VS k.2.1 idx y k1 5 ci) (hS : S[i]? = some (.inr (.inl (ci, fl)))) (hc : Cx l d1 k1 y S M [vr i, a1, a2, a3, a4, a5] (none) M1) (hd1 : d1 + 1 ≤ d) (hst : st.length ≤ 8) (hq : pc + 3 = q) (K : Ev l X d k b S M1 q ls st Q) : Ev l X d k b S M pc ls (a5 :: a4 :: a3 :: a2 :: a1 :: vr i :: st) Q :=
  ev_callV (b2 := b) (st := st) hd hs hS hc hd1 rfl rfl hst (by simp) hq (fun v S' M' h hv => by obtain ⟨rfl, rfl, rfl⟩ := h; exact K)
theorem ev_callS5v {a1 a2 a3 a4 a5 : ev_V} {M1 : ev_M} (hd : decode k.1 pc = .ok (.invokestatic idx, 3)) (hs : ev_SS k.2.1 idx y k1 5) (hc : Cx l d1 k1 y S M [a1, a2, a3, a4, a5] (none) M1) (hd1 : d1 + 1 ≤ d) (hst : st.length ≤ 8) (hq : pc + 3 = q) (K : Ev l X d k b S M1 q ls st Q) : Ev l X d k b S M pc ls (a5 :: a4 :: a3 :: a2 :: a1 :: st) Q :=
  ev_callS (b2 := b) (st := st) hd hs hc hd1 rfl rfl hst (by simp) hq (fun v S' M' h hv => by obtain ⟨rfl, rfl, rfl⟩ := h; exact K)
theorem ev_callV5r {a1 a2 a3 a4 a5 : ev_V} {j : Option (Option Nat)} {M1 : ev_M} (hd : decode k.1 pc = .ok (.invokevirtual idx, 3)) (hs : ev_VS k.2.1 idx y k1 5 ci) (hS : S[i]? = some (.inr (.inl (ci, fl)))) (hc : Cx l d1 k1 y S M [vr i, a1, a2, a3, a4, a5] (some (.inr j)) M1) (hd1 : d1 + 1 ≤ d) (hst : st.length ≤ 8) (hq : pc + 3 = q) (K : Ev l X d k b S M1 q ls (.inr j :: st) Q) : Ev l X d k b S M pc ls (a5 :: a4 :: a3 :: a2 :: a1 :: vr i :: st) Q :=
  ev_callV (b2 := b) (st := st) hd hs hS hc hd1 rfl rfl hst (by simp) hq (fun v S' M' h hv => by obtain ⟨rfl, rfl, rfl⟩ := h; exact K)
theorem ev_callV6i {a1 a2 a3 a4 a5 a6 : ev_V} {x : Int} {M1 : ev_M} (hd : decode k.1 pc = .ok (.invokevirtual idx, 3)) (hs : ev_VS k.2.1 idx y k1 6 ci) (hS : S[i]? = some (.inr (.inl (ci, fl)))) (hc : Cx l d1 k1 y S M [vr i, a1, a2, a3, a4, a5, a6] (some (vi x)) M1) (hd1 : d1 + 1 ≤ d) (hst : st.length ≤ 8) (hq : pc + 3 = q) (K : inR x → Ev l X d k b S M1 q ls (vi x :: st) Q) : Ev l X d k b S M pc ls (a6 :: a5 :: a4 :: a3 :: a2 :: a1 :: vr i :: st) Q :=
  ev_callV (b2 := b) (st := st) hd hs hS hc hd1 rfl rfl hst (by simp) hq (fun v S' M' h hv => by obtain ⟨rfl, rfl, rfl⟩ := h; exact K (hv x rfl))
theorem ev_callS6i {a1 a2 a3 a4 a5 a6 : ev_V} {x : Int} {M1 : ev_M} (hd : decode k.1 pc = .ok (.invokestatic idx, 3)) (hs : ev_SS k.2.1 idx y k1 6) (hc : Cx l d1 k1 y S M [a1, a2, a3, a4, a5, a6] (some (vi x)) M1) (hd1 : d1 + 1 ≤ d) (hst : st.length ≤ 8) (hq : pc + 3 = q) (K : inR x → Ev l X d k b S M1 q ls (vi x :: st) Q) : Ev l X d k b S M pc ls (a6 :: a5 :: a4 :: a3 :: a2 :: a1 :: st) Q :=
  ev_callS (b2 := b) (st := st) hd hs hc hd1 rfl rfl hst (by simp) hq (fun v S' M' h hv => by obtain ⟨rfl, rfl, rfl⟩ := h; exact K (hv x rfl))
theorem ev_callV6v {a1 a2 a3 a4 a5 a6 : ev_V} {M1 : ev_M} (hd : decode k.1 pc = .ok (.invokevirtual idx, 3)) (hs : ev_VS k.2.1 idx y k1 6 ci) (hS : S[i]? = some (.inr (.inl (ci, fl)))) (hc : Cx l d1 k1 y S M [vr i, a1, a2, a3, a4, a5, a6] (none) M1) (hd1 : d1 + 1 ≤ d) (hst : st.length ≤ 8) (hq : pc + 3 = q) (K : Ev l X d k b S M1 q ls st Q) : Ev l X d k b S M pc ls (a6 :: a5 :: a4 :: a3 :: a2 :: a1 :: vr i :: st) Q :=
  ev_callV (b2 := b) (st := st) hd hs hS hc hd1 rfl rfl hst (by simp) hq (fun v S' M' h hv => by obtain ⟨rfl, rfl, rfl⟩ := h; exact K)
theorem ev_callS6v {a1 a2 a3 a4 a5 a6 : ev_V} {M1 : ev_M} (hd : decode k.1 pc = .ok (.invokestatic idx, 3)) (hs : ev_SS k.2.1 idx y k1 6) (hc : Cx l d1 k1 y S M [a1, a2, a3, a4, a5, a6] (none) M1) (hd1 : d1 + 1 ≤ d) (hst : st.length ≤ 8) (hq : pc + 3 = q) (K : Ev l X d k b S M1 q ls st Q) : Ev l X d k b S M pc ls (a6 :: a5 :: a4 :: a3 :: a2 :: a1 :: st) Q :=
  ev_callS (b2 := b) (st := st) hd hs hc hd1 rfl rfl hst (by simp) hq (fun v S' M' h hv => by obtain ⟨rfl, rfl, rfl⟩ := h; exact K)
theorem ev_callV6r {a1 a2 a3 a4 a5 a6 : ev_V} {j : Option (Option Nat)} {M1 : ev_M} (hd : decode k.1 pc = .ok (.invokevirtual idx, 3)) (hs : ev_VS k.2.1 idx y k1 6 ci) (hS : S[i]? = some (.inr (.inl (ci, fl)))) (hc : Cx l d1 k1 y S M [vr i, a1, a2, a3, a4, a5, a6] (some (.inr j)) M1) (hd1 : d1 + 1 ≤ d) (hst : st.length ≤ 8) (hq : pc + 3 = q) (K : Ev l X d k b S M1 q ls (.inr j :: st) Q) : Ev l X d k b S M pc ls (a6 :: a5 :: a4 :: a3 :: a2 :: a1 :: vr i :: st) Q :=
  ev_callV (b2 := b) (st := st) hd hs hS hc hd1 rfl rfl hst (by simp) hq (fun v S' M' h hv => by obtain ⟨rfl, rfl, rfl⟩ := h; exact K)
theorem ev_args_mem (sb o : Nat) : ∀ (av : List ev_V) (j i : Nat) (v : ev_V), av[i]? = some v → (j + i, tr sb o v) ∈ lv_args j (av.map (tr sb o))
  | [], _, _, _, h => by simp at h
  | a :: av, j, i, v, h => by
    cases i with
    | zero =>
      simp only [List.getElem?_cons_zero, Option.some.injEq] at h
      subst h
      exact List.mem_cons_self
    | succ i =>
      rw [List.getElem?_cons_succ] at h
      have := ev_args_mem sb o av (j + 1) i v h
      rw [show j + (i + 1) = j + 1 + i by omega]
      show _ ∈ (j, tr sb o a) :: lv_args (if (tr sb o a).category = 2 then j + 2 else j + 1) (av.map (tr sb o))
      rw [if_neg (by rw [tr_cat]; decide)]
      exact List.mem_cons_of_mem _ this
theorem ev_sl_len (sb o : Nat) : ∀ av : List ev_V, (lg_sl (av.map (tr sb o))).length = av.length
  | [] => rfl
  | a :: av => by
    have := ev_sl_len sb o av
    unfold lg_sl at *
    rw [List.map_cons, List.flatMap_cons, List.length_append, this, if_neg (by rw [tr_cat]; decide)]
    simp; omega
theorem Ct.of (hpl : plainName y.cls = true) (hy : y.cls = k.2.1) (hi : k.2.2.2.2 = true → y.name = "<init>") (hn : As.length ≤ k.2.2.1) (hbody : Ev l none d k b S M 0 (As.map some ++ List.replicate (k.2.2.1 - As.length) none) [] Q) : Ct l d k y b S M As Q := by
  intro hR G ca sb o
  refine Met.ofW (cc := k.1) (maxL := k.2.2.1) (ret := k.2.2.2.1) hpl rfl ?_
  intro p e s m args below meth c s₁ B hml hv
  obtain ⟨rfl, hsz, hP, hK, hex⟩ := hv
  have hts := atoms_spec (ws := Cond.code y k.1 k.2.2.1 k.2.2.2.1 :: ev_T) B.pre
  have hown : s.vm.findClass y.cls = some m.cls := findClass_of_methodNamed B.named
  have hin : meth.name = y.name := (name_of_methodNamed B.named B.method).1
  have hl := lv_entry (As.map (tr sb o)) (n := k.2.2.1) (by rw [ev_sl_len]; exact hn)
  rw [lg_entry_eq]
  refine hbody hR p e _ s m _ below meth c G ca sb o ⟨B.exec, B.bytes, B.returns, B.notSynchronized, hml, by rw [← hy]; exact hown, fun w hw => hts w (List.mem_cons_of_mem _ hw), hex, fun z => hin.trans (hi z), Nat.le_refl _, Nat.le_refl _, hK, fun q hq => by omega, fun _ _ z => by cases z⟩ s.heap [] 0 0 _ ⟨hsz, hP, va_S.rf⟩ (by show 0 + b.1 ≤ b.1; omega) (by show 0 + b.2 ≤ b.2; omega) ⟨hl.1, hl.2.1, fun i v hi => ?_⟩
  have hi' : As[i]? = some v := by
    by_cases hlt : i < As.length
    · rw [List.getElem?_append_left (by simpa using hlt), List.getElem?_map] at hi
      cases ha : As[i]? with
      | none => rw [ha] at hi; cases hi
      | some w => rw [ha] at hi; cases hi; rfl
    · rw [List.getElem?_append_right (by simpa using hlt), List.getElem?_replicate] at hi
      split at hi <;> cases hi
  have := ev_args_mem sb o As 0 i v hi'
  rw [Nat.zero_add] at this
  exact hl.2.2 _ this
theorem Cx.of {v : Option ev_V} {M1 : ev_M} (hpl : plainName y.cls = true) (hy : y.cls = k.2.1) (hi : k.2.2.2.2 = true → y.name = "<init>") (hn : As.length ≤ k.2.2.1) (hbody : Ev l none d k (0, 0) S M 0 (As.map some ++ List.replicate (k.2.2.1 - As.length) none) [] (fun v' S' M2 => v' = v ∧ S' = S ∧ M2 = M1)) : Cx l d k y S M As v M1 := Ct.of hpl hy hi hn hbody
theorem ev_objInit (hd : decode k.1 pc = .ok (.invokespecial idx, 3)) (hl : Cond.methodLink k.2.1 idx Lib.objectInit ∈ ev_T) (ho : Cond.instanceMethod Lib.objectInit ∈ ev_T ∧ Cond.code Lib.objectInit ⟨#[0xb1]⟩ 1 none ∈ ev_T) (hd1 : 1 ≤ d) (hst : st.length ≤ 8) (hq : pc + 3 = q) (K : Ev l X d k b S M q ls st Q) : Ev l X d k b S M pc ls (vr i :: st) Q := by
  intro hR p e R s m args below meth c G ca sb o hC H locs cells slots lsr hW h1 h2 hL
  obtain ⟨hx, hb, hr, hlk, hml, hown, hts, hex, hin, hf, hlo, hK, hos, hX⟩ := id hC
  subst hq
  exact W.objInit hx hb hown (hts _ hl) (hts _ ho.1) (hts _ ho.2) (g := F0 m pc lsr (Value.ref (o + i) :: st.map (tr sb o))) rfl (by rw [hml]; exact hL.1) rfl hd (by omega) (by
    have : 2 * (F0 m pc lsr (Value.ref (o + i) :: st.map (tr sb o))).monitorRoom + ((st.map (tr sb o)).map fun v => v.category).sum ≤ 8 := lv_room (by rw [ev_sum]; exact hst)
    omega) (K hR p e R s m args below meth c G ca sb o hC H locs cells slots lsr hW h1 h2 hL)

theorem ev_mmax {x z : Int} (hd : decode k.1 pc = .ok (.invokestatic idx, 3)) (hl : Cond.methodLink k.2.1 idx Lib.Math.max.name ∈ ev_T ∧ Cond.static Lib.Math.max.name ∈ ev_T ∧ Cond.initialized "java/lang/Math" ∈ ev_T ∧ Cond.code Lib.Math.max.name Lib.Math.max.code 2 (some .int) ∈ ev_T) (hd1 : 1 ≤ d) (hst : st.length ≤ 8) (i1 : inR x) (i2 : inR z) (hq : pc + 3 = q) (K : Ev l X d k b S M q ls (vi (max x z) :: st) Q) : Ev l X d k b S M pc ls (vi z :: vi x :: st) Q := by
  intro hR p e R s m args below meth c G ca sb o hC H locs cells slots lsr hW h1 h2 hL
  obtain ⟨hx, hb, hr, hlk, hml, hown, hts, hex, hin, hf, hlo, hK, hos, hX⟩ := id hC
  subst hq
  have kk := K hR p e R s m args below meth c G ca sb o hC H locs cells slots lsr hW h1 h2 hL
  refine va_mmax hx hb (by rw [hml]; exact hL.1.symm) hown (hts _ hl.1) (hts _ hl.2.1) (hts _ hl.2.2.1) (hts _ hl.2.2.2) (by omega) (by rw [ev_sum]; omega) (by omega) (by omega) hd ?_
  have e9 : (if Int32.ofInt x < Int32.ofInt z then Int32.ofInt z else Int32.ofInt x) = Int32.ofInt (max x z) := by
    by_cases h : x < z
    · rw [if_pos ((oi_lt i1 i2).mpr h), Int.max_eq_right (by omega)]
    · rw [if_neg (fun w => h ((oi_lt i1 i2).mp w)), Int.max_eq_left (by omega)]
  rw [e9]
  exact kk
theorem ev_mmin {x z : Int} (hd : decode k.1 pc = .ok (.invokestatic idx, 3)) (hl : Cond.methodLink k.2.1 idx Lib.Math.min.name ∈ ev_T ∧ Cond.static Lib.Math.min.name ∈ ev_T ∧ Cond.initialized "java/lang/Math" ∈ ev_T ∧ Cond.code Lib.Math.min.name Lib.Math.min.code 2 (some .int) ∈ ev_T) (hd1 : 1 ≤ d) (hst : st.length ≤ 8) (i1 : inR x) (i2 : inR z) (hq : pc + 3 = q) (K : Ev l X d k b S M q ls (vi (min x z) :: st) Q) : Ev l X d k b S M pc ls (vi z :: vi x :: st) Q := by
  intro hR p e R s m args below meth c G ca sb o hC H locs cells slots lsr hW h1 h2 hL
  obtain ⟨hx, hb, hr, hlk, hml, hown, hts, hex, hin, hf, hlo, hK, hos, hX⟩ := id hC
  subst hq
  have kk := K hR p e R s m args below meth c G ca sb o hC H locs cells slots lsr hW h1 h2 hL
  refine va_mmin hx hb (by rw [hml]; exact hL.1.symm) hown (hts _ hl.1) (hts _ hl.2.1) (hts _ hl.2.2.1) (hts _ hl.2.2.2) (by omega) (by rw [ev_sum]; omega) (by omega) (by omega) hd ?_
  have e9 : (if Int32.ofInt z < Int32.ofInt x then Int32.ofInt z else Int32.ofInt x) = Int32.ofInt (min x z) := by
    by_cases h : z < x
    · rw [if_pos ((oi_lt i2 i1).mpr h), Int.min_eq_right (by omega)]
    · rw [if_neg (fun w => h ((oi_lt i2 i1).mp w)), Int.min_eq_left (by omega)]
  rw [e9]
  exact kk
theorem ev_sld {L : Nat} {xs : Nat → Int} {x : Int} (hXX : X = some (L, xs)) (hd : decode k.1 pc = .ok (.iaload, 1)) (hx1 : 0 ≤ x ∧ x < (L : Int)) (hn : L < 2 ^ 31) (hq : pc + 1 = q) (K : Ev l X d k b S M q ls (vi (xs x.toNat) :: st) Q) : Ev l X d k b S M pc ls (vi x :: vs :: st) Q := by
  intro hR p e R s m args below meth c G ca sb o hC H locs cells slots lsr hW h1 h2 hL
  obtain ⟨hx, hb, hr, hlk, hml, hown, hts, hex, hin, hf, hlo, hK, hos, hX⟩ := id hC
  obtain ⟨x1, x2, x3⟩ := hX L xs hXX
  have i1 : inR x := by unfold inR; omega
  subst hq
  exact va_sld hx hb x1 x3 (Nat.not_le.mpr x2) hW.2.2 (oi_in i1 hx1.1 hx1.2) hd (by rw [oi_clamp i1]; exact K hR p e R s m args below meth c G ca sb o hC H locs cells slots lsr hW h1 h2 hL)
theorem ev_slen {L : Nat} {xs : Nat → Int} (hXX : X = some (L, xs)) (hd : decode k.1 pc = .ok (.arraylength, 1)) (hq : pc + 1 = q) (K : Ev l X d k b S M q ls (vi (L : Int) :: st) Q) : Ev l X d k b S M pc ls (vs :: st) Q := by
  intro hR p e R s m args below meth c G ca sb o hC H locs cells slots lsr hW h1 h2 hL
  obtain ⟨hx, hb, hr, hlk, hml, hown, hts, hex, hin, hf, hlo, hK, hos, hX⟩ := id hC
  obtain ⟨x1, x2, x3⟩ := hX L xs hXX
  subst hq
  exact va_slen hx hb x1 x3 (Nat.not_le.mpr x2) hW.2.2 hd (by rw [← Int32.ofInt_eq_ofNat]; exact K hR p e R s m args below meth c G ca sb o hC H locs cells slots lsr hW h1 h2 hL)

end EvCalls
