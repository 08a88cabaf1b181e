theorem kn_of {own : String} {idx ci N : Nat} {fl : List (Option (Option Nat))} {s : State} {args : Array Value} (h : ev_NW own idx ci N fl) (hts : ∀ w ∈ ev_T, w.before args s = true) : ∃ x : ClassId × (Nat → Nat), ∀ q : vw_C, vwCl[ci]? = some q → u_Kn s q.1 q.2.1 q.2.2 x.1 x.2 := by
  obtain ⟨C, T, ty0, g1, g2, g3, g4, g5, g6, g7⟩ := h
  obtain ⟨cC, iS, hk⟩ := u_known hts g2 (hts _ g5)
  exact ⟨(cC, iS), fun q hq => by rw [g1] at hq; cases hq; exact hk⟩
theorem kn_all {s : State} {args : Array Value} (hts : ∀ w ∈ ev_T, w.before args s = true) : ∃ G : va_G, ∀ (c : Nat) (q : vw_C), vwCl[c]? = some q → u_Kn s q.1 q.2.1 q.2.2 (G.1 c) (G.2 c) := by
  have h : ∀ c, ∃ x : ClassId × (Nat → Nat), ∀ q : vw_C, vwCl[c]? = some q → u_Kn s q.1 q.2.1 q.2.2 x.1 x.2 := fun c => by
    match c with
    | 0 => exact kn_of nw_RX7_16 hts
    | 1 => exact kn_of nw_RX7_23 hts
    | 2 => exact kn_of nw_RX6_9 hts
    | 3 => exact kn_of nw_RX4_18 hts
    | 4 => exact kn_of nw_RX7_7 hts
    | 5 => exact kn_of nw_RX7_30 hts
    | 6 => exact kn_of nw_RX4_9 hts
    | 7 => exact kn_of nw_RL_10 hts
    | n + 8 => exact ⟨(0, fun _ => 0), fun q hq => by cases hq⟩
  exact ⟨(fun c => (Classical.choose (h c)).1, fun c => (Classical.choose (h c)).2), fun c q hq => Classical.choose_spec (h c) q hq⟩
theorem ar_of {ty : FieldType} {s : State} {args : Array Value} (h : (Cond.arrayClass ty).before args s = true) : ∃ cA, ArrOfT s cA ty ∧ s.vm.findClass ("[" ++ ty.toString) = some cA := by
  obtain ⟨cA, kA, comp, h1, h2, h3⟩ := Cond.arrayClass_spec h
  exact ⟨cA, fun n z => ⟨fun k h => (by cases h), kA, h2, comp, h3⟩, h1⟩
theorem tys_all {s : State} {args : Array Value} (hts : ∀ w ∈ lw_tbl, w.before args s = true) (htt : ∀ w ∈ ev_T, w.before args s = true) : ∃ ca : Nat → ClassId, ∀ (k : Nat) (q : ClassId × FieldType), (ev_tys ca)[k]? = some q → ArrOfT s q.1 q.2 ∧ va_RA s q.1 q.2 := by
  obtain ⟨c0, a0, b0⟩ := ar_of (htt _ ar_int)
  obtain ⟨comp, c3, k3, h1, h2, h3, h4, h5⟩ := Cond.arrayOver_spec (hts (.arrayOver (.object "StyleCascade$State")) (List.mem_of_getElem? (i := 110) (by decide +kernel)))
  refine ⟨fun k => match k with | 0 => c0 | 1 => c0 | 2 => c0 | _ => c3, fun k q hq => ?_⟩
  match k, hq with
  | 0, hq => cases hq; exact ⟨a0, b0⟩
  | 1, hq => cases hq; exact ⟨a0, b0⟩
  | 2, hq => cases hq; exact ⟨a0, b0⟩
  | 3, hq => cases hq; exact ⟨fun n z => ⟨fun k h => (by cases h), k3, h3, comp, h4⟩, k3, comp, h3, h4, h1, h5⟩
  | n + 4, hq => cases hq
theorem fr_forget {s t : State} {o : Outcome} {L : List Loc} {k n : Nat} (h : FrameEnd s o t L k n) (hL : ∀ q ∈ L, s.heap.size ≤ q.base) : Framed s o t [] k n := by
  obtain ⟨h1, h2, g1, g2, g3, g4, g5, g6⟩ := h
  refine ⟨h1, h2, g1, g2, g3, g4, g5, fun a c hc => ?_⟩
  obtain ⟨c', e1, e2, e3, e4⟩ := g6 a c hc
  refine ⟨c', e1, e2, e3, fun i _ => e4 i (fun hq => ?_)⟩
  have hlt := (Array.getElem?_eq_some_iff.mp hc).1
  exact absurd (hL _ hq) (Nat.not_le.mpr hlt)
theorem ofInt_self (x : Int32) : Int32.ofInt x.toInt = x := Int32.ofInt_toInt x

