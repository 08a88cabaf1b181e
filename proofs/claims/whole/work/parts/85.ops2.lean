section Op2
variable {M M1 M2 : ev_M} {v v' : Vw} {f : Nat → Int}
theorem dress_v {e : Nat} {k c : Int} (hW : Wf v) (hA : Ag f v) (hk : 0 ≤ k ∧ k ≤ 5) (hc : 0 ≤ c ∧ c ≤ 15) (he : (e : Int) < vel v) (e1 : vel v' = vel v) (e2 : vrn v' = vrn v) (e3 : ∀ i, vpar v' i = vpar v i ∧ vknd v' i = (if i = e then k else vknd v i) ∧ vcls v' i = (if i = e then c else vcls v i)) (e4 : vpt v' = vpt v) (e5 : ven v' = ven v) : Wf v' ∧ Ag (dreF f e k c) v' := by
  obtain ⟨h1, h2, h3, h4, h5⟩ := hW
  obtain ⟨a1, a2, a3, a4, a5⟩ := hA
  refine ⟨⟨by omega, by rw [e2]; exact h2, fun i hi => ?_, fun r hr => ?_, fun r q hr hq => ?_⟩, ?_, ?_, fun x hx hx2 => ?_, fun r w hr hw => ?_, fun r q hr hq => ?_⟩
  · obtain ⟨u1, u2, u3⟩ := e3 i
    rw [u1, u2, u3]
    have := h3 i (by omega)
    by_cases q : i = e
    · rw [if_pos q, if_pos q]; exact ⟨this.1, hk, hc⟩
    · rw [if_neg q, if_neg q]; exact this
  · rw [e2] at hr
    rw [e1, e4]
    exact h4 r hr
  · rw [e2] at hr
    rw [e5]
    exact h5 r q hr hq
  · rw [e1, ← a1]; unfold dreF; rw [if_neg (by omega), if_neg (by omega)]
  · rw [e2, ← a2]; unfold dreF; rw [if_neg (by omega), if_neg (by omega)]
  · obtain ⟨u1, u2, u3⟩ := e3 x.toNat
    rw [u1, u2, u3]
    have := a3 x hx (by omega)
    unfold dreF
    by_cases q : x.toNat = e
    · rw [if_pos q, if_pos q]
      refine ⟨?_, ?_, ?_⟩
      · rw [if_neg (by omega), if_neg (by omega)]; exact this.1
      · rw [if_neg (by omega), if_pos (by omega)]
      · rw [if_pos (by omega)]
    · rw [if_neg q, if_neg q, ← this.1, ← this.2.1, ← this.2.2]
      refine ⟨?_, ?_, ?_⟩ <;> rw [if_neg (by omega), if_neg (by omega)]
  · rw [e2] at hr
    rw [e4, ← a4 r w hr hw]
    unfold dreF
    rw [if_neg (by omega), if_neg (by omega)]
  · rw [e2] at hr
    refine (a5 r q hr hq).cg ?_ ?_ ?_ (fun w _ => by rw [e5]) <;>
    · unfold dreF
      rw [if_neg (by omega), if_neg (by omega)]
theorem rel_dress {e k c : Int} (h : Rel M) (hg : (0 ≤ e ∧ e < M 2 0) ∧ (0 ≤ k ∧ k ≤ 5) ∧ (0 ≤ c ∧ c ≤ 15)) (h1 : M1 = up (up (begM M) 6 e.toNat k) 8 e.toNat c) (hD : Dm M1 (dreF (M 101) e.toNat k c) M2) : Rel M2 := by
  have ho := h.1.2.1
  have hk := h.1.2.2.1.1
  have b : ∀ i, i ≤ 13 → begM M i = M i := fun i hi => begM_o ho hk (Or.inl hi)
  have hv := h.1.1.1
  have hv0 : vel (cV M 1) = M 2 0 := rfl
  have o : ∀ i, i ≤ 13 → i ≠ 6 → i ≠ 8 → M1 i = M i := fun i a b6 b8 => by rw [h1, up_ne b8, up_ne b6, b i a]
  have := dress_v (v := cV M 1) (v' := cV M1 1) (e := e.toNat) (k := k) (c := c) h.1.1 h.2.1 hg.2.1 hg.2.2 (by omega) (congrFun (o 2 (by decide) (by decide) (by decide)) 0) (congrFun (o 9 (by decide) (by decide) (by decide)) 0) (fun i => by
    refine ⟨congrFun (o 4 (by decide) (by decide) (by decide)) i, ?_, ?_⟩
    · show M1 6 i = _
      rw [h1, up_ne (by decide), up_f, b 6 (by decide)]
      rfl
    · show M1 8 i = _
      rw [h1, up_f, up_ne (by decide), b 8 (by decide)]
      rfl) (by funext r w; exact congrFun (o 11 (by decide) (by decide) (by decide)) _) (by funext r q w; exact congrFun (o 13 (by decide) (by decide) (by decide)) _)
  refine rel_step h (fun i hi => ?_) this.1 hD this.2
  rw [h1, up_ne (by omega), up_ne (by omega)]
theorem remove_v (hW : Wf v) (hA : Ag f v) (hn : vel v > 1) (hx : exB (fun r => decide (vpt v r 4 = vel v - 1)) (vrn v).toNat = false) (e1 : vel v' = vel v - 1) (e2 : vrn v' = vrn v) (e3 : vpar v' = vpar v ∧ vknd v' = vknd v ∧ vcls v' = vcls v) (e4 : vpt v' = vpt v) (e5 : ven v' = ven v) : Wf v' ∧ Ag (fun i => if i = 0 then vel v - 1 else f i) v' := by
  obtain ⟨h1, h2, h3, h4, h5⟩ := hW
  obtain ⟨a1, a2, a3, a4, a5⟩ := hA
  have hex : ∀ n r, r < n → exB (fun r => decide (vpt v r 4 = vel v - 1)) n = false → ¬ vpt v r 4 = vel v - 1 := by
    intro n
    induction n with
    | zero => intro r hr; omega
    | succ n ih =>
      intro r hr hb
      unfold exB at hb
      rw [Bool.or_eq_false_iff] at hb
      by_cases q : r = n
      · rw [q]; exact of_decide_eq_false hb.2
      · exact ih r (by omega) hb.1
  refine ⟨⟨by omega, by rw [e2]; exact h2, fun i hi => ?_, fun r hr => ?_, fun r q hr hq => ?_⟩, ?_, ?_, fun x hx hx2 => ?_, fun r w hr hw => ?_, fun r q hr hq => ?_⟩
  · rw [e3.1, e3.2.1, e3.2.2]
    exact h3 i (by omega)
  · rw [e2] at hr
    rw [e1, e4]
    have := h4 r hr
    have := hex _ r (by omega) hx
    omega
  · rw [e2] at hr
    rw [e5]
    exact h5 r q hr hq
  · rw [e1]; exact if_pos rfl
  · rw [e2, ← a2]; exact if_neg (by decide)
  · rw [e3.1, e3.2.1, e3.2.2]
    have := a3 x hx (by omega)
    refine ⟨?_, ?_, ?_⟩
    · rw [← this.1]; exact if_neg (by omega)
    · rw [← this.2.1]; exact if_neg (by omega)
    · rw [← this.2.2]; exact if_neg (by omega)
  · rw [e2] at hr
    rw [e4, ← a4 r w hr hw]
    exact if_neg (by omega)
  · rw [e2] at hr
    exact (a5 r q hr hq).cg (if_neg (by omega)) (if_neg (by omega)) (if_neg (by omega)) (fun w _ => by rw [e5])
theorem rel_remove (h : Rel M) (hg : M 2 0 > 1 ∧ exB (fun r => decide (M 11 (6 * r + 4) = M 2 0 - 1)) (M 9 0).toNat = false) (h1 : M1 = up (begM M) 2 0 (M 2 0 - 1)) (hD : Dm M1 (fun i => if i = 0 then vel (cV M 1) - 1 else M 101 i) M2) : Rel M2 := by
  have ho := h.1.2.1
  have hk := h.1.2.2.1.1
  have b : ∀ i, i ≤ 13 → begM M i = M i := fun i hi => begM_o ho hk (Or.inl hi)
  have o : ∀ i, i ≤ 13 → i ≠ 2 → M1 i = M i := fun i a b2 => by rw [h1, up_ne b2, b i a]
  have := remove_v (v := cV M 1) (v' := cV M1 1) h.1.1 h.2.1 hg.1 hg.2 (by show M1 2 0 = M 2 0 - 1; rw [h1]; exact up_s) (congrFun (o 9 (by decide) (by decide)) 0) ⟨o 4 (by decide) (by decide), o 6 (by decide) (by decide), o 8 (by decide) (by decide)⟩ (by funext r w; exact congrFun (o 11 (by decide) (by decide)) _) (by funext r q w; exact congrFun (o 13 (by decide) (by decide)) _)
  refine rel_step h (fun i hi => ?_) this.1 hD this.2
  rw [h1, up_ne (by omega)]
end Op2

