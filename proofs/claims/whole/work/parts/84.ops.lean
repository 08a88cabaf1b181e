section Op1
variable {M M1 M2 : ev_M} {v v' : Vw} {f : Nat → Int}
theorem add_v {n : Nat} {p k c : Int} (hW : Wf v) (hA : Ag f v) (hn : vel v = (n : Int)) (hn2 : n < 16) (hp : 0 ≤ p ∧ p < n) (hk : 0 ≤ k ∧ k ≤ 5) (hc : 0 ≤ c ∧ c ≤ 15) (e1 : vel v' = vel v + 1) (e2 : vrn v' = vrn v) (e3 : ∀ i, vpar v' i = (if i = n then p else vpar v i) ∧ vknd v' i = (if i = n then k else vknd v i) ∧ vcls v' i = (if i = n then c else vcls v i)) (e4 : vpt v' = vpt v) (e5 : ven v' = ven v) : Wf v' ∧ Ag (adF f p k c) v' := by
  obtain ⟨h1, h2, h3, h4, h5⟩ := hW
  obtain ⟨a1, a2, a3, a4, a5⟩ := hA
  have f0 : (f 0).toNat = n := by omega
  refine ⟨⟨by omega, by rw [e2]; exact h2, fun i hi => ?_, fun r hr => ?_, fun r q hr hq => ?_⟩, ?_, ?_, fun x hx hx2 => ?_, fun r w hr hw => ?_, fun r q hr hq => ?_⟩
  · obtain ⟨u1, u2, u3⟩ := e3 i
    rw [u1, u2, u3]
    by_cases q : i = n
    · rw [if_pos q, if_pos q, if_pos q]; omega
    · rw [if_neg q, if_neg q, if_neg q]; exact h3 i (by omega)
  · rw [e2] at hr
    rw [e1, e4]
    have := h4 r hr
    omega
  · rw [e2] at hr
    rw [e5]
    exact h5 r q hr hq
  · rw [e1]; show (if (0 : Nat) = 0 then f 0 + 1 else _) = _; rw [if_pos rfl, a1]
  · rw [e2, ← a2]; unfold adF; rw [if_neg (by omega), if_neg (by omega), if_neg (by omega), if_neg (by omega)]
  · obtain ⟨u1, u2, u3⟩ := e3 x.toNat
    rw [u1, u2, u3]
    unfold adF
    rw [f0]
    by_cases q : x.toNat = n
    · rw [if_pos q, if_pos q, if_pos q]
      refine ⟨?_, ?_, ?_⟩
      · rw [if_neg (by omega), if_neg (by omega), if_neg (by omega), if_pos (by omega)]
      · rw [if_neg (by omega), if_neg (by omega), if_pos (by omega)]
      · rw [if_neg (by omega), if_pos (by omega)]
    · have := a3 x hx (by omega)
      rw [if_neg q, if_neg q, if_neg q, ← this.1, ← this.2.1, ← this.2.2]
      refine ⟨?_, ?_, ?_⟩ <;> rw [if_neg (by omega), if_neg (by omega), if_neg (by omega), if_neg (by omega)]
  · rw [e2] at hr
    rw [e4, ← a4 r w hr hw]
    unfold adF
    rw [f0, if_neg (by omega), if_neg (by omega), if_neg (by omega), if_neg (by omega)]
  · rw [e2] at hr
    refine (a5 r q hr hq).cg ?_ ?_ ?_ (fun w _ => by rw [e5]) <;>
    · unfold adF
      rw [f0, if_neg (by omega), if_neg (by omega), if_neg (by omega), if_neg (by omega)]
theorem rel_add {p k c : Int} (h : Rel M) (hg : (0 ≤ p ∧ p < M 2 0) ∧ (0 ≤ k ∧ k ≤ 5) ∧ (0 ≤ c ∧ c ≤ 15)) (hn : M 2 0 < 16) (h1 : M1 = adM (begM M) p k c) (hD : Dm M1 (adF (M 101) p k c) M2) : Rel M2 := by
  have ho := h.1.2.1
  have hk := h.1.2.2.1.1
  have b : ∀ i, i ≤ 13 → begM M i = M i := fun i hi => begM_o ho hk (Or.inl hi)
  have hW := h.1.1
  have hv := hW.1
  have hv0 : vel (cV M 1) = M 2 0 := rfl
  have := add_v (v := cV M 1) (v' := cV M1 1) (n := (M 2 0).toNat) (p := p) (k := k) (c := c) hW h.2.1 (by rw [hv0]; omega) (by omega) (by omega) hg.2.1 hg.2.2 (by subst h1; show adM (begM M) p k c 2 0 = M 2 0 + 1; unfold adM; rw [b 2 (by decide)]; exact up_s) (by subst h1; show adM (begM M) p k c 9 0 = M 9 0; unfold adM; rw [up_ne (by decide), up_ne (by decide), up_ne (by decide), up_ne (by decide), b 9 (by decide)]) (fun i => by
    subst h1
    refine ⟨?_, ?_, ?_⟩
    · show adM (begM M) p k c 4 i = _
      unfold adM
      rw [up_ne (by decide), up_ne (by decide), up_ne (by decide), up_f, b 2 (by decide), b 4 (by decide)]
      rfl
    · show adM (begM M) p k c 6 i = _
      unfold adM
      rw [up_ne (by decide), up_ne (by decide), up_f, up_ne (by decide), b 2 (by decide), b 6 (by decide)]
      rfl
    · show adM (begM M) p k c 8 i = _
      unfold adM
      rw [up_ne (by decide), up_f, up_ne (by decide), up_ne (by decide), b 2 (by decide), b 8 (by decide)]
      rfl) (by subst h1; funext r w; show adM (begM M) p k c 11 _ = M 11 _; unfold adM; rw [up_ne (by decide), up_ne (by decide), up_ne (by decide), up_ne (by decide), b 11 (by decide)]) (by subst h1; funext r q w; show adM (begM M) p k c 13 _ = M 13 _; unfold adM; rw [up_ne (by decide), up_ne (by decide), up_ne (by decide), up_ne (by decide), b 13 (by decide)])
  refine rel_step h (fun i hi => ?_) this.1 hD this.2
  subst h1
  unfold adM
  rw [up_ne (by omega), up_ne (by omega), up_ne (by omega), up_ne (by omega)]
end Op1

