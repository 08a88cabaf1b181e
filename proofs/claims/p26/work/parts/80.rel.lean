/-- two views that show the same where anything lies -/
def VE (v v' : Vw) : Prop := vel v' = vel v ∧ vrn v' = vrn v ∧ (∀ i, i < 16 → vpar v' i = vpar v i ∧ vknd v' i = vknd v i ∧ vcls v' i = vcls v i) ∧ (∀ r w, r < 16 → w < 6 → vpt v' r w = vpt v r w) ∧ ∀ r p w, r < 16 → p < 16 → w < 3 → ven v' r p w = ven v r p w
theorem VE.rf {v : Vw} : VE v v := ⟨rfl, rfl, fun _ _ => ⟨rfl, rfl, rfl⟩, fun _ _ _ _ => rfl, fun _ _ _ _ _ _ => rfl⟩
theorem Wf.ve {v v' : Vw} (h : Wf v) (hv : VE v v') : Wf v' := by
  obtain ⟨h1, h2, h3, h4, h5⟩ := h
  obtain ⟨e1, e2, e3, e4, e5⟩ := hv
  refine ⟨by rw [e1]; exact h1, by rw [e2]; exact h2, fun i hi => ?_, fun r hr => ?_, fun r p hr hp => ?_⟩
  · rw [e1] at hi
    have := e3 i (by omega)
    rw [this.1, this.2.1, this.2.2]
    exact h3 i hi
  · rw [e2] at hr
    rw [e1, e4 r 0 (by omega) (by decide), e4 r 1 (by omega) (by decide), e4 r 2 (by omega) (by decide), e4 r 3 (by omega) (by decide), e4 r 4 (by omega) (by decide), e4 r 5 (by omega) (by decide)]
    exact h4 r hr
  · rw [e2] at hr
    rw [e5 r p 0 (by omega) hp (by decide), e5 r p 1 (by omega) hp (by decide), e5 r p 2 (by omega) hp (by decide)]
    exact h5 r p hr hp
theorem cp_sv {M : ev_M} {a b n c : Nat} (h : c < n) : cp M a b n a c = M b c := by rw [cp_at, if_pos ⟨rfl, h⟩]
/-- a copied state shows what it was copied from -/
theorem scM_VE {M : ev_M} {s s2 : Nat} (hd : s + 12 < s2 ∨ s2 + 12 < s) : VE (cV M s2) (cV (scM M s s2) s) := by
  unfold scM rcM tcM
  refine ⟨?_, ?_, fun i hi => ⟨?_, ?_, ?_⟩, fun r w hr hw => ?_, fun r p w hr hp hw => ?_⟩
  · show cp _ _ _ _ (s + 1) 0 = M (s2 + 1) 0
    rw [cp_ne (by omega), cp_ne (by omega), up_ne (by omega), cp_ne (by omega), cp_ne (by omega), cp_ne (by omega)]
    exact up_s
  · show cp _ _ _ _ (s + 8) 0 = M (s2 + 8) 0
    rw [cp_ne (by omega), cp_ne (by omega), up_s, cp_ne (by omega), cp_ne (by omega), cp_ne (by omega), up_ne (by omega)]
  · show cp _ _ _ _ (s + 3) i = M (s2 + 3) i
    rw [cp_ne (by omega), cp_ne (by omega), up_ne (by omega), cp_ne (by omega), cp_ne (by omega), cp_sv hi, up_ne (by omega)]
  · show cp _ _ _ _ (s + 5) i = M (s2 + 5) i
    rw [cp_ne (by omega), cp_ne (by omega), up_ne (by omega), cp_ne (by omega), cp_sv hi, cp_ne (by omega), up_ne (by omega)]
  · show cp _ _ _ _ (s + 7) i = M (s2 + 7) i
    rw [cp_ne (by omega), cp_ne (by omega), up_ne (by omega), cp_sv hi, cp_ne (by omega), cp_ne (by omega), up_ne (by omega)]
  · show cp _ _ _ _ (s + 10) (6 * r + w) = M (s2 + 10) (6 * r + w)
    rw [cp_ne (by omega), cp_sv (by omega), up_ne (by omega), cp_ne (by omega), cp_ne (by omega), cp_ne (by omega), up_ne (by omega)]
  · show cp _ _ _ _ (s + 12) (48 * r + 3 * p + w) = M (s2 + 12) (48 * r + 3 * p + w)
    rw [cp_sv (by omega), cp_ne (by omega), up_ne (by omega), cp_ne (by omega), cp_ne (by omega), cp_ne (by omega), up_ne (by omega)]
theorem cV_at {M M' : ev_M} {s : Nat} (h : ∀ i, s + 1 ≤ i → i ≤ s + 12 → M' i = M i) : cV M' s = cV M s := by
  unfold cV
  rw [h (s + 1) (by omega) (by omega), h (s + 3) (by omega) (by omega), h (s + 5) (by omega) (by omega), h (s + 7) (by omega) (by omega), h (s + 8) (by omega) (by omega), h (s + 10) (by omega) (by omega), h (s + 12) (by omega) (by omega)]

