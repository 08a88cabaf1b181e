section Qr
variable {M M1 M2 : ev_M} {v : Vw}
theorem OutOK.cg (h : OutOK v M) (he : ∀ i, i < 100 → M2 i = M i) : OutOK v M2 := by
  unfold OutOK RowOK ValOK at h ⊢
  rw [he 81 (by decide), he 83 (by decide), he 85 (by decide), he 87 (by decide), he 89 (by decide), he 91 (by decide)]
  exact h
/-- what is kept when nothing but the outcome and scratch changes -/
theorem rel_keep (h : Rel M) (hc : ∀ i, i < 81 ∨ 92 ≤ i ∧ i ≤ 94 ∨ 100 ≤ i ∧ i ≤ 103 → M2 i = M i) (h81 : (M2 81 0 = 0 ∨ M2 81 0 = 1) ∧ (M2 81 0 = 1 → OutOK (cV M 1) M2)) : Rel M2 := by
  obtain ⟨⟨i1, i2, i3, i4, i5, i6, i7⟩, a1, a2, a3, a4⟩ := h
  have e14 : M2 14 = M 14 := hc 14 (by omega)
  have e1 : cV M2 1 = cV M 1 := cV_eq (fun i hi => hc i (by omega))
  have esl : ∀ k : Int, slo M2 k = slo M k := fun k => by unfold slo; rw [e14]
  have ev : ∀ k : Nat, cV M2 (slo M2 k) = cV M (slo M k) := fun k => by
    have hr := slo_rng (M := M) (k := (k : Int)) i2 (by omega)
    rw [esl]
    exact cV_at (fun i a b => hc i (by omega))
  refine ⟨⟨by rw [e1]; exact i1, by rw [e14]; exact i2, by rw [e14]; exact i3, fun k hk => by rw [ev]; rw [e14] at hk; exact i4 k hk, ?_, h81.1, by rw [e1]; exact h81.2⟩, ?_, ?_, fun k hk => ?_, ?_⟩
  · unfold TxtOK at i5 ⊢
    rw [hc 92 (by omega), hc 94 (by omega)]; exact i5
  · rw [e1, hc 101 (by omega)]; exact a1
  · rw [hc 100 (by omega), e14]; exact a2
  · rw [ev, hc 102 (by omega)]
    rw [e14] at hk
    exact a3 k hk
  · unfold TxM at a4 ⊢
    rw [hc 92 (by omega), hc 94 (by omega), hc 100 (by omega), hc 103 (by omega)]; exact a4
/-- a query of both -/
theorem rel_query (h : Rel M) (h1 : Qy M M1) (h2 : Mq M1 M2) : Rel M2 := by
  have lo : ∀ i, i < 100 → M2 i = M1 i := fun i hi => h2 i (by omega) (by omega) (by omega) (by omega)
  rcases h1 with rfl | ⟨f1, f2, f3⟩
  · refine rel_keep h (fun i hi => h2 i (by omega) (by omega) (by omega) (by omega)) ⟨?_, fun q => ?_⟩
    · rw [lo 81 (by decide)]; exact h.1.2.2.2.2.2.1
    · rw [lo 81 (by decide)] at q
      exact (h.1.2.2.2.2.2.2 q).cg lo
  · refine rel_keep h (fun i hi => (h2 i (by omega) (by omega) (by omega) (by omega)).trans (f1 i (by omega) (by omega) (by omega) (by omega) (by omega) (by omega))) ⟨Or.inr (by rw [lo 81 (by decide)]; exact f3), fun _ => f2.cg lo⟩
theorem Mq.of_eq (h : M2 = M) : Mq M M2 := fun i _ _ _ _ => by rw [h]
/-- after the class's query the model still says what the view says -/
theorem qy_ag (h : Rel M) (h1 : Qy M M1) : Ag (M1 101) (cV M 1) := by
  rcases h1 with rfl | ⟨f1, -, -⟩
  · exact h.2.1
  · rw [f1 101 (by decide) (by decide) (by decide) (by decide) (by decide) (by decide)]; exact h.2.1
end Qr

