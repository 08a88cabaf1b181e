section Op4
variable {M M1 M2 : ev_M}
theorem rel_undo (h : Rel M) (hs : M 14 2 > 0) (h1 : M1 = up (resM M) 81 0 0) (h2 : M2 = mund M1) : Rel M2 := by
  obtain ⟨⟨i1, i2, i3, i4, i5, i6, i7⟩, a1, a2, a3, a4⟩ := h
  obtain ⟨s, hss⟩ : ∃ s : Nat, M 14 2 - 1 = (s : Int) := ⟨(M 14 2 - 1).toNat, by omega⟩
  have hr := slo_rng (M := M) (k := (s : Int)) i2 (by omega)
  have hve := scM_VE (M := M) (s := 1) (s2 := slo M (s : Int)) (by omega)
  have o1 : ∀ i, i = 0 ∨ 14 ≤ i → i ≠ 14 → i ≠ 81 → M1 i = M i := fun i a b c => by rw [h1, up_ne c]; unfold resM; rw [up_ne b, hss, scM_o (by omega)]
  have e14a : M1 14 1 = M 14 1 := by rw [h1, up_ne (by decide)]; unfold resM; rw [up_o (by decide), hss, scM_o (by omega)]
  have e14b : M1 14 2 = (s : Int) := by rw [h1, up_ne (by decide)]; unfold resM; rw [up_s, hss]
  have e1v : cV M1 1 = cV (scM M 1 (slo M (s : Int))) 1 := cV_at (fun i a b => by rw [h1, up_ne (by omega)]; unfold resM; rw [up_ne (by omega), hss])
  have e100 : M1 100 2 = M 14 2 := by rw [o1 100 (by omega) (by decide) (by decide)]; exact a2
  have lo : ∀ i, i ≠ 100 → i ≠ 101 → M2 i = M1 i := fun i a b => by rw [h2]; unfold mund; rw [wr_ne b, up_ne a]
  have f2 : M2 100 2 = (s : Int) := by rw [h2]; unfold mund; rw [wr_ne (by decide), up_s, e100, hss]
  have f4 : M2 100 4 = M 100 4 := by rw [h2]; unfold mund; rw [wr_ne (by decide), up_o (by decide), o1 100 (by omega) (by decide) (by decide)]
  have f101 : ∀ c, c < 914 → M2 101 c = M 102 (914 * s + c) := fun c hc => by
    rw [h2]
    unfold mund
    rw [wr_at, if_pos (by omega), e100, hss, Int.toNat_natCast, o1 102 (by omega) (by decide) (by decide), Nat.sub_zero]
  have e1 : cV M2 1 = cV M1 1 := cV_eq (fun i hi => lo i (by omega) (by omega))
  have hwo := i4 s (by omega)
  have hwf : Wf (cV M2 1) := by rw [e1, e1v]; exact hwo.ve hve
  have hag : Ag (M2 101) (cV M2 1) := by rw [e1, e1v]; exact (a3 s (by omega)).ve hwo hve f101
  have esl : ∀ k : Int, slo M2 k = slo M k := fun k => by unfold slo; rw [lo 14 (by decide) (by decide), e14a]
  have ev : ∀ k : Nat, cV M2 (slo M2 k) = cV M (slo M k) := fun k => by
    have hr := slo_rng (M := M) (k := (k : Int)) i2 (by omega)
    rw [esl]
    exact cV_at (fun i a b => by rw [lo i (by omega) (by omega), o1 i (by omega) (by omega) (by omega)])
  have g2 : M2 14 2 = (s : Int) := by rw [lo 14 (by decide) (by decide)]; exact e14b
  have e81 : M2 81 0 = 0 := by rw [lo 81 (by decide) (by decide), h1]; exact up_s
  have k92 : ∀ i, i = 92 ∨ i = 94 ∨ i = 102 ∨ i = 103 → M2 i = M i := fun i hi => by rw [lo i (by omega) (by omega), o1 i (by omega) (by omega) (by omega)]
  refine ⟨⟨hwf, by rw [lo 14 (by decide) (by decide), e14a]; exact i2, by rw [g2]; omega, fun k hk => by rw [ev]; rw [g2] at hk; exact i4 k (by omega), ?_, Or.inl e81, fun q => by omega⟩, hag, by rw [f2, g2], fun k hk => ?_, ?_⟩
  · unfold TxtOK at i5 ⊢
    rw [k92 92 (by omega), k92 94 (by omega)]; exact i5
  · rw [ev, k92 102 (by omega)]
    rw [g2] at hk
    exact a3 k (by omega)
  · unfold TxM at a4 ⊢
    rw [k92 92 (by omega), k92 94 (by omega), f4, k92 103 (by omega)]; exact a4
end Op4

