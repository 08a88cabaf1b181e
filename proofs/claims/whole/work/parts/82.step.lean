section St
variable {M M1 M2 : ev_M}
/-- the class and the model stand alike -/
def Rel (M : ev_M) : Prop := IC M ∧ Ag (M 101) (cV M 1) ∧ M 100 2 = M 14 2 ∧ (∀ k : Nat, (k : Int) < M 14 2 → Ag (fun c => M 102 (914 * k + c)) (cV M (slo M k))) ∧ TxM (M 94) (M 92 1) M
theorem mrec_cg (h : ∀ i, 100 ≤ i → M1 i = M i) : ∀ i, 100 ≤ i → mrec M1 i = mrec M i := by
  intro i hi
  have e : mst M1 = mst M := by unfold mst; rw [h 100 (by decide)]
  funext c
  unfold mrec
  rw [e, up_at, up_at, wr_at, wr_at]
  unfold mrec1
  rw [h 100 (by decide), h 101 (by decide), h 102 (by decide)]
  by_cases q : M 100 2 = 5
  · rw [if_pos q, if_pos q, up_at, up_at, wr_at, wr_at, h i hi]
  · rw [if_neg q, if_neg q, h i hi]
/-- a change of both -/
theorem rel_step {g : Nat → Int} (h : Rel M) (h1 : ∀ i, 14 ≤ i → M1 i = begM M i) (hW : Wf (cV M1 1)) (hD : Dm M1 g M2) (hA : Ag g (cV M1 1)) : Rel M2 := by
  obtain ⟨⟨i1, i2, i3, i4, i5, i6, i7⟩, a1, a2, a3, a4⟩ := h
  obtain ⟨d1, d2⟩ := hD
  have hb : ∀ i, 100 ≤ i → M1 i = M i := fun i hi => by rw [h1 i (by omega), begM_o i2 i3.1 (by omega)]
  have hm := mrec_cg hb
  obtain ⟨c1, c2, c3, c4⟩ := recM_H i2 i3
  obtain ⟨m1, m2, m3⟩ := mrec_H a2 i3
  have lo : ∀ i, i < 100 → M2 i = M1 i := fun i hi => by rw [d2 i (by omega), mrec_o (by omega) (by omega)]
  have bg : ∀ i, i ≠ 81 → begM M i = recM M i := fun i hi => by unfold begM; exact up_ne hi
  have e14 : M2 14 = recM M 14 := by rw [lo 14 (by decide), h1 14 (by decide), bg 14 (by decide)]
  have esl : ∀ k : Int, slo M2 k = slo (recM M) k := fun k => by unfold slo; rw [e14]
  have ev : ∀ k : Nat, (k : Int) ≤ snn M → cV M2 (slo M2 k) = cV (recM M) (slo (recM M) k) := fun k hk => by
    have hr := slo_rng (M := recM M) (k := (k : Int)) c2 (by omega)
    rw [esl]
    exact cV_at (fun i a b => by rw [lo i (by omega), h1 i (by omega), bg i (by omega)])
  have e1 : cV M2 1 = cV M1 1 := cV_eq (fun i hi => lo i (by omega))
  have hs : snn M ≤ 4 := by unfold snn; split <;> omega
  have hso : (snn M : Int) + sof M ≤ M 14 2 := by unfold snn sof; split <;> omega
  have e92 : ∀ i, 82 ≤ i → i < 100 → M2 i = M i := fun i a b => by rw [lo i b, h1 i (by omega), begM_o i2 i3.1 (by omega)]
  have e81 : M2 81 0 = 0 := by rw [lo 81 (by decide), h1 81 (by decide)]; exact up_s
  have hWs : ∀ k : Nat, (k : Int) < (snn M : Int) + 1 → Wf (cV M2 (slo M2 k)) := fun k hk => by
    rw [ev k (by omega)]
    by_cases q : k < snn M
    · rw [c3 k q]; exact i4 _ (by omega)
    · have : k = snn M := by omega
      rw [this]; exact i1.ve c4
  have hAs : ∀ k : Nat, (k : Int) < (snn M : Int) + 1 → Ag (fun c => M2 102 (914 * k + c)) (cV M2 (slo M2 k)) := fun k hk => by
    rw [ev k (by omega), d2 102 (by decide), hm 102 (by decide)]
    by_cases q : k < snn M
    · rw [c3 k q]
      exact (a3 (k + sof M) (by omega)).ve (i4 _ (by omega)) VE.rf (fun c hc => m2 k c q hc)
    · have : k = snn M := by omega
      rw [this]
      exact a1.ve i1 c4 (fun c hc => m3 c hc)
  have n2 : M2 14 2 = (snn M : Int) + 1 := by rw [e14]; exact c1
  refine ⟨⟨by rw [e1]; exact hW, by rw [e14]; exact c2, by rw [n2]; omega, fun k hk => hWs k (by omega), ?_, Or.inl e81, fun q => by omega⟩, by rw [e1, d1]; exact hA, ?_, fun k hk => hAs k (by omega), ?_⟩
  · unfold TxtOK at i5 ⊢
    rw [e92 92 (by decide) (by decide), e92 94 (by decide) (by decide)]
    exact i5
  · rw [n2, d2 100 (by decide), hm 100 (by decide)]; exact m1
  · unfold TxM at a4 ⊢
    rw [e92 92 (by decide) (by decide), e92 94 (by decide) (by decide), d2 100 (by decide), hm 100 (by decide), mrec_f (by decide), d2 103 (by decide), hm 103 (by decide), mrec_o (by decide) (by decide)]
    exact a4
end St

