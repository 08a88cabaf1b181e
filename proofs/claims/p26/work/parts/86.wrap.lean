section Wrap
variable {l : Launch} {M : ev_M} {v : Vw} {us : List Vw} {e p r w : Int}
theorem Ct.mono {d : Nat} {k : ev_K} {y : MethodName} {b : Nat × Nat} {S : List ev_Sh} {av : List ev_V} {Q Q2 : Option ev_V → List ev_Sh → ev_M → Prop} (h : Ct l d k y b S M av Q) (hQ : ∀ a b c, Q a b c → Q2 a b c) : Ct l d k y b S M av Q2 := by
  intro hR G ca sb o
  have hh := h hR G ca sb o
  unfold Met at hh ⊢
  exact hh.mono (fun _ _ q => q) (fun _ _ _ _ _ q => q) (fun a s oc t _ hq => by
    obtain ⟨⟨⟨v', S', M', q1, q2⟩, q3⟩, q4⟩ := hq
    exact ⟨⟨⟨v', S', M', hQ _ _ _ q1, q2⟩, q3⟩, q4⟩)
theorem Ri.mono {d : Nat} {k : ev_K} {y : MethodName} {S : List ev_Sh} {av : List ev_V} {R R2 : Int → ev_M → Prop} (h : Ri l d k y S M av R) (hQ : ∀ x m, R x m → R2 x m) : Ri l d k y S M av R2 :=
  Ct.mono h (fun a b c q => by obtain ⟨x, q1, q2, q3⟩ := q; exact ⟨x, q1, q2, hQ x c q3⟩)
theorem J.el (h : J v us M) : M 2 0 = vel v := by rw [← h.2.2.1]; rfl
theorem J.rn (h : J v us M) : M 9 0 = vrn v := by rw [← h.2.2.1]; rfl
theorem J.wf (h : J v us M) : Wf v := by rw [← h.2.2.1]; exact h.1.1
theorem w_value (h : J v us M) (he : 0 ≤ e ∧ e < vel v) (hp : 0 ≤ p ∧ p ≤ 15) : Ri l 6 kX7_value yX7_value S0 M [vr 0, vi e, vi p] (fun x M2 => x = vaV v e.toNat p.toNat ∧ J v us M2) := by
  have h1 := h.el; have hW := h.wf; have hb := hW.1
  refine (p_value (by constructor <;> omega) (by constructor <;> omega) h.1).mono (fun x m q => ?_)
  obtain ⟨q1, q2⟩ := q
  rw [h.2.2.1] at q1
  refine ⟨?_, J_query h q2⟩
  rcases q1 with q1 | q1
  · exact absurd ⟨⟨he.1, by omega⟩, hp⟩ q1.1
  · exact q1.2
theorem w_from (h : J v us M) (he : 0 ≤ e ∧ e < vel v) (hp : 0 ≤ p ∧ p ≤ 15) : Ri l 6 kX7_from yX7_from S0 M [vr 0, vi e, vi p] (fun x M2 => x = frV v e.toNat p.toNat ∧ J v us M2) := by
  have h1 := h.el; have hW := h.wf; have hb := hW.1
  refine (p_from (by constructor <;> omega) (by constructor <;> omega) h.1).mono (fun x m q => ?_)
  obtain ⟨q1, q2⟩ := q
  rw [h.2.2.1] at q1
  refine ⟨?_, J_query h q2⟩
  rcases q1 with q1 | q1
  · exact absurd ⟨⟨he.1, by omega⟩, hp⟩ q1.1
  · exact q1.2
theorem w_winner (h : J v us M) (he : 0 ≤ e ∧ e < vel v) (hp : 0 ≤ p ∧ p ≤ 15) : Ri l 6 kX7_winner yX7_winner S0 M [vr 0, vi e, vi p] (fun x M2 => x = (if winV v e.toNat p.toNat = -1 then -14 else winV v e.toNat p.toNat) ∧ J v us M2) := by
  have h1 := h.el; have hW := h.wf; have hb := hW.1
  refine (p_winner (by constructor <;> omega) (by constructor <;> omega) h.1).mono (fun x m q => ?_)
  obtain ⟨q1, q2⟩ := q
  rw [h.2.2.1] at q1
  refine ⟨?_, J_query h q2⟩
  rcases q1 with q1 | q1
  · exact absurd ⟨⟨he.1, by omega⟩, hp⟩ q1.1
  · exact q1.2
theorem w_cycle (h : J v us M) (he : 0 ≤ e ∧ e < vel v) (hp : 8 ≤ p ∧ p ≤ 15) : Ri l 6 kX7_cycle yX7_cycle S0 M [vr 0, vi e, vi p] (fun x M2 => x = cycV v e.toNat p ∧ J v us M2) := by
  have h1 := h.el; have hW := h.wf; have hb := hW.1
  refine (p_cycle (by constructor <;> omega) (by constructor <;> omega) h.1).mono (fun x m q => ?_)
  obtain ⟨q1, q2⟩ := q
  rw [h.2.2.1] at q1
  refine ⟨?_, J_query h q2⟩
  rcases q1 with q1 | q1
  · exact absurd ⟨⟨he.1, by omega⟩, hp⟩ q1.1
  · exact q1.2
theorem w_matches (h : J v us M) (hr : 0 ≤ r ∧ r < vrn v) (he : 0 ≤ e ∧ e < vel v) : Ri l 6 kX7_matches yX7_matches S0 M [vr 0, vi r, vi e] (fun x M2 => x = (if fitB v r.toNat e.toNat = true then 1 else 0) ∧ J v us M2) := by
  have h1 := h.el; have h2 := h.rn; have hW := h.wf; have hb := hW.1; have hb2 := hW.2.1
  refine (p_matches (by constructor <;> omega) (by constructor <;> omega) h.1).mono (fun x m q => ?_)
  obtain ⟨q1, q2⟩ := q
  rw [h.2.2.1] at q1
  refine ⟨?_, J_query h q2⟩
  rcases q1 with q1 | q1
  · exact absurd ⟨⟨hr.1, by omega⟩, he.1, by omega⟩ q1.1
  · exact q1.2
theorem w_element (h : J v us M) (he : 0 ≤ e ∧ e < vel v) (hw : 0 ≤ w ∧ w ≤ 5) : Ri l 6 kX7_element yX7_element S0 M [vr 0, vi e, vi w] (fun x M2 => x = elV v e.toNat w ∧ J v us M2) := by
  have h1 := h.el; have hW := h.wf; have hb := hW.1
  refine (p_element (by constructor <;> omega) (by constructor <;> omega) h.1).mono (fun x m q => ?_)
  obtain ⟨q1, q2⟩ := q
  rw [h.2.2.1] at q1
  refine ⟨?_, J_query h q2⟩
  rcases q1 with q1 | q1
  · exact absurd ⟨⟨he.1, by omega⟩, hw⟩ q1.1
  · exact q1.2
theorem w_count (h : J v us M) (hw : 0 ≤ w ∧ w ≤ 4) : Ri l 6 kX7_count yX7_count S0 M [vr 0, vi w] (fun x M2 => x = coV v 0 0 w ∧ J v us M2) := by
  refine (p_count (by constructor <;> omega) h.1).mono (fun x m q => ?_)
  obtain ⟨q1, q2⟩ := q
  rw [h.2.2.1] at q1
  refine ⟨?_, J_query h q2⟩
  rcases q1 with q1 | q1
  · exact absurd ⟨hw.1, by omega⟩ q1.1
  · rw [q1.2]
    unfold coV
    by_cases g0 : w = 0
    · rw [if_pos g0, if_pos g0]
    · rw [if_neg g0, if_neg g0]
      by_cases g1 : w = 1
      · rw [if_pos g1, if_pos g1]
      · rw [if_neg g1, if_neg g1]
        by_cases g2 : w = 2
        · rw [if_pos g2, if_pos g2]
        · rw [if_neg g2, if_neg g2]
          by_cases g3 : w = 3
          · rw [if_pos g3, if_pos g3]
          · rw [if_neg g3, if_neg g3, if_pos (by omega), if_pos (by omega)]
theorem w_count0 (h : J v us M) : Ri l 6 kX7_count yX7_count S0 M [vr 0, vi 0] (fun x M2 => x = vel v ∧ J v us M2) := w_count h (by omega)
theorem w_count1 (h : J v us M) : Ri l 6 kX7_count yX7_count S0 M [vr 0, vi 1] (fun x M2 => x = vrn v ∧ J v us M2) := w_count h (by omega)
theorem w_count4 (h : J v us M) : Ri l 6 kX7_count yX7_count S0 M [vr 0, vi 4] (fun x M2 => x = sumN (ccV v) (vel v).toNat ∧ J v us M2) := w_count h (by omega)
theorem w_elem0 (h : J v us M) (he : 0 < e ∧ e < vel v) : Ri l 6 kX7_element yX7_element S0 M [vr 0, vi e, vi 0] (fun x M2 => x = vpar v e.toNat ∧ J v us M2) := (w_element h (by omega) (by omega)).mono (fun x m q => ⟨by rw [q.1, elV, if_pos rfl, if_neg (by omega)], q.2⟩)
theorem w_elem1 (h : J v us M) (he : 0 ≤ e ∧ e < vel v) : Ri l 6 kX7_element yX7_element S0 M [vr 0, vi e, vi 1] (fun x M2 => x = vknd v e.toNat ∧ J v us M2) := w_element h he (by omega)
theorem w_elem2 (h : J v us M) (he : 0 ≤ e ∧ e < vel v) : Ri l 6 kX7_element yX7_element S0 M [vr 0, vi e, vi 2] (fun x M2 => x = vcls v e.toNat ∧ J v us M2) := w_element h he (by omega)
theorem w_elem3 (h : J v us M) (he : 0 ≤ e ∧ e < vel v) : Ri l 6 kX7_element yX7_element S0 M [vr 0, vi e, vi 3] (fun x M2 => x = stp (vpar v) 16 e 0 ∧ J v us M2) := (w_element h he (by omega)).mono (fun x m q => ⟨by rw [q.1, elV, if_neg (by decide), if_neg (by decide), if_neg (by decide), if_pos rfl, Int.toNat_of_nonneg he.1], q.2⟩)
theorem w_elem4 (h : J v us M) (he : 0 ≤ e ∧ e < vel v) : Ri l 6 kX7_element yX7_element S0 M [vr 0, vi e, vi 4] (fun x M2 => x = mtV v e.toNat ∧ J v us M2) := w_element h he (by omega)
theorem w_elem5 (h : J v us M) (he : 0 ≤ e ∧ e < vel v) : Ri l 6 kX7_element yX7_element S0 M [vr 0, vi e, vi 5] (fun x M2 => x = ccV v e.toNat ∧ J v us M2) := w_element h he (by omega)
theorem w_ruleOf8 (h : J v us M) (hr : 0 ≤ r ∧ r < vrn v) : Ri l 6 kX7_ruleOf yX7_ruleOf S0 M [vr 0, vi r, vi 8] (fun x M2 => x = emV v r.toNat ∧ J v us M2) := by
  have h2 := h.rn; have hW := h.wf; have hb2 := hW.2.1
  refine (p_ruleOf (by constructor <;> omega) (by constructor <;> omega) h.1).mono (fun x m q => ?_)
  obtain ⟨q1, q2⟩ := q
  rw [h.2.2.1] at q1
  refine ⟨?_, J_query h q2⟩
  rcases q1 with q1 | q1
  · exact absurd ⟨⟨hr.1, by omega⟩, by omega⟩ q1.1
  · exact q1.2
theorem w_undo {u : Vw} (h : J v (u :: us) M) : Ri l 5 kX7_undo yX7_undo S0 M [vr 0] (fun x M2 => 0 ≤ x ∧ J u us M2) := by
  have ht := h.2.2.2.1
  rw [List.length_cons] at ht
  refine (p_undo h.1).mono (fun x m q => ?_)
  rcases q with q | q
  · exact absurd q.1 (by omega)
  · exact ⟨by omega, J_undo h q.2.2⟩
end Wrap

