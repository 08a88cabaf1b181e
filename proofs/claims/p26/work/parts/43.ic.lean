def TxtOK (M : ev_M) : Prop := (0 ≤ M 92 1 ∧ M 92 1 ≤ 80) ∧ ∀ k : Nat, (k : Int) < M 92 1 → 32 ≤ M 94 k ∧ M 94 k ≤ 126
/-- what stands when the class may be called -/
def IC (M : ev_M) : Prop := Wf (cV M 1) ∧ (0 ≤ M 14 1 ∧ M 14 1 < 5) ∧ (0 ≤ M 14 2 ∧ M 14 2 ≤ 5) ∧ (∀ k : Nat, (k : Int) < M 14 2 → Wf (cV M (slo M k))) ∧ TxtOK M ∧ (M 81 0 = 0 ∨ M 81 0 = 1) ∧ (M 81 0 = 1 → OutOK (cV M 1) M)
set_option maxHeartbeats 1000000 in
theorem c_X5_length {l : Launch} {M : ev_M} : Cx l 0 kX5_length yX5_length S0 M [vr 92] (some (vi (M 92 1))) M := by
  refine Cx.of (by decide) rfl (by decide) (Nat.le_of_ble_eq_true rfl) ?_
  refine (show Ev _ none _ _ _ _ _ 0 [_] [] _ from ?_)
  refine ev_aload_0 (q := 1) dX5_length_0 rfl ?_
  refine ev_getI (q := 4) dX5_length_1 fl_RX5_27 (by first | assumption | rfl) (by rfl) rfl (fun h_1 => ?_)
  refine ev_ireturn dX5_length_4 rfl rfl (by constructor <;> omega) ?_
  refine ⟨?_, rfl, ?_⟩
  · first | rfl | (refine congrArg (fun z => some (Sum.inl z)) ?_; first | rfl | omega | (split <;> omega) | (simp [*]; done))
  · first | rfl | (simp [*]; done)

