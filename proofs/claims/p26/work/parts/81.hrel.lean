section Hr
variable {M : ev_M}
def sof (M : ev_M) : Nat := if M 14 2 = 5 then 1 else 0
def snn (M : ev_M) : Nat := if M 14 2 = 5 then 4 else (M 14 2).toNat
theorem slo_ne {o j k : Int} (ho : 0 ≤ o ∧ o < 5) (hj : 0 ≤ j ∧ j < 5) (hk : 0 ≤ k ∧ k < 5) (hne : j ≠ k) : 16 + 13 * ((o + j) % 5).toNat + 12 < 16 + 13 * ((o + k) % 5).toNat ∨ 16 + 13 * ((o + k) % 5).toNat + 12 < 16 + 13 * ((o + j) % 5).toNat := by omega
/-- the class's history behind a record -/
theorem recM_H (ho : 0 ≤ M 14 1 ∧ M 14 1 < 5) (hk : 0 ≤ M 14 2 ∧ M 14 2 ≤ 5) : recM M 14 2 = (snn M : Int) + 1 ∧ (0 ≤ recM M 14 1 ∧ recM M 14 1 < 5) ∧ (∀ k : Nat, k < snn M → cV (recM M) (slo (recM M) k) = cV M (slo M ((k + sof M : Nat) : Int))) ∧ VE (cV M 1) (cV (recM M) (slo (recM M) (snn M : Int))) := by
  have hr := slo_rng (M := M) (k := M 14 2) ho hk.1
  have h14 : ∀ i, scM M (slo M (M 14 2)) 1 14 i = M 14 i := fun i => by rw [scM_o (by omega)]
  have hve := scM_VE (M := M) (s := slo M (M 14 2)) (s2 := 1) (by omega)
  have hup : ∀ (Z : ev_M) (c : Nat) (x : Int) (s : Nat), 16 ≤ s → cV (up Z 14 c x) s = cV Z s := fun Z c x s hs => cV_at (fun i a b => up_ne (by omega))
  by_cases h5 : M 14 2 = 5
  · have es : snn M = 4 := if_pos h5
    have eo : sof M = 1 := if_pos h5
    have er : recM M = up (scM M (slo M (M 14 2)) 1) 14 1 ((M 14 1 + 1) % 5) := by rw [recM, if_neg (by omega)]
    have e1 : recM M 14 1 = (M 14 1 + 1) % 5 := by rw [er]; exact up_s
    have e2 : recM M 14 2 = M 14 2 := by rw [er, up_o (by decide)]; exact h14 2
    rw [es, eo]
    refine ⟨by rw [e2, h5]; rfl, by rw [e1]; omega, fun k hk2 => ?_, ?_⟩
    · have e3 : slo (recM M) k = slo M ((k + 1 : Nat) : Int) := by unfold slo; rw [e1]; omega
      have hb := slo_rng (M := M) (k := ((k + 1 : Nat) : Int)) ho (by omega)
      rw [e3, er, hup _ _ _ _ hb.1]
      refine cV_at (fun i a b => scM_o ?_)
      have hne := slo_ne (o := M 14 1) (j := ((k + 1 : Nat) : Int)) (k := 0) ho (by omega) (by omega) (by omega)
      unfold slo at a b ⊢
      rw [h5]
      omega
    · have e3 : slo (recM M) ((4 : Nat) : Int) = slo M (M 14 2) := by unfold slo; rw [e1, h5]; omega
      rw [e3, er, hup _ _ _ _ hr.1]
      exact hve
  · have es : snn M = (M 14 2).toNat := if_neg h5
    have eo : sof M = 0 := if_neg h5
    have er : recM M = up (scM M (slo M (M 14 2)) 1) 14 2 (M 14 2 + 1) := by rw [recM, if_pos (by omega)]
    have e1 : recM M 14 1 = M 14 1 := by rw [er, up_o (by decide)]; exact h14 1
    have e2 : recM M 14 2 = M 14 2 + 1 := by rw [er]; exact up_s
    rw [es, eo]
    refine ⟨by rw [e2]; omega, by rw [e1]; exact ho, fun k hk2 => ?_, ?_⟩
    · have e3 : slo (recM M) k = slo M ((k + 0 : Nat) : Int) := by unfold slo; rw [e1]; rfl
      have hb := slo_rng (M := M) (k := ((k + 0 : Nat) : Int)) ho (by omega)
      rw [e3, er, hup _ _ _ _ hb.1]
      refine cV_at (fun i a b => scM_o ?_)
      have hne := slo_ne (o := M 14 1) (j := ((k + 0 : Nat) : Int)) (k := M 14 2) ho (by omega) (by omega) (by omega)
      unfold slo at a b ⊢
      omega
    · have e3 : slo (recM M) (((M 14 2).toNat : Nat) : Int) = slo M (M 14 2) := by unfold slo; rw [e1]; omega
      rw [e3, er, hup _ _ _ _ hr.1]
      exact hve
end Hr

