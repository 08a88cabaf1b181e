/-- the numbers behind both constructors -/
def N0 : ev_M := fun i k => if i = 101 ∧ k = 2 then -1 else if i = 101 ∧ k = 0 then 1 else if i < 100 then (if k = 0 then wClass.getD i 0 else 0) else 0
theorem rel_start {M : ev_M} (h : ∀ i k, i < 110 → M i k = N0 i k) : Rel M := by
  have z : ∀ i k, i < 100 → k ≠ 0 → M i k = 0 := fun i k hi hk => by
    rw [h i k (by omega)]; unfold N0
    rw [if_neg (by omega), if_neg (by omega), if_pos hi, if_neg hk]
  have f : ∀ i, i < 100 → M i 0 = wClass.getD i 0 := fun i hi => by
    rw [h i 0 (by omega)]; unfold N0
    rw [if_neg (by omega), if_neg (by omega), if_pos hi, if_pos rfl]
  have m0 : ∀ i k, 100 ≤ i → i < 110 → i ≠ 101 → M i k = 0 := fun i k hi hi2 hk => by
    rw [h i k (by omega)]; unfold N0
    rw [if_neg (by omega), if_neg (by omega), if_neg (by omega)]
  have m1 : ∀ k, k ≠ 0 → k ≠ 2 → M 101 k = 0 := fun k hk hk2 => by
    rw [h 101 k (by omega)]; unfold N0
    rw [if_neg (by omega), if_neg (by omega), if_neg (by omega)]
  have m10 : M 101 0 = 1 := by rw [h 101 0 (by omega)]; rfl
  have m12 : M 101 2 = -1 := by rw [h 101 2 (by omega)]; rfl
  have f2 : M 2 0 = 1 := (f 2 (by omega)).trans rfl
  have f4 : M 4 0 = -1 := (f 4 (by omega)).trans rfl
  have f6 : M 6 0 = 0 := (f 6 (by omega)).trans rfl
  have f8 : M 8 0 = 0 := (f 8 (by omega)).trans rfl
  have f9 : M 9 0 = 0 := (f 9 (by omega)).trans rfl
  have f81 : M 81 0 = 0 := (f 81 (by omega)).trans rfl
  have t1 : M 14 1 = 0 := z 14 1 (by omega) (by omega)
  have t2 : M 14 2 = 0 := z 14 2 (by omega) (by omega)
  have x1 : M 92 1 = 0 := z 92 1 (by omega) (by omega)
  have e1 : vel (cV M 1) = 1 := f2
  have e2 : vrn (cV M 1) = 0 := f9
  refine ⟨⟨⟨by omega, by omega, fun i hi => ?_, fun r hr => ?_, fun r p hr _ => ?_⟩, by omega, by omega, fun k hk => ?_, ⟨by omega, fun k hk => ?_⟩, Or.inl f81, fun q => ?_⟩, ⟨by rw [m10, e1], by rw [m1 1 (by omega) (by omega), e2], fun x hx hx2 => ?_, fun r w hr _ => ?_, fun r p hr _ => ?_⟩, by rw [t2]; exact m0 100 2 (by omega) (by omega) (by omega), fun k hk => ?_, ⟨by rw [x1]; exact m0 100 4 (by omega) (by omega) (by omega), by omega, fun k hk => ?_⟩⟩
  · have : i = 0 := by omega
    subst this
    have a1 : vpar (cV M 1) 0 = -1 := f4
    have a2 : vknd (cV M 1) 0 = 0 := f6
    have a3 : vcls (cV M 1) 0 = 0 := f8
    omega
  · exact absurd hr (by omega)
  · exact absurd hr (by omega)
  · exact absurd hk (by omega)
  · exact absurd hk (by omega)
  · exact absurd q (by omega)
  · have : x = 0 := by omega
    subst this
    have a1 : vpar (cV M 1) 0 = -1 := f4
    have a2 : vknd (cV M 1) 0 = 0 := f6
    have a3 : vcls (cV M 1) 0 = 0 := f8
    exact ⟨m12.trans a1.symm, (m1 18 (by omega) (by omega)).trans a2.symm, (m1 34 (by omega) (by omega)).trans a3.symm⟩
  · exact absurd hr (by omega)
  · exact absurd hr (by omega)
  · exact absurd hk (by omega)
  · exact absurd hk (by omega)
set_option maxRecDepth 20000 in
theorem S0_made : (([] : List ev_Sh) ++ tClass ([] : List ev_Sh).length) ++ tModel (([] : List ev_Sh) ++ tClass ([] : List ev_Sh).length).length = S0 := by rfl
theorem wModel_0 : ∀ j, wModel.getD j 0 = 0 := fun j => by
  match j with
  | 0 => rfl
  | 1 => rfl
  | 2 => rfl
  | 3 => rfl
  | 4 => rfl
  | 5 => rfl
  | 6 => rfl
  | 7 => rfl
  | 8 => rfl
  | 9 => rfl
  | n + 10 => rfl
theorem len_tC : (([] : List ev_Sh) ++ tClass ([] : List ev_Sh).length).length = 100 := by rfl
set_option maxHeartbeats 4000000 in
set_option maxRecDepth 20000 in
theorem L_all {l : Launch} {L : Nat} {xs : Nat → Int} (hL : L ≤ 3584) (hxs : ∀ j, inR (xs j)) : Ev l (some (L, xs)) 12 kL_law (110, 13183) [] (fun _ _ => 0) 0 [some vs, none, none, none] [] QL := by
  refine ev_new (b2 := (109, 13179)) (q := 3) dL_law_0 nw_RL_7 (by decide) rfl rfl ?_
  refine ev_dup (q := 4) dL_law_3 rfl ?_
  refine ev_callI (b2 := (10, 6176)) (q := 7) dL_law_4 is_RL_9 (c_X7_init [] (zr (fun _ _ => 0) 0) (fun c => by unfold zr; split <;> rfl)) (by decide) rfl rfl (Nat.le_of_ble_eq_true rfl) rfl rfl (fun a S' M1 hq _ => ?_)
  obtain ⟨rfl, rfl, hN⟩ := hq
  refine ev_astore_1 (q := 8) dL_law_7 rfl (by decide) ?_
  refine ev_new (b2 := (9, 6162)) (q := 11) dL_law_8 nw_RL_10 (by decide) rfl rfl ?_
  refine ev_dup (q := 12) dL_law_11 rfl ?_
  refine ev_callI (b2 := (0, 0)) (q := 15) dL_law_12 is_RL_12 (c_X8_init (fun c => by unfold zr; rw [if_pos rfl])) (by decide) rfl rfl (Nat.le_of_ble_eq_true rfl) rfl rfl (fun a S' M2 hq _ => ?_)
  obtain ⟨rfl, rfl, Mx, hN2, rfl⟩ := hq
  rw [S0_made]
  refine ev_astore_2 (q := 16) dL_law_15 rfl (by decide) ?_
  refine ev_iconst (q := 17) dL_law_16 rfl ?_
  refine ev_istore_3 (q := 18) dL_law_17 rfl (by decide) ?_
  refine L_loop hL hxs 3584 _ 0 (rel_start (fun i k hi => ?_)) (by omega) (by omega) (by omega)
  rw [len_tC] at hN2 ⊢
  obtain ⟨-, n1, n2⟩ := hN2
  obtain ⟨-, -, n3⟩ := hN
  unfold N0
  rw [up_at, up_at]
  by_cases g2 : i = 101 ∧ k = 2
  · rw [if_pos g2, if_pos g2]
  · rw [if_neg g2, if_neg g2]
    by_cases g1 : i = 101 ∧ k = 0
    · rw [if_pos g1, if_pos g1]
    · rw [if_neg g1, if_neg g1]
      by_cases g : i < 100
      · rw [if_pos g, n1 i k g]
        have := n3 i k g
        rw [show ([] : List ev_Sh).length + i = i from Nat.zero_add i] at this
        rw [← this]
        unfold zr
        rw [if_neg (by omega)]
      · rw [if_neg g]
        obtain ⟨j, rfl⟩ : ∃ j, i = 100 + j := ⟨i - 100, by omega⟩
        rw [n2 j k (show j < 10 by omega), wModel_0]
        split <;> rfl

