/-- the numbers behind the constructor -/
def N0 : ev_M := fun i k => if k = 0 then wClass.getD i 0 else 0
theorem J_start {M : ev_M} (h : ∀ i k, i < 100 → M i k = N0 i k) : J (cV M 1) [] M := by
  have z : ∀ i k, i < 100 → k ≠ 0 → M i k = 0 := fun i k hi hk => by
    rw [h i k hi]
    unfold N0
    rw [if_neg hk]
  have f : ∀ i, i < 100 → M i 0 = wClass.getD i 0 := fun i hi => by
    rw [h i 0 hi]
    unfold N0
    rw [if_pos rfl]
  have f2 : M 2 0 = 1 := (f 2 (by omega)).trans rfl
  have f4 : M 4 0 = -1 := (f 4 (by omega)).trans rfl
  have f6 : M 6 0 = 0 := (f 6 (by omega)).trans rfl
  have f8 : M 8 0 = 0 := (f 8 (by omega)).trans rfl
  have f9 : M 9 0 = 0 := (f 9 (by omega)).trans rfl
  have f81 : M 81 0 = 0 := (f 81 (by omega)).trans rfl
  have t1 : M 14 1 = 0 := z 14 1 (by omega) (by omega)
  have t2 : M 14 2 = 0 := z 14 2 (by omega) (by omega)
  have x1 : M 92 1 = 0 := z 92 1 (by omega) (by omega)
  have e1 : vel (cV M 1) = 1 := f2
  have e2 : vrn (cV M 1) = 0 := f9
  refine ⟨⟨⟨by omega, by omega, fun i hi => ?_, fun r hr => ?_, fun r p hr _ => ?_⟩, by omega, by omega, fun k hk => ?_, ⟨by omega, fun k hk => ?_⟩, Or.inl f81, fun q => ?_⟩, fun i c q => ?_, rfl, ?_, fun j w hj => ?_⟩
  · have : i = 0 := by omega
    subst this
    have a1 : vpar (cV M 1) 0 = -1 := f4
    have a2 : vknd (cV M 1) 0 = 0 := f6
    have a3 : vcls (cV M 1) 0 = 0 := f8
    omega
  · exact absurd hr (by omega)
  · exact absurd hr (by omega)
  · exact absurd hk (by omega)
  · exact absurd hk (by omega)
  · exact absurd q (by omega)
  · obtain ⟨t, ht, hq⟩ := q
    unfold gaS at ht
    exact z i c (by omega) (by omega)
  · show ((0 : Nat) : Int) ≤ _
    omega
  · cases hj
set_option maxRecDepth 20000 in
theorem S0_made : ([] : List ev_Sh) ++ tClass ([] : List ev_Sh).length = S0 := by rfl
set_option maxHeartbeats 4000000 in
set_option maxRecDepth 20000 in
theorem L_all {l : Launch} {L : Nat} {xs : Nat → Int} (hL : L ≤ 260) : Ev l (some (L, xs)) 10 kL_law (100, 7007) [] (fun _ _ => 0) 0 [some vs, none, none, none, none, none, none, none, none, none, none] [] QL := by
  refine ev_new (b2 := (99, 7003)) (q := 3) dL_law_0 nw_RL_10 (by decide) rfl rfl ?_
  refine ev_dup (q := 4) dL_law_3 rfl ?_
  refine ev_callI (b2 := (0, 0)) (q := 7) dL_law_4 is_RL_58 (c_X7_init [] (zr (fun _ _ => 0) 0) (fun c => by unfold zr; split <;> rfl)) (by decide) rfl rfl (Nat.le_of_ble_eq_true rfl) rfl rfl (fun a S' M1 hq _ => ?_)
  obtain ⟨rfl, rfl, hN⟩ := hq
  rw [S0_made]
  have h0 : J (cV M1 1) [] M1 := J_start (fun i k hi => by
    obtain ⟨-, -, n3⟩ := hN
    have := n3 i k hi
    rw [show ([] : List ev_Sh).length + i = i from Nat.zero_add i] at this
    exact this)
  refine ev_astore_1 (q := 8) dL_law_7 rfl (by decide) ?_
  refine ev_aload_1 (q := 9) dL_law_8 rfl ?_
  refine ev_callS1iR (q := 12) dL_law_9 ss_RL_59 (c_L_holds h0) (by decide) (Nat.le_of_ble_eq_true rfl) rfl (fun x_9 M_9 hq_9 h_9 => ?_)
  obtain ⟨e_9, h2⟩ := hq_9
  subst e_9
  refine ev_istore_2 (q := 13) dL_law_12 rfl (by decide) ?_
  refine ev_iconst (q := 14) dL_law_13 rfl ?_
  refine ev_istore_3 (q := 15) dL_law_14 rfl (by decide) ?_
  exact L_loop hL 36 _ _ 0 _ _ _ _ _ _ _ h2 (by omega) (by omega)

