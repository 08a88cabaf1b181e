theorem O9.trans {M M2 M3 : ev_M} (h : O9 M M2) (h2 : O9 M2 M3) : O9 M M3 := fun i hi => (h2 i hi).trans (h i hi)
theorem O9.ag {M M2 : ev_M} {v : Vw} (h : O9 M M2) (hA : Ag (M 101) v) : Ag (M2 101) v := by rw [h 101 (by decide)]; exact hA
theorem agE_l {v : Vw} {r p : Nat} {s a b : Int} (h : AgE s a b (ven v r p)) : (s = 2 → a = ven v r p 1) ∧ (s ≠ 2 → ven v r p 1 = -1) := by
  rcases h with ⟨q1, q2, q3, q4⟩ | ⟨q1, q2, q3, q4, q5⟩ | ⟨q1, q2, q3, q4, q5⟩
  · exact ⟨fun q => by omega, fun _ => q3⟩
  · exact ⟨fun q => by omega, fun _ => q4⟩
  · exact ⟨fun _ => q3.symm, fun q => absurd q1 q⟩
section Cyc
variable {l : Launch} {M : ev_M} {v : Vw} {e p : Nat}
set_option maxHeartbeats 1000000 in
theorem c_X8_leadsTo {x : Int} (hA : Ag (M 101) v) (hW : Wf v) (he : (e : Int) < vel v) (hx : 0 ≤ x ∧ x < 16) : Ri l 5 kX8_leadsTo yX8_leadsTo S0 M [vr 100, vi (e : Int), vi x] (fun y M2 => y = ldV v e x ∧ O9 M M2) := by
  obtain ⟨p, rfl⟩ : ∃ p : Nat, x = p := ⟨x.toNat, by omega⟩
  have hw := winV_rng hW e p
  have h2 := hW.2.1
  have hld : ldV v e (p : Int) = if winV v e p = -1 then -1 else ven v (winV v e p).toNat p 1 := by rw [ldV, Int.toNat_natCast]
  refine Ri.of (by decide) rfl (by decide) (Nat.le_of_ble_eq_true rfl) ?_
  refine (show Ev _ none _ _ _ _ _ 0 [_, _, _, _] [] _ from ?_)
  refine ev_aload_0 (q := 1) dX8_leadsTo_0 rfl ?_
  refine ev_iload_1 (q := 2) dX8_leadsTo_1 rfl ?_
  refine ev_iload_2 (q := 3) dX8_leadsTo_2 rfl ?_
  refine ev_callV2iR (q := 6) dX8_leadsTo_3 vs_RX8_118 (by first | assumption | rfl) (c_X8_winnerOf hA hW he (by omega)) (by decide) (Nat.le_of_ble_eq_true rfl) rfl (fun x_3 M_3 hq_3 h_3 => ?_)
  obtain ⟨rfl, o2⟩ := hq_3
  have hA1 := o2.ag hA
  refine ev_istore_3 (q := 7) dX8_leadsTo_6 rfl (by decide) ?_
  refine ev_iload_3 (q := 8) dX8_leadsTo_7 rfl ?_
  refine ev_iconst (q := 9) dX8_leadsTo_8 rfl ?_
  refine ev_icmp_eq (t := 41) (q := 12) dX8_leadsTo_9 (by decide) rfl (by constructor <;> omega) (by constructor <;> omega) (fun h_9 => ?_) (fun h_9 => ?_)
  · refine ev_iconst (q := 42) dX8_leadsTo_41 rfl ?_
    refine ev_ireturn dX8_leadsTo_42 rfl rfl (by constructor <;> omega) ?_
    first | exact ⟨_, rfl, rfl, by rw [hld, if_pos h_9], o2⟩ | exact ⟨_, rfl, rfl, by rw [hld, hL.2 h_23], o2⟩ | exact ⟨_, rfl, rfl, by rw [hld], o2⟩
  · obtain ⟨r, hr⟩ : ∃ r : Nat, winV v e p = r := ⟨(winV v e p).toNat, by omega⟩
    rw [if_neg h_9, hr, Int.toNat_natCast] at hld
    have hE := hA1.2.2.2.2 r p (by omega) (by omega)
    have hL := agE_l hE
    have hD := agE_d hE
    have hy := sy_N r p
    rw [hr]
    refine ev_aload_0 (q := 13) dX8_leadsTo_12 rfl ?_
    refine ev_getR (q := 16) dX8_leadsTo_13 fl_RX8_7 (by first | assumption | rfl) (by rfl) rfl ?_
    refine ev_iload_3 (q := 17) dX8_leadsTo_16 rfl ?_
    refine ev_iload_2 (q := 18) dX8_leadsTo_17 rfl ?_
    refine ev_callS2i (q := 21) dX8_leadsTo_18 ss_RX8_78 (c_X8_says (by omega) (by omega)) (by decide) (Nat.le_of_ble_eq_true rfl) rfl (fun h_18 => ?_)
    refine ev_iaload (q := 22) dX8_leadsTo_21 (by first | assumption | rfl) (by omega) (by first | decide | omega) rfl (fun h_21 => ?_)
    rw [hy.1] at h_21 ⊢
    refine ev_iconst (q := 23) dX8_leadsTo_22 rfl ?_
    refine ev_icmp_ne (t := 41) (q := 26) dX8_leadsTo_23 (by decide) rfl (by constructor <;> omega) (by constructor <;> omega) (fun h_23 => ?_) (fun h_23 => ?_)
    · refine ev_iconst (q := 42) dX8_leadsTo_41 rfl ?_
      refine ev_ireturn dX8_leadsTo_42 rfl rfl (by constructor <;> omega) ?_
      first | exact ⟨_, rfl, rfl, by rw [hld, if_pos h_9], o2⟩ | exact ⟨_, rfl, rfl, by rw [hld, hL.2 h_23], o2⟩ | exact ⟨_, rfl, rfl, by rw [hld], o2⟩
    · refine ev_aload_0 (q := 27) dX8_leadsTo_26 rfl ?_
      refine ev_getR (q := 30) dX8_leadsTo_27 fl_RX8_7 (by first | assumption | rfl) (by rfl) rfl ?_
      refine ev_iload_3 (q := 31) dX8_leadsTo_30 rfl ?_
      refine ev_iload_2 (q := 32) dX8_leadsTo_31 rfl ?_
      refine ev_callS2i (q := 35) dX8_leadsTo_32 ss_RX8_78 (c_X8_says (by omega) (by omega)) (by decide) (Nat.le_of_ble_eq_true rfl) rfl (fun h_32 => ?_)
      refine ev_iconst (q := 36) dX8_leadsTo_35 rfl ?_
      refine ev_iadd (q := 37) dX8_leadsTo_36 rfl ?_
      refine ev_iaload (q := 38) dX8_leadsTo_37 (by first | assumption | rfl) (by omega) (by first | decide | omega) rfl (fun h_37 => ?_)
      rw [hy.2.1] at h_37 ⊢
      rw [hL.1 h_23] at h_37 ⊢
      refine ev_goto (q := 42) dX8_leadsTo_38 (by decide) ?_
      refine ev_ireturn dX8_leadsTo_42 rfl rfl (by constructor <;> omega) ?_
      first | exact ⟨_, rfl, rfl, by rw [hld, if_pos h_9], o2⟩ | exact ⟨_, rfl, rfl, by rw [hld, hL.2 h_23], o2⟩ | exact ⟨_, rfl, rfl, by rw [hld], o2⟩
theorem cyc9 (hW : Wf v) {c : Int} (hc : 8 ≤ c ∧ c ≤ 15) (h : ∀ i, 1 ≤ i → i ≤ 8 → it (ldV v e) i c ≠ c ∧ it (ldV v e) i c ≠ -1) : it (ldV v e) 9 c ≠ c := by
  intro h9
  have hr : ∀ i, i ≤ 8 → 8 ≤ it (ldV v e) i c ∧ it (ldV v e) i c ≤ 15 := by
    intro i
    induction i with
    | zero => intro _; exact hc
    | succ i ih =>
      intro hi
      have h1 := ih (by omega)
      have h2 := ldV_rng hW e (pl := it (ldV v e) i c) (by omega)
      have h3 := (h (i + 1) (by omega) hi).2
      rcases h2 with h2 | h2
      · exact absurd h2 h3
      · exact h2
  obtain ⟨i, j, h1, h2, h3⟩ := pig 8 (fun i => (it (ldV v e) i c - 8).toNat) (fun i hi => by have := hr i hi; omega)
  try dsimp only at h3
  have q1 := hr i (by omega)
  have q2 := hr j h2
  have he : it (ldV v e) i c = it (ldV v e) j c := by omega
  have e1 : it (ldV v e) 9 c = it (ldV v e) (9 - j) (it (ldV v e) j c) := by rw [← it_add]; congr 1; omega
  have e2 : it (ldV v e) (9 - j + i) c = it (ldV v e) (9 - j) (it (ldV v e) i c) := it_add _ _ _ _
  rw [he, ← e1, h9] at e2
  exact (h (9 - j + i) (by omega) (by omega)).1 e2
set_option maxHeartbeats 1000000 in
theorem lp_cycleOf {c : Int} (hA : Ag (M 101) v) (hW : Wf v) (he : (e : Int) < vel v) (hc : 8 ≤ c ∧ c ≤ 15) : ∀ (m n : Nat) (x y z : Int) (M1 : ev_M), x = n → n + m = 9 → 1 ≤ n → O9 M M1 → y = it (ldV v e) n c → (∀ i, 1 ≤ i → i < n → it (ldV v e) i c ≠ c ∧ it (ldV v e) i c ≠ -1) → (y = -1 ∨ 8 ≤ y ∧ y ≤ 15) → (z = cycV v e c) → (n ≤ 8 → z = if y = c then x else cyL (ldV v e) c (8 - n) y (x + 1)) → (n = 9 → z = 0) → Ev l none 6 kX8_cycleOf (0, 0) S0 M1 10 [some (vr 100), some (vi (e : Int)), some (vi c), some (vi x), some (vi y)] [] (QI S0 (fun y M2 => y = cycV v e c ∧ O9 M M2)) := by
  intro m
  induction m with
  | zero =>
    intro n x y z M1 hx hn hn1 h1 hy hi hyr hz hz8 hz9
    have e9 : n = 9 := by omega
    have hyc : y ≠ c := by
      rw [hy, e9]
      exact cyc9 hW hc (fun i a b => hi i a (by omega))
    refine ev_iload_4 (q := 12) dX8_cycleOf_10 rfl ?_
    refine ev_iconst (q := 13) dX8_cycleOf_12 rfl ?_
    refine ev_icmp_eq (t := 43) (q := 16) dX8_cycleOf_13 (by decide) rfl (by constructor <;> omega) (by constructor <;> omega) (fun h_13 => ?_) (fun h_13 => ?_)
    · refine ev_iload_4 (q := 45) dX8_cycleOf_43 rfl ?_
      refine ev_iload_2 (q := 46) dX8_cycleOf_45 rfl ?_
      refine ev_icmp_ne (t := 53) (q := 49) dX8_cycleOf_46 (by decide) rfl (by constructor <;> omega) (by constructor <;> omega) (fun h_46 => ?_) (fun h_46 => ?_)
      · refine ev_iconst (q := 54) dX8_cycleOf_53 rfl ?_
        refine ev_ireturn dX8_cycleOf_54 rfl rfl (by constructor <;> omega) ?_
        first | exact absurd h_46 (by omega) | exact ⟨_, rfl, rfl, by rw [← hz, hz9 e9], h1⟩
      · refine ev_iload_3 (q := 50) dX8_cycleOf_49 rfl ?_
        refine ev_goto (q := 54) dX8_cycleOf_50 (by decide) ?_
        refine ev_ireturn dX8_cycleOf_54 rfl rfl (by constructor <;> omega) ?_
        first | exact absurd h_46 (by omega) | exact ⟨_, rfl, rfl, by rw [← hz, hz9 e9], h1⟩
    · refine ev_iload_4 (q := 18) dX8_cycleOf_16 rfl ?_
      refine ev_iload_2 (q := 19) dX8_cycleOf_18 rfl ?_
      refine ev_icmp_eq (t := 43) (q := 22) dX8_cycleOf_19 (by decide) rfl (by constructor <;> omega) (by constructor <;> omega) (fun h_19 => ?_) (fun h_19 => ?_)
      · refine ev_iload_4 (q := 45) dX8_cycleOf_43 rfl ?_
        refine ev_iload_2 (q := 46) dX8_cycleOf_45 rfl ?_
        refine ev_icmp_ne (t := 53) (q := 49) dX8_cycleOf_46 (by decide) rfl (by constructor <;> omega) (by constructor <;> omega) (fun h_46 => ?_) (fun h_46 => ?_)
        · refine ev_iconst (q := 54) dX8_cycleOf_53 rfl ?_
          refine ev_ireturn dX8_cycleOf_54 rfl rfl (by constructor <;> omega) ?_
          first | exact absurd h_46 (by omega) | exact ⟨_, rfl, rfl, by rw [← hz, hz9 e9], h1⟩
        · refine ev_iload_3 (q := 50) dX8_cycleOf_49 rfl ?_
          refine ev_goto (q := 54) dX8_cycleOf_50 (by decide) ?_
          refine ev_ireturn dX8_cycleOf_54 rfl rfl (by constructor <;> omega) ?_
          first | exact absurd h_46 (by omega) | exact ⟨_, rfl, rfl, by rw [← hz, hz9 e9], h1⟩
      · refine ev_iload_3 (q := 23) dX8_cycleOf_22 rfl ?_
        refine ev_bipush (q := 25) dX8_cycleOf_23 rfl (by decide) ?_
        refine ev_icmp_gt (t := 43) (q := 28) dX8_cycleOf_25 (by decide) rfl (by constructor <;> omega) (by constructor <;> omega) (fun h_25 => ?_) (fun h_25 => ?_)
        · refine ev_iload_4 (q := 45) dX8_cycleOf_43 rfl ?_
          refine ev_iload_2 (q := 46) dX8_cycleOf_45 rfl ?_
          refine ev_icmp_ne (t := 53) (q := 49) dX8_cycleOf_46 (by decide) rfl (by constructor <;> omega) (by constructor <;> omega) (fun h_46 => ?_) (fun h_46 => ?_)
          · refine ev_iconst (q := 54) dX8_cycleOf_53 rfl ?_
            refine ev_ireturn dX8_cycleOf_54 rfl rfl (by constructor <;> omega) ?_
            first | exact absurd h_46 (by omega) | exact ⟨_, rfl, rfl, by rw [← hz, hz9 e9], h1⟩
          · refine ev_iload_3 (q := 50) dX8_cycleOf_49 rfl ?_
            refine ev_goto (q := 54) dX8_cycleOf_50 (by decide) ?_
            refine ev_ireturn dX8_cycleOf_54 rfl rfl (by constructor <;> omega) ?_
            first | exact absurd h_46 (by omega) | exact ⟨_, rfl, rfl, by rw [← hz, hz9 e9], h1⟩
        · omega
  | succ m ih =>
    intro n x y z M1 hx hn hn1 h1 hy hi hyr hz hz8 hz9
    have hz8 := hz8 (by omega)
    have hA1 := h1.ag hA
    refine ev_iload_4 (q := 12) dX8_cycleOf_10 rfl ?_
    refine ev_iconst (q := 13) dX8_cycleOf_12 rfl ?_
    refine ev_icmp_eq (t := 43) (q := 16) dX8_cycleOf_13 (by decide) rfl (by constructor <;> omega) (by constructor <;> omega) (fun h_13 => ?_) (fun h_13 => ?_)
    · refine ev_iload_4 (q := 45) dX8_cycleOf_43 rfl ?_
      refine ev_iload_2 (q := 46) dX8_cycleOf_45 rfl ?_
      refine ev_icmp_ne (t := 53) (q := 49) dX8_cycleOf_46 (by decide) rfl (by constructor <;> omega) (by constructor <;> omega) (fun h_46 => ?_) (fun h_46 => ?_)
      · refine ev_iconst (q := 54) dX8_cycleOf_53 rfl ?_
        refine ev_ireturn dX8_cycleOf_54 rfl rfl (by constructor <;> omega) ?_
        first
        | exact ⟨_, rfl, rfl, by rw [← hz, hz8, if_pos h_46], h1⟩
        | exact ⟨_, rfl, rfl, by rw [← hz, hz8, if_neg h_46, h_13]; unfold cyL; (split <;> rfl), h1⟩
        | omega
      · refine ev_iload_3 (q := 50) dX8_cycleOf_49 rfl ?_
        refine ev_goto (q := 54) dX8_cycleOf_50 (by decide) ?_
        refine ev_ireturn dX8_cycleOf_54 rfl rfl (by constructor <;> omega) ?_
        first
        | exact ⟨_, rfl, rfl, by rw [← hz, hz8, if_pos h_46], h1⟩
        | exact ⟨_, rfl, rfl, by rw [← hz, hz8, if_neg h_46, h_13]; unfold cyL; (split <;> rfl), h1⟩
        | omega
    · refine ev_iload_4 (q := 18) dX8_cycleOf_16 rfl ?_
      refine ev_iload_2 (q := 19) dX8_cycleOf_18 rfl ?_
      refine ev_icmp_eq (t := 43) (q := 22) dX8_cycleOf_19 (by decide) rfl (by constructor <;> omega) (by constructor <;> omega) (fun h_19 => ?_) (fun h_19 => ?_)
      · refine ev_iload_4 (q := 45) dX8_cycleOf_43 rfl ?_
        refine ev_iload_2 (q := 46) dX8_cycleOf_45 rfl ?_
        refine ev_icmp_ne (t := 53) (q := 49) dX8_cycleOf_46 (by decide) rfl (by constructor <;> omega) (by constructor <;> omega) (fun h_46 => ?_) (fun h_46 => ?_)
        · refine ev_iconst (q := 54) dX8_cycleOf_53 rfl ?_
          refine ev_ireturn dX8_cycleOf_54 rfl rfl (by constructor <;> omega) ?_
          first
          | exact ⟨_, rfl, rfl, by rw [← hz, hz8, if_pos h_46], h1⟩
          | exact ⟨_, rfl, rfl, by rw [← hz, hz8, if_neg h_46, h_13]; unfold cyL; (split <;> rfl), h1⟩
          | omega
        · refine ev_iload_3 (q := 50) dX8_cycleOf_49 rfl ?_
          refine ev_goto (q := 54) dX8_cycleOf_50 (by decide) ?_
          refine ev_ireturn dX8_cycleOf_54 rfl rfl (by constructor <;> omega) ?_
          first
          | exact ⟨_, rfl, rfl, by rw [← hz, hz8, if_pos h_46], h1⟩
          | exact ⟨_, rfl, rfl, by rw [← hz, hz8, if_neg h_46, h_13]; unfold cyL; (split <;> rfl), h1⟩
          | omega
      · refine ev_iload_3 (q := 23) dX8_cycleOf_22 rfl ?_
        refine ev_bipush (q := 25) dX8_cycleOf_23 rfl (by decide) ?_
        refine ev_icmp_gt (t := 43) (q := 28) dX8_cycleOf_25 (by decide) rfl (by constructor <;> omega) (by constructor <;> omega) (fun h_25 => ?_) (fun h_25 => ?_)
        · refine ev_iload_4 (q := 45) dX8_cycleOf_43 rfl ?_
          refine ev_iload_2 (q := 46) dX8_cycleOf_45 rfl ?_
          refine ev_icmp_ne (t := 53) (q := 49) dX8_cycleOf_46 (by decide) rfl (by constructor <;> omega) (by constructor <;> omega) (fun h_46 => ?_) (fun h_46 => ?_)
          · refine ev_iconst (q := 54) dX8_cycleOf_53 rfl ?_
            refine ev_ireturn dX8_cycleOf_54 rfl rfl (by constructor <;> omega) ?_
            first
            | exact ⟨_, rfl, rfl, by rw [← hz, hz8, if_pos h_46], h1⟩
            | exact ⟨_, rfl, rfl, by rw [← hz, hz8, if_neg h_46, h_13]; unfold cyL; (split <;> rfl), h1⟩
            | omega
          · refine ev_iload_3 (q := 50) dX8_cycleOf_49 rfl ?_
            refine ev_goto (q := 54) dX8_cycleOf_50 (by decide) ?_
            refine ev_ireturn dX8_cycleOf_54 rfl rfl (by constructor <;> omega) ?_
            first
            | exact ⟨_, rfl, rfl, by rw [← hz, hz8, if_pos h_46], h1⟩
            | exact ⟨_, rfl, rfl, by rw [← hz, hz8, if_neg h_46, h_13]; unfold cyL; (split <;> rfl), h1⟩
            | omega
        · refine ev_aload_0 (q := 29) dX8_cycleOf_28 rfl ?_
          refine ev_iload_1 (q := 30) dX8_cycleOf_29 rfl ?_
          refine ev_iload_4 (q := 32) dX8_cycleOf_30 rfl ?_
          refine ev_callV2iR (q := 35) dX8_cycleOf_32 vs_RX8_121 (by first | assumption | rfl) (c_X8_leadsTo hA1 hW he (by omega)) (by decide) (Nat.le_of_ble_eq_true rfl) rfl (fun x_32 M_32 hq_32 h_32 => ?_)
          obtain ⟨rfl, o2⟩ := hq_32
          refine ev_istore_4 (q := 37) dX8_cycleOf_35 rfl (by decide) ?_
          refine ev_iinc_3 (q := 40) dX8_cycleOf_37 rfl (by decide) ?_
          refine ev_goto (q := 10) dX8_cycleOf_40 (by decide) ?_
          refine ih (n + 1) _ _ z _ (by omega) (by omega) (by omega) (h1.trans o2) (by rw [hy]; rfl) (fun i a b => ?_) (ldV_rng hW e (by omega)) hz (fun q => ?_) (fun q => ?_)
          · by_cases q : i < n
            · exact hi i a q
            · have : i = n := by omega
              rw [this, ← hy]
              exact ⟨h_19, h_13⟩
          · rw [hz8, if_neg h_19, show 8 - n = (8 - (n + 1)) + 1 by omega, cyL, if_neg h_13]
          · rw [hz8, if_neg h_19, show 8 - n = 0 by omega]
            rfl
set_option maxHeartbeats 1000000 in
theorem c_X8_cycleOf {c : Int} (hA : Ag (M 101) v) (hW : Wf v) (he : (e : Int) < vel v) (hc : 8 ≤ c ∧ c ≤ 15) : Ri l 6 kX8_cycleOf yX8_cycleOf S0 M [vr 100, vi (e : Int), vi c] (fun y M2 => y = cycV v e c ∧ O9 M M2) := by
  refine Ri.of (by decide) rfl (by decide) (Nat.le_of_ble_eq_true rfl) ?_
  refine (show Ev _ none _ _ _ _ _ 0 [_, _, _, _, _] [] _ from ?_)
  refine ev_iconst (q := 1) dX8_cycleOf_0 rfl ?_
  refine ev_istore_3 (q := 2) dX8_cycleOf_1 rfl (by decide) ?_
  refine ev_aload_0 (q := 3) dX8_cycleOf_2 rfl ?_
  refine ev_iload_1 (q := 4) dX8_cycleOf_3 rfl ?_
  refine ev_iload_2 (q := 5) dX8_cycleOf_4 rfl ?_
  refine ev_callV2iR (q := 8) dX8_cycleOf_5 vs_RX8_121 (by first | assumption | rfl) (c_X8_leadsTo hA hW he (by omega)) (by decide) (Nat.le_of_ble_eq_true rfl) rfl (fun x_5 M_5 hq_5 h_5 => ?_)
  obtain ⟨rfl, o2⟩ := hq_5
  refine ev_istore_4 (q := 10) dX8_cycleOf_8 rfl (by decide) ?_
  refine lp_cycleOf hA hW he hc 8 1 _ _ _ _ rfl rfl (by decide) o2 rfl (fun i a b => by omega) (ldV_rng hW e (by omega)) rfl (fun _ => ?_) (fun q => by omega)
  unfold cycV
  show cyL (ldV v e) c 8 c 1 = _
  rw [cyL, if_neg (by omega)]
set_option maxHeartbeats 1000000 in
theorem lp_X8_cycles (hA : Ag (M 101) v) (hW : Wf v) (he : (e : Int) < vel v) : ∀ (n j : Nat) (x y : Int) (M1 : ev_M), x = 8 + (j : Int) → j + n = 8 → y = cnt (fun q => decide (cycV v e (8 + (q : Int)) > 0)) j → O9 M M1 → Ev l none 7 kX8_cycles (0, 0) S0 M1 5 [some (vr 100), some (vi (e : Int)), some (vi y), some (vi x)] [] (QI S0 (fun y M2 => y = ccV v e ∧ O9 M M2)) := by
  intro n
  induction n with
  | zero =>
    intro j x y M1 hx hn hy h1
    have hj : j = 8 := by omega
    have hc := cnt_rng (fun q => decide (cycV v e (8 + (q : Int)) > 0)) j
    subst hj
    refine ev_iload_3 (q := 6) dX8_cycles_5 rfl ?_
    refine ev_bipush (q := 8) dX8_cycles_6 rfl (by decide) ?_
    refine ev_icmp_ge (t := 34) (q := 11) dX8_cycles_8 (by decide) rfl (by constructor <;> omega) (by constructor <;> omega) (fun h_8 => ?_) (fun h_8 => ?_)
    · refine ev_iload_2 (q := 35) dX8_cycles_34 rfl ?_
      refine ev_ireturn dX8_cycles_35 rfl rfl (by constructor <;> omega) ?_
      exact ⟨_, rfl, rfl, hy, h1⟩
    · omega
  | succ n ih =>
    intro j x y M1 hx hn hy h1
    have hA1 := h1.ag hA
    have hc := cnt_rng (fun q => decide (cycV v e (8 + (q : Int)) > 0)) j
    refine ev_iload_3 (q := 6) dX8_cycles_5 rfl ?_
    refine ev_bipush (q := 8) dX8_cycles_6 rfl (by decide) ?_
    refine ev_icmp_ge (t := 34) (q := 11) dX8_cycles_8 (by decide) rfl (by constructor <;> omega) (by constructor <;> omega) (fun h_8 => ?_) (fun h_8 => ?_)
    · refine ev_iload_2 (q := 35) dX8_cycles_34 rfl ?_
      refine ev_ireturn dX8_cycles_35 rfl rfl (by constructor <;> omega) ?_
      omega
    · refine ev_iload_2 (q := 12) dX8_cycles_11 rfl ?_
      refine ev_aload_0 (q := 13) dX8_cycles_12 rfl ?_
      refine ev_iload_1 (q := 14) dX8_cycles_13 rfl ?_
      refine ev_iload_3 (q := 15) dX8_cycles_14 rfl ?_
      refine ev_callV2iR (q := 18) dX8_cycles_15 vs_RX8_68 (by first | assumption | rfl) (c_X8_cycleOf hA1 hW he (by omega)) (by decide) (Nat.le_of_ble_eq_true rfl) rfl (fun x_15 M_15 hq_15 h_15 => ?_)
      obtain ⟨rfl, o2⟩ := hq_15
      refine ev_if_le (t := 25) (q := 21) dX8_cycles_18 (by decide) rfl (by constructor <;> omega) (fun h_18 => ?_) (fun h_18 => ?_)
      · refine ev_iconst (q := 26) dX8_cycles_25 rfl ?_
        refine ev_iadd (q := 27) dX8_cycles_26 rfl ?_
        refine ev_istore_2 (q := 28) dX8_cycles_27 rfl (by decide) ?_
        refine ev_iinc_3 (q := 31) dX8_cycles_28 rfl (by decide) ?_
        refine ev_goto (q := 5) dX8_cycles_31 (by decide) ?_
        refine ih (j + 1) _ _ _ (by omega) (by omega) ?_ (h1.trans o2)
        unfold cnt
        rw [hy, ← hx]
        first | (rw [if_pos (decide_eq_true (by omega))]; done) | (rw [if_neg (fun q => absurd (of_decide_eq_true q) (by omega))])
      · refine ev_iconst (q := 22) dX8_cycles_21 rfl ?_
        refine ev_goto (q := 26) dX8_cycles_22 (by decide) ?_
        refine ev_iadd (q := 27) dX8_cycles_26 rfl ?_
        refine ev_istore_2 (q := 28) dX8_cycles_27 rfl (by decide) ?_
        refine ev_iinc_3 (q := 31) dX8_cycles_28 rfl (by decide) ?_
        refine ev_goto (q := 5) dX8_cycles_31 (by decide) ?_
        refine ih (j + 1) _ _ _ (by omega) (by omega) ?_ (h1.trans o2)
        unfold cnt
        rw [hy, ← hx]
        first | (rw [if_pos (decide_eq_true (by omega))]; done) | (rw [if_neg (fun q => absurd (of_decide_eq_true q) (by omega))])
set_option maxHeartbeats 1000000 in
theorem c_X8_cycles (hA : Ag (M 101) v) (hW : Wf v) (he : (e : Int) < vel v) : Ri l 7 kX8_cycles yX8_cycles S0 M [vr 100, vi (e : Int)] (fun y M2 => y = ccV v e ∧ O9 M M2) := by
  refine Ri.of (by decide) rfl (by decide) (Nat.le_of_ble_eq_true rfl) ?_
  refine (show Ev _ none _ _ _ _ _ 0 [_, _, _, _] [] _ from ?_)
  refine ev_iconst (q := 1) dX8_cycles_0 rfl ?_
  refine ev_istore_2 (q := 2) dX8_cycles_1 rfl (by decide) ?_
  refine ev_bipush (q := 4) dX8_cycles_2 rfl (by decide) ?_
  refine ev_istore_3 (q := 5) dX8_cycles_4 rfl (by decide) ?_
  exact lp_X8_cycles hA hW he 8 0 _ _ _ rfl rfl rfl (fun _ _ => rfl)
end Cyc

