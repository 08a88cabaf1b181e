section MQ
variable {l : Launch} {M : ev_M} {v : Vw}
theorem Mq.rfl' : Mq M M := fun _ _ _ _ _ => rfl
theorem Mq.ag {M2 : ev_M} (h : Mq M M2) (hA : Ag (M 101) v) : Ag (M2 101) v := by rw [h 101 (by decide) (by decide) (by decide) (by decide)]; exact hA
set_option maxHeartbeats 2000000 in
theorem m_value {e p : Int} (hA : Ag (M 101) v) (hW : Wf v) (he : inR e) (hp : inR p) : Ri l 9 kX8_value yX8_value S0 M [vr 100, vi e, vi p] (fun x M2 => ((¬ ((0 ≤ e ∧ e < vel v) ∧ 0 ≤ p ∧ p ≤ 15) ∧ x = -11) ∨ (((0 ≤ e ∧ e < vel v) ∧ 0 ≤ p ∧ p ≤ 15) ∧ x = vaV v e.toNat p.toNat)) ∧ Mq M M2) := by
  have h1 := hW.1
  have hn := hA.1
  refine Ri.of (by decide) rfl (by decide) (Nat.le_of_ble_eq_true rfl) ?_
  refine (show Ev _ none _ _ _ _ _ 0 [_, _, _, _] [] _ from ?_)
  refine ev_aload_0 (q := 1) dX8_value_0 rfl ?_
  refine ev_iload_1 (q := 2) dX8_value_1 rfl ?_
  refine ev_callV1i (q := 5) dX8_value_2 vs_RX8_47 (by first | assumption | rfl) (c_X8_isElement (by constructor <;> omega) (by omega)) (by decide) (Nat.le_of_ble_eq_true rfl) rfl (fun h_2 => ?_)
  refine ev_b_eq (t := 15) (q := 8) dX8_value_5 (by decide) rfl (fun h_5 => ?_) (fun h_5 => ?_)
  · refine ev_bipush (q := 17) dX8_value_15 rfl (by decide) ?_
    refine ev_ireturn dX8_value_17 rfl rfl (by constructor <;> omega) ?_
    exact ⟨_, rfl, rfl, Or.inl ⟨by omega, rfl⟩, Mq.rfl'⟩
  · refine ev_iload_2 (q := 9) dX8_value_8 rfl ?_
    refine ev_callS1i (q := 12) dX8_value_9 ss_RX8_98 (c_X8_isProperty (by constructor <;> omega)) (by decide) (Nat.le_of_ble_eq_true rfl) rfl (fun h_9 => ?_)
    refine ev_b_ne (t := 18) (q := 15) dX8_value_12 (by decide) rfl (fun h_12 => ?_) (fun h_12 => ?_)
    · obtain ⟨e', rfl⟩ : ∃ e' : Nat, e = e' := ⟨e.toNat, by omega⟩
      obtain ⟨p', rfl⟩ : ∃ p' : Nat, p = p' := ⟨p.toNat, by omega⟩
      refine ev_aload_0 (q := 19) dX8_value_18 rfl ?_
      refine ev_iload_1 (q := 20) dX8_value_19 rfl ?_
      refine ev_callV1vR (q := 23) dX8_value_20 vs_RX8_135 (by first | assumption | rfl) (c_X8_settlesTo hA hW (by omega)) (by decide) (Nat.le_of_ble_eq_true rfl) rfl (fun M_20 hq_20 => ?_)
      refine ev_aload_0 (q := 24) dX8_value_23 rfl ?_
      refine ev_getR (q := 27) dX8_value_24 fl_RX8_26 (by first | assumption | rfl) (by rfl) rfl ?_
      refine ev_bipush (q := 29) dX8_value_27 rfl (by decide) ?_
      refine ev_iload_1 (q := 30) dX8_value_29 rfl ?_
      refine ev_imul (q := 31) dX8_value_30 rfl ?_
      refine ev_iload_2 (q := 32) dX8_value_31 rfl ?_
      refine ev_iadd (q := 33) dX8_value_32 rfl ?_
      refine ev_iaload (q := 34) dX8_value_33 (by first | assumption | rfl) (by omega) (by first | decide | omega) rfl (fun h_33 => ?_)
      have hg := (hq_20.2 e' (by omega) (stp_self (by omega)) p' (by omega)).1
      rw [show (16 * (e' : Int) + (p' : Int)).toNat = 16 * e' + p' by omega, hg] at h_33 ⊢
      have hva : vaV v e' p' = if nz p' (Tv v e' p') = -1 then -14 else nz p' (Tv v e' p') := by
        unfold vaV nz Tv
        by_cases q : (slv v 17 e' p').1 = -1
        · rw [if_pos q]
          by_cases q8 : 8 ≤ p'
          · rw [if_pos q8, if_neg (show ¬ (p' < 8 ∧ (slv v 17 e' p').1 = -1) by omega), if_pos q]
          · rw [if_neg q8, if_pos (show p' < 8 ∧ (slv v 17 e' p').1 = -1 by omega)]; rfl
        · rw [if_neg q, if_neg (show ¬ (p' < 8 ∧ (slv v 17 e' p').1 = -1) by omega), if_neg q]
      refine ev_istore_3 (q := 35) dX8_value_34 rfl (by decide) ?_
      refine ev_iload_3 (q := 36) dX8_value_35 rfl ?_
      refine ev_iconst (q := 37) dX8_value_36 rfl ?_
      refine ev_icmp_ne (t := 45) (q := 40) dX8_value_37 (by decide) rfl (by constructor <;> omega) (by constructor <;> omega) (fun h_37 => ?_) (fun h_37 => ?_)
      · refine ev_iload_3 (q := 46) dX8_value_45 rfl ?_
        refine ev_ireturn dX8_value_46 rfl rfl (by constructor <;> omega) ?_
        first | exact ⟨_, rfl, rfl, Or.inr ⟨by omega, by rw [Int.toNat_natCast, Int.toNat_natCast, hva, if_pos h_37]⟩, hq_20.1⟩ | exact ⟨_, rfl, rfl, Or.inr ⟨by omega, by rw [Int.toNat_natCast, Int.toNat_natCast, hva, if_neg h_37]⟩, hq_20.1⟩
      · refine ev_bipush (q := 42) dX8_value_40 rfl (by decide) ?_
        refine ev_goto (q := 46) dX8_value_42 (by decide) ?_
        refine ev_ireturn dX8_value_46 rfl rfl (by constructor <;> omega) ?_
        first | exact ⟨_, rfl, rfl, Or.inr ⟨by omega, by rw [Int.toNat_natCast, Int.toNat_natCast, hva, if_pos h_37]⟩, hq_20.1⟩ | exact ⟨_, rfl, rfl, Or.inr ⟨by omega, by rw [Int.toNat_natCast, Int.toNat_natCast, hva, if_neg h_37]⟩, hq_20.1⟩
    · refine ev_bipush (q := 17) dX8_value_15 rfl (by decide) ?_
      refine ev_ireturn dX8_value_17 rfl rfl (by constructor <;> omega) ?_
      exact ⟨_, rfl, rfl, Or.inl ⟨by omega, rfl⟩, Mq.rfl'⟩
set_option maxHeartbeats 2000000 in
theorem m_winner {e p : Int} (hA : Ag (M 101) v) (hW : Wf v) (he : inR e) (hp : inR p) : Ri l 9 kX8_winner yX8_winner S0 M [vr 100, vi e, vi p] (fun x M2 => ((¬ ((0 ≤ e ∧ e < vel v) ∧ 0 ≤ p ∧ p ≤ 15) ∧ x = -11) ∨ (((0 ≤ e ∧ e < vel v) ∧ 0 ≤ p ∧ p ≤ 15) ∧ x = if winV v e.toNat p.toNat = -1 then -14 else winV v e.toNat p.toNat)) ∧ Mq M M2) := by
  have h1 := hW.1
  have hn := hA.1
  refine Ri.of (by decide) rfl (by decide) (Nat.le_of_ble_eq_true rfl) ?_
  refine (show Ev _ none _ _ _ _ _ 0 [_, _, _, _] [] _ from ?_)
  refine ev_aload_0 (q := 1) dX8_winner_0 rfl ?_
  refine ev_iload_1 (q := 2) dX8_winner_1 rfl ?_
  refine ev_callV1i (q := 5) dX8_winner_2 vs_RX8_47 (by first | assumption | rfl) (c_X8_isElement (by constructor <;> omega) (by omega)) (by decide) (Nat.le_of_ble_eq_true rfl) rfl (fun h_2 => ?_)
  refine ev_b_eq (t := 15) (q := 8) dX8_winner_5 (by decide) rfl (fun h_5 => ?_) (fun h_5 => ?_)
  · refine ev_bipush (q := 17) dX8_winner_15 rfl (by decide) ?_
    refine ev_ireturn dX8_winner_17 rfl rfl (by constructor <;> omega) ?_
    exact ⟨_, rfl, rfl, Or.inl ⟨by omega, rfl⟩, Mq.rfl'⟩
  · refine ev_iload_2 (q := 9) dX8_winner_8 rfl ?_
    refine ev_callS1i (q := 12) dX8_winner_9 ss_RX8_98 (c_X8_isProperty (by constructor <;> omega)) (by decide) (Nat.le_of_ble_eq_true rfl) rfl (fun h_9 => ?_)
    refine ev_b_ne (t := 18) (q := 15) dX8_winner_12 (by decide) rfl (fun h_12 => ?_) (fun h_12 => ?_)
    · obtain ⟨e', rfl⟩ : ∃ e' : Nat, e = e' := ⟨e.toNat, by omega⟩
      obtain ⟨p', rfl⟩ : ∃ p' : Nat, p = p' := ⟨p.toNat, by omega⟩
      refine ev_aload_0 (q := 19) dX8_winner_18 rfl ?_
      refine ev_iload_1 (q := 20) dX8_winner_19 rfl ?_
      refine ev_iload_2 (q := 21) dX8_winner_20 rfl ?_
      refine ev_callV2iR (q := 24) dX8_winner_21 vs_RX8_118 (by first | assumption | rfl) (c_X8_winnerOf hA hW (by omega) (by omega)) (by decide) (Nat.le_of_ble_eq_true rfl) rfl (fun x_21 M_21 hq_21 h_21 => ?_)
      obtain ⟨rfl, o2⟩ := hq_21
      refine ev_istore_3 (q := 25) dX8_winner_24 rfl (by decide) ?_
      refine ev_iload_3 (q := 26) dX8_winner_25 rfl ?_
      refine ev_iconst (q := 27) dX8_winner_26 rfl ?_
      refine ev_icmp_ne (t := 35) (q := 30) dX8_winner_27 (by decide) rfl (by constructor <;> omega) (by constructor <;> omega) (fun h_27 => ?_) (fun h_27 => ?_)
      · refine ev_iload_3 (q := 36) dX8_winner_35 rfl ?_
        refine ev_ireturn dX8_winner_36 rfl rfl (by constructor <;> omega) ?_
        first | exact ⟨_, rfl, rfl, Or.inr ⟨by omega, by rw [Int.toNat_natCast, Int.toNat_natCast, if_pos h_27]⟩, o2.q⟩ | exact ⟨_, rfl, rfl, Or.inr ⟨by omega, by rw [Int.toNat_natCast, Int.toNat_natCast, if_neg h_27]⟩, o2.q⟩
      · refine ev_bipush (q := 32) dX8_winner_30 rfl (by decide) ?_
        refine ev_goto (q := 36) dX8_winner_32 (by decide) ?_
        refine ev_ireturn dX8_winner_36 rfl rfl (by constructor <;> omega) ?_
        first | exact ⟨_, rfl, rfl, Or.inr ⟨by omega, by rw [Int.toNat_natCast, Int.toNat_natCast, if_pos h_27]⟩, o2.q⟩ | exact ⟨_, rfl, rfl, Or.inr ⟨by omega, by rw [Int.toNat_natCast, Int.toNat_natCast, if_neg h_27]⟩, o2.q⟩
    · refine ev_bipush (q := 17) dX8_winner_15 rfl (by decide) ?_
      refine ev_ireturn dX8_winner_17 rfl rfl (by constructor <;> omega) ?_
      exact ⟨_, rfl, rfl, Or.inl ⟨by omega, rfl⟩, Mq.rfl'⟩
set_option maxHeartbeats 2000000 in
theorem m_cycle {e p : Int} (hA : Ag (M 101) v) (hW : Wf v) (he : inR e) (hp : inR p) : Ri l 9 kX8_cycle yX8_cycle S0 M [vr 100, vi e, vi p] (fun x M2 => ((¬ ((0 ≤ e ∧ e < vel v) ∧ 8 ≤ p ∧ p ≤ 15) ∧ x = -11) ∨ (((0 ≤ e ∧ e < vel v) ∧ 8 ≤ p ∧ p ≤ 15) ∧ x = cycV v e.toNat p)) ∧ Mq M M2) := by
  have h1 := hW.1
  have hn := hA.1
  refine Ri.of (by decide) rfl (by decide) (Nat.le_of_ble_eq_true rfl) ?_
  refine (show Ev _ none _ _ _ _ _ 0 [_, _, _] [] _ from ?_)
  refine ev_aload_0 (q := 1) dX8_cycle_0 rfl ?_
  refine ev_iload_1 (q := 2) dX8_cycle_1 rfl ?_
  refine ev_callV1i (q := 5) dX8_cycle_2 vs_RX8_47 (by first | assumption | rfl) (c_X8_isElement (by constructor <;> omega) (by omega)) (by decide) (Nat.le_of_ble_eq_true rfl) rfl (fun h_2 => ?_)
  refine ev_b_eq (t := 28) (q := 8) dX8_cycle_5 (by decide) rfl (fun h_5 => ?_) (fun h_5 => ?_)
  · refine ev_bipush (q := 30) dX8_cycle_28 rfl (by decide) ?_
    refine ev_ireturn dX8_cycle_30 rfl rfl (by constructor <;> omega) ?_
    first | exact ⟨_, rfl, rfl, Or.inr ⟨by omega, by rw [Int.toNat_natCast]⟩, o2.q⟩ | exact ⟨_, rfl, rfl, Or.inl ⟨by omega, rfl⟩, Mq.rfl'⟩
  · refine ev_iload_2 (q := 9) dX8_cycle_8 rfl ?_
    refine ev_bipush (q := 11) dX8_cycle_9 rfl (by decide) ?_
    refine ev_bipush (q := 13) dX8_cycle_11 rfl (by decide) ?_
    refine ev_callS3i (q := 16) dX8_cycle_13 ss_RX8_39 (c_X8_in (by constructor <;> omega) (by constructor <;> omega) (by constructor <;> omega)) (by decide) (Nat.le_of_ble_eq_true rfl) rfl (fun h_13 => ?_)
    refine ev_b_eq (t := 28) (q := 19) dX8_cycle_16 (by decide) rfl (fun h_16 => ?_) (fun h_16 => ?_)
    · refine ev_bipush (q := 30) dX8_cycle_28 rfl (by decide) ?_
      refine ev_ireturn dX8_cycle_30 rfl rfl (by constructor <;> omega) ?_
      first | exact ⟨_, rfl, rfl, Or.inr ⟨by omega, by rw [Int.toNat_natCast]⟩, o2.q⟩ | exact ⟨_, rfl, rfl, Or.inl ⟨by omega, rfl⟩, Mq.rfl'⟩
    · obtain ⟨e', rfl⟩ : ∃ e' : Nat, e = e' := ⟨e.toNat, by omega⟩
      refine ev_aload_0 (q := 20) dX8_cycle_19 rfl ?_
      refine ev_iload_1 (q := 21) dX8_cycle_20 rfl ?_
      refine ev_iload_2 (q := 22) dX8_cycle_21 rfl ?_
      refine ev_callV2iR (q := 25) dX8_cycle_22 vs_RX8_68 (by first | assumption | rfl) (c_X8_cycleOf hA hW (by omega) (by omega)) (by decide) (Nat.le_of_ble_eq_true rfl) rfl (fun x_22 M_22 hq_22 h_22 => ?_)
      obtain ⟨rfl, o2⟩ := hq_22
      refine ev_goto (q := 30) dX8_cycle_25 (by decide) ?_
      refine ev_ireturn dX8_cycle_30 rfl rfl (by constructor <;> omega) ?_
      first | exact ⟨_, rfl, rfl, Or.inr ⟨by omega, by rw [Int.toNat_natCast]⟩, o2.q⟩ | exact ⟨_, rfl, rfl, Or.inl ⟨by omega, rfl⟩, Mq.rfl'⟩
set_option maxHeartbeats 4000000 in
theorem m_why {e p k w : Int} (hA : Ag (M 101) v) (hW : Wf v) (he : inR e) (hp : inR p) (hk : inR k) (hw : inR w) : Ri l 9 kX8_why yX8_why S0 M [vr 100, vi e, vi p, vi k, vi w] (fun x M2 => ((¬ ((0 ≤ e ∧ e < vel v) ∧ (0 ≤ p ∧ p ≤ 15) ∧ 0 ≤ k ∧ 0 ≤ w ∧ w ≤ 1) ∧ x = -11) ∨ (((0 ≤ e ∧ e < vel v) ∧ (0 ≤ p ∧ p ≤ 15) ∧ 0 ≤ k ∧ 0 ≤ w ∧ w ≤ 1) ∧ x = whV v e.toNat p.toNat k w)) ∧ Mq M M2) := by
  have h1 := hW.1
  have h2 := hW.2.1
  have hn := hA.1
  refine Ri.of (by decide) rfl (by decide) (Nat.le_of_ble_eq_true rfl) ?_
  refine (show Ev _ none _ _ _ _ _ 0 [_, _, _, _, _] [] _ from ?_)
  refine ev_aload_0 (q := 1) dX8_why_0 rfl ?_
  refine ev_iload_1 (q := 2) dX8_why_1 rfl ?_
  refine ev_callV1i (q := 5) dX8_why_2 vs_RX8_47 (by first | assumption | rfl) (c_X8_isElement (by constructor <;> omega) (by omega)) (by decide) (Nat.le_of_ble_eq_true rfl) rfl (fun h_2 => ?_)
  refine ev_b_eq (t := 29) (q := 8) dX8_why_5 (by decide) rfl (fun h_5 => ?_) (fun h_5 => ?_)
  · refine ev_bipush (q := 31) dX8_why_29 rfl (by decide) ?_
    refine ev_ireturn dX8_why_31 rfl rfl (by constructor <;> omega) ?_
    exact ⟨_, rfl, rfl, Or.inl ⟨by omega, rfl⟩, Mq.rfl'⟩
  · refine ev_iload_2 (q := 9) dX8_why_8 rfl ?_
    refine ev_callS1i (q := 12) dX8_why_9 ss_RX8_98 (c_X8_isProperty (by constructor <;> omega)) (by decide) (Nat.le_of_ble_eq_true rfl) rfl (fun h_9 => ?_)
    refine ev_b_eq (t := 29) (q := 15) dX8_why_12 (by decide) rfl (fun h_12 => ?_) (fun h_12 => ?_)
    · refine ev_bipush (q := 31) dX8_why_29 rfl (by decide) ?_
      refine ev_ireturn dX8_why_31 rfl rfl (by constructor <;> omega) ?_
      exact ⟨_, rfl, rfl, Or.inl ⟨by omega, rfl⟩, Mq.rfl'⟩
    · refine ev_iload_3 (q := 16) dX8_why_15 rfl ?_
      refine ev_if_lt (t := 29) (q := 19) dX8_why_16 (by decide) rfl (by constructor <;> omega) (fun h_16 => ?_) (fun h_16 => ?_)
      · refine ev_bipush (q := 31) dX8_why_29 rfl (by decide) ?_
        refine ev_ireturn dX8_why_31 rfl rfl (by constructor <;> omega) ?_
        exact ⟨_, rfl, rfl, Or.inl ⟨by omega, rfl⟩, Mq.rfl'⟩
      · refine ev_iload_4 (q := 21) dX8_why_19 rfl ?_
        refine ev_iconst (q := 22) dX8_why_21 rfl ?_
        refine ev_iconst (q := 23) dX8_why_22 rfl ?_
        refine ev_callS3i (q := 26) dX8_why_23 ss_RX8_39 (c_X8_in (by constructor <;> omega) (by constructor <;> omega) (by constructor <;> omega)) (by decide) (Nat.le_of_ble_eq_true rfl) rfl (fun h_23 => ?_)
        refine ev_b_ne (t := 32) (q := 29) dX8_why_26 (by decide) rfl (fun h_26 => ?_) (fun h_26 => ?_)
        · obtain ⟨e', rfl⟩ : ∃ e' : Nat, e = e' := ⟨e.toNat, by omega⟩
          obtain ⟨p', rfl⟩ : ∃ p' : Nat, p = p' := ⟨p.toNat, by omega⟩
          obtain ⟨k', rfl⟩ : ∃ k' : Nat, k = k' := ⟨k.toNat, by omega⟩
          refine ev_iload_3 (q := 33) dX8_why_32 rfl ?_
          refine ev_aload_0 (q := 34) dX8_why_33 rfl ?_
          refine ev_iload_1 (q := 35) dX8_why_34 rfl ?_
          refine ev_iload_2 (q := 36) dX8_why_35 rfl ?_
          refine ev_callV2iR (q := 39) dX8_why_36 vs_RX8_115 (by first | assumption | rfl) (c_X8_orders hA hW (by omega) (by omega)) (by decide) (Nat.le_of_ble_eq_true rfl) rfl (fun x_36 M_36 hq_36 h_36 => ?_)
          obtain ⟨n, rfl, o1, o2⟩ := hq_36
          have hA1 := o2.ag hA
          have hnk := ord_nth hW o1 k'
          have hn16 := o1.1
          refine ev_icmp_lt (t := 45) (q := 42) dX8_why_39 (by decide) rfl (by constructor <;> omega) (by constructor <;> omega) (fun h_39 => ?_) (fun h_39 => ?_)
          · obtain ⟨r, e1, e2, e3⟩ := o1.2.1 k' (by omega)
            rw [if_pos (by omega), e1] at hnk
            have hwh : whV v e' p' k' w = if w = 0 then (r : Int) else if (k' : Int) = 0 then 0 else crV v (nth v e' p' ((k' : Int) - 1).toNat).toNat r e' := by rw [whV, Int.toNat_natCast, hnk, if_neg (by omega), Int.toNat_natCast]
            refine ev_iload_4 (q := 47) dX8_why_45 rfl ?_
            refine ev_if_ne (t := 59) (q := 50) dX8_why_47 (by decide) rfl (by constructor <;> omega) (fun h_47 => ?_) (fun h_47 => ?_)
            · refine ev_iload_3 (q := 60) dX8_why_59 rfl ?_
              refine ev_if_ne (t := 67) (q := 63) dX8_why_60 (by decide) rfl (by constructor <;> omega) (fun h_60 => ?_) (fun h_60 => ?_)
              · refine ev_aload_0 (q := 68) dX8_why_67 rfl ?_
                refine ev_iload_1 (q := 69) dX8_why_68 rfl ?_
                refine ev_aload_0 (q := 70) dX8_why_69 rfl ?_
                refine ev_getR (q := 73) dX8_why_70 fl_RX8_36 (by first | assumption | rfl) (by rfl) rfl ?_
                refine ev_iload_3 (q := 74) dX8_why_73 rfl ?_
                refine ev_iconst (q := 75) dX8_why_74 rfl ?_
                refine ev_isub (q := 76) dX8_why_75 rfl ?_
                refine ev_iaload (q := 77) dX8_why_76 (by first | assumption | rfl) (by omega) (by first | decide | omega) rfl (fun h_76 => ?_)
                obtain ⟨r', f1, f2, f3⟩ := o1.2.1 (k' - 1) (by omega)
                have hs := o1.2.2.2 (k' - 1) k' (by omega) (by omega)
                have hnp := ord_nth hW o1 (k' - 1)
                rw [if_pos (by omega), f1] at hnp
                rw [e1, f1, Int.toNat_natCast, Int.toNat_natCast] at hs
                rw [show ((k' : Int) - 1).toNat = k' - 1 by omega] at h_76 hwh ⊢
                rw [hnp, Int.toNat_natCast] at hwh
                rw [f1] at h_76 ⊢
                refine ev_aload_0 (q := 78) dX8_why_77 rfl ?_
                refine ev_getR (q := 81) dX8_why_78 fl_RX8_36 (by first | assumption | rfl) (by rfl) rfl ?_
                refine ev_iload_3 (q := 82) dX8_why_81 rfl ?_
                refine ev_iaload (q := 83) dX8_why_82 (by first | assumption | rfl) (by omega) (by first | decide | omega) rfl (fun h_82 => ?_)
                rw [Int.toNat_natCast, e1] at h_82 ⊢
                refine ev_callV3i (q := 86) dX8_why_83 vs_RX8_111 (by first | assumption | rfl) (c_X8_wins hA1 hW (by omega) (by omega) (by omega) f3.2 e3.2) (by decide) (Nat.le_of_ble_eq_true rfl) rfl (fun h_83 => ?_)
                refine ev_ireturn dX8_why_86 rfl rfl (by constructor <;> omega) ?_
                first
                | exact ⟨_, rfl, rfl, Or.inr ⟨by omega, by rw [Int.toNat_natCast, Int.toNat_natCast, hwh, if_pos h_47]⟩, o2.q⟩
                | exact ⟨_, rfl, rfl, Or.inr ⟨by omega, by rw [Int.toNat_natCast, Int.toNat_natCast, hwh, if_neg h_47, if_pos h_60]⟩, o2.q⟩
                | exact ⟨_, rfl, rfl, Or.inr ⟨by omega, by rw [Int.toNat_natCast, Int.toNat_natCast, hwh, if_neg h_47, if_neg h_60]; exact (wnV_pos hW (show (r' : Int) < vrn v by omega) (show (r : Int) < vrn v by omega) f3.2 e3.2).2 hs⟩, o2.q⟩
              · refine ev_iconst (q := 64) dX8_why_63 rfl ?_
                refine ev_goto (q := 86) dX8_why_64 (by decide) ?_
                refine ev_ireturn dX8_why_86 rfl rfl (by constructor <;> omega) ?_
                first
                | exact ⟨_, rfl, rfl, Or.inr ⟨by omega, by rw [Int.toNat_natCast, Int.toNat_natCast, hwh, if_pos h_47]⟩, o2.q⟩
                | exact ⟨_, rfl, rfl, Or.inr ⟨by omega, by rw [Int.toNat_natCast, Int.toNat_natCast, hwh, if_neg h_47, if_pos h_60]⟩, o2.q⟩
                | exact ⟨_, rfl, rfl, Or.inr ⟨by omega, by rw [Int.toNat_natCast, Int.toNat_natCast, hwh, if_neg h_47, if_neg h_60]; exact (wnV_pos hW (show (r' : Int) < vrn v by omega) (show (r : Int) < vrn v by omega) f3.2 e3.2).2 hs⟩, o2.q⟩
            · refine ev_aload_0 (q := 51) dX8_why_50 rfl ?_
              refine ev_getR (q := 54) dX8_why_51 fl_RX8_36 (by first | assumption | rfl) (by rfl) rfl ?_
              refine ev_iload_3 (q := 55) dX8_why_54 rfl ?_
              refine ev_iaload (q := 56) dX8_why_55 (by first | assumption | rfl) (by omega) (by first | decide | omega) rfl (fun h_55 => ?_)
              rw [Int.toNat_natCast, e1] at h_55 ⊢
              refine ev_goto (q := 86) dX8_why_56 (by decide) ?_
              refine ev_ireturn dX8_why_86 rfl rfl (by constructor <;> omega) ?_
              first
              | exact ⟨_, rfl, rfl, Or.inr ⟨by omega, by rw [Int.toNat_natCast, Int.toNat_natCast, hwh, if_pos h_47]⟩, o2.q⟩
              | exact ⟨_, rfl, rfl, Or.inr ⟨by omega, by rw [Int.toNat_natCast, Int.toNat_natCast, hwh, if_neg h_47, if_pos h_60]⟩, o2.q⟩
              | exact ⟨_, rfl, rfl, Or.inr ⟨by omega, by rw [Int.toNat_natCast, Int.toNat_natCast, hwh, if_neg h_47, if_neg h_60]; exact (wnV_pos hW (show (r' : Int) < vrn v by omega) (show (r : Int) < vrn v by omega) f3.2 e3.2).2 hs⟩, o2.q⟩
          · refine ev_bipush (q := 44) dX8_why_42 rfl (by decide) ?_
            refine ev_ireturn dX8_why_44 rfl rfl (by constructor <;> omega) ?_
            refine ⟨_, rfl, rfl, Or.inr ⟨by omega, ?_⟩, o2.q⟩
            rw [if_neg (show ¬ k' < n by omega)] at hnk
            rw [Int.toNat_natCast, Int.toNat_natCast, whV, Int.toNat_natCast, hnk, if_pos (Or.inr rfl)]
        · refine ev_bipush (q := 31) dX8_why_29 rfl (by decide) ?_
          refine ev_ireturn dX8_why_31 rfl rfl (by constructor <;> omega) ?_
          exact ⟨_, rfl, rfl, Or.inl ⟨by omega, rfl⟩, Mq.rfl'⟩
end MQ

