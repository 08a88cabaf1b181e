section Qs
variable {l : Launch} {M : ev_M} {v : Vw}
set_option maxHeartbeats 4000000 in
theorem m_element {e w : Int} (hA : Ag (M 101) v) (hW : Wf v) (he : inR e) (hw : inR w) : Ri l 9 kX8_element yX8_element S0 M [vr 100, vi e, vi w] (fun x M2 => ((¬ ((0 ≤ e ∧ e < vel v) ∧ 0 ≤ w ∧ w ≤ 5) ∧ x = -11) ∨ (((0 ≤ e ∧ e < vel v) ∧ 0 ≤ w ∧ w ≤ 5) ∧ x = elV v e.toNat w)) ∧ Mq M M2) := by
  have h1 := hW.1
  have hn := hA.1
  refine Ri.of (by decide) rfl (by decide) (Nat.le_of_ble_eq_true rfl) ?_
  refine (show Ev _ none _ _ _ _ _ 0 [_, _, _] [] _ from ?_)
  refine ev_aload_0 (q := 1) dX8_element_0 rfl ?_
  refine ev_iload_1 (q := 2) dX8_element_1 rfl ?_
  refine ev_callV1i (q := 5) dX8_element_2 vs_RX8_47 (by first | assumption | rfl) (c_X8_isElement (by constructor <;> omega) (by omega)) (by decide) (Nat.le_of_ble_eq_true rfl) rfl (fun h_2 => ?_)
  refine ev_b_eq (t := 17) (q := 8) dX8_element_5 (by decide) rfl (fun h_5 => ?_) (fun h_5 => ?_)
  · refine ev_bipush (q := 19) dX8_element_17 rfl (by decide) ?_
    refine ev_ireturn dX8_element_19 rfl rfl (by constructor <;> omega) ?_
    exact ⟨_, rfl, rfl, Or.inl ⟨by omega, rfl⟩, Mq.rfl'⟩
  · refine ev_iload_2 (q := 9) dX8_element_8 rfl ?_
    refine ev_iconst (q := 10) dX8_element_9 rfl ?_
    refine ev_iconst (q := 11) dX8_element_10 rfl ?_
    refine ev_callS3i (q := 14) dX8_element_11 ss_RX8_39 (c_X8_in (by constructor <;> omega) (by constructor <;> omega) (by constructor <;> omega)) (by decide) (Nat.le_of_ble_eq_true rfl) rfl (fun h_11 => ?_)
    refine ev_b_ne (t := 20) (q := 17) dX8_element_14 (by decide) rfl (fun h_14 => ?_) (fun h_14 => ?_)
    · have hel := hA.2.2.1 e (by omega) (by omega)
      have hst := stp_rng (vpar v) 16 e 0
      refine ev_iload_2 (q := 21) dX8_element_20 rfl ?_
      by_cases g_21 : w < 0 ∨ 4 < w
      · refine ev_tableOut (t := 107) dX8_element_21 (by constructor <;> omega) g_21 (by decide) ?_
        refine ev_aload_0 (q := 108) dX8_element_107 rfl ?_
        refine ev_iload_1 (q := 109) dX8_element_108 rfl ?_
        obtain ⟨e', rfl⟩ : ∃ e' : Nat, e = e' := ⟨e.toNat, by omega⟩
        refine ev_callV1iR (q := 112) dX8_element_109 vs_RX8_75 (by first | assumption | rfl) (c_X8_cycles hA hW (by omega)) (by decide) (Nat.le_of_ble_eq_true rfl) rfl (fun x_109 M_109 hq_109 h_109 => ?_)
        obtain ⟨rfl, o2⟩ := hq_109
        refine ev_ireturn dX8_element_112 rfl rfl (by constructor <;> omega) ?_
        exact ⟨_, rfl, rfl, Or.inr ⟨by omega, by rw [elV, if_neg (by omega), if_neg (by omega), if_neg (by omega), if_neg (by omega), if_neg (by omega), Int.toNat_natCast]⟩, o2.q⟩
      · have g2_21 : w = 0 ∨ w = 1 ∨ w = 2 ∨ w = 3 ∨ w = 4 := by omega
        rcases g2_21 with g_21 | g_21 | g_21 | g_21 | g_21
        · refine ev_tableIn (t := 56) dX8_element_21 (by constructor <;> omega) (by omega) (by omega) (by rw [g_21]; rfl) (by decide) ?_
          refine ev_iload_1 (q := 57) dX8_element_56 rfl ?_
          refine ev_if_ne (t := 65) (q := 60) dX8_element_57 (by decide) rfl (by constructor <;> omega) (fun h_57 => ?_) (fun h_57 => ?_)
          · refine ev_aload_0 (q := 66) dX8_element_65 rfl ?_
            refine ev_getR (q := 69) dX8_element_66 fl_RX8_7 (by first | assumption | rfl) (by rfl) rfl ?_
            refine ev_iconst (q := 70) dX8_element_69 rfl ?_
            refine ev_iload_1 (q := 71) dX8_element_70 rfl ?_
            refine ev_iadd (q := 72) dX8_element_71 rfl ?_
            refine ev_iaload (q := 73) dX8_element_72 (by first | assumption | rfl) (by omega) (by first | decide | omega) rfl (fun h_72 => ?_)
            first | (rw [hel.1] at h_72 ⊢) | skip
            refine ev_ireturn dX8_element_73 rfl rfl (by constructor <;> omega) ?_
            first | exact ⟨_, rfl, rfl, Or.inr ⟨by omega, by rw [elV, if_pos g_21, if_pos (by omega)]⟩, Mq.rfl'⟩ | exact ⟨_, rfl, rfl, Or.inr ⟨by omega, by rw [elV, if_pos g_21, if_neg (by omega)]⟩, Mq.rfl'⟩
          · refine ev_bipush (q := 62) dX8_element_60 rfl (by decide) ?_
            refine ev_goto (q := 73) dX8_element_62 (by decide) ?_
            first | (rw [hel.1] at h_72 ⊢) | skip
            refine ev_ireturn dX8_element_73 rfl rfl (by constructor <;> omega) ?_
            first | exact ⟨_, rfl, rfl, Or.inr ⟨by omega, by rw [elV, if_pos g_21, if_pos (by omega)]⟩, Mq.rfl'⟩ | exact ⟨_, rfl, rfl, Or.inr ⟨by omega, by rw [elV, if_pos g_21, if_neg (by omega)]⟩, Mq.rfl'⟩
        · refine ev_tableIn (t := 74) dX8_element_21 (by constructor <;> omega) (by omega) (by omega) (by rw [g_21]; rfl) (by decide) ?_
          refine ev_aload_0 (q := 75) dX8_element_74 rfl ?_
          refine ev_getR (q := 78) dX8_element_75 fl_RX8_7 (by first | assumption | rfl) (by rfl) rfl ?_
          refine ev_bipush (q := 80) dX8_element_78 rfl (by decide) ?_
          refine ev_iload_1 (q := 81) dX8_element_80 rfl ?_
          refine ev_iadd (q := 82) dX8_element_81 rfl ?_
          refine ev_iaload (q := 83) dX8_element_82 (by first | assumption | rfl) (by omega) (by first | decide | omega) rfl (fun h_82 => ?_)
          rw [hel.2.1] at h_82 ⊢
          refine ev_ireturn dX8_element_83 rfl rfl (by constructor <;> omega) ?_
          exact ⟨_, rfl, rfl, Or.inr ⟨by omega, by rw [elV, if_neg (by omega), if_pos g_21]⟩, Mq.rfl'⟩
        · refine ev_tableIn (t := 84) dX8_element_21 (by constructor <;> omega) (by omega) (by omega) (by rw [g_21]; rfl) (by decide) ?_
          refine ev_aload_0 (q := 85) dX8_element_84 rfl ?_
          refine ev_getR (q := 88) dX8_element_85 fl_RX8_7 (by first | assumption | rfl) (by rfl) rfl ?_
          refine ev_bipush (q := 90) dX8_element_88 rfl (by decide) ?_
          refine ev_iload_1 (q := 91) dX8_element_90 rfl ?_
          refine ev_iadd (q := 92) dX8_element_91 rfl ?_
          refine ev_iaload (q := 93) dX8_element_92 (by first | assumption | rfl) (by omega) (by first | decide | omega) rfl (fun h_92 => ?_)
          rw [hel.2.2] at h_92 ⊢
          refine ev_ireturn dX8_element_93 rfl rfl (by constructor <;> omega) ?_
          exact ⟨_, rfl, rfl, Or.inr ⟨by omega, by rw [elV, if_neg (by omega), if_neg (by omega), if_pos g_21]⟩, Mq.rfl'⟩
        · refine ev_tableIn (t := 94) dX8_element_21 (by constructor <;> omega) (by omega) (by omega) (by rw [g_21]; rfl) (by decide) ?_
          refine ev_aload_0 (q := 95) dX8_element_94 rfl ?_
          refine ev_iload_1 (q := 96) dX8_element_95 rfl ?_
          refine ev_iconst (q := 97) dX8_element_96 rfl ?_
          refine ev_callV2i (q := 100) dX8_element_97 vs_RX8_62 (by first | assumption | rfl) (c_X8_stepsTo hA hW (by omega) (by constructor <;> omega) (by decide)) (by decide) (Nat.le_of_ble_eq_true rfl) rfl (fun h_97 => ?_)
          refine ev_ireturn dX8_element_100 rfl rfl (by constructor <;> omega) ?_
          exact ⟨_, rfl, rfl, Or.inr ⟨by omega, by rw [elV, if_neg (by omega), if_neg (by omega), if_neg (by omega), if_pos g_21, show ((e.toNat : Nat) : Int) = e by omega]⟩, Mq.rfl'⟩
        · refine ev_tableIn (t := 101) dX8_element_21 (by constructor <;> omega) (by omega) (by omega) (by rw [g_21]; rfl) (by decide) ?_
          refine ev_aload_0 (q := 102) dX8_element_101 rfl ?_
          refine ev_iload_1 (q := 103) dX8_element_102 rfl ?_
          obtain ⟨e', rfl⟩ : ∃ e' : Nat, e = e' := ⟨e.toNat, by omega⟩
          refine ev_callV1i (q := 106) dX8_element_103 vs_RX8_71 (by first | assumption | rfl) (c_X8_matching hA hW (by omega)) (by decide) (Nat.le_of_ble_eq_true rfl) rfl (fun h_103 => ?_)
          refine ev_ireturn dX8_element_106 rfl rfl (by constructor <;> omega) ?_
          exact ⟨_, rfl, rfl, Or.inr ⟨by omega, by rw [elV, if_neg (by omega), if_neg (by omega), if_neg (by omega), if_neg (by omega), if_pos g_21, Int.toNat_natCast]⟩, Mq.rfl'⟩
    · refine ev_bipush (q := 19) dX8_element_17 rfl (by decide) ?_
      refine ev_ireturn dX8_element_19 rfl rfl (by constructor <;> omega) ?_
      exact ⟨_, rfl, rfl, Or.inl ⟨by omega, rfl⟩, Mq.rfl'⟩
set_option maxHeartbeats 2000000 in
theorem m_declared {r p w : Int} (hA : Ag (M 101) v) (hW : Wf v) (hr : inR r) (hp : inR p) (hw : inR w) : Ri l 9 kX8_declared yX8_declared S0 M [vr 100, vi r, vi p, vi w] (fun x M2 => ((¬ ((0 ≤ r ∧ r < vrn v) ∧ (0 ≤ p ∧ p ≤ 15) ∧ 0 ≤ w ∧ w ≤ 2) ∧ x = -11) ∨ (((0 ≤ r ∧ r < vrn v) ∧ (0 ≤ p ∧ p ≤ 15) ∧ 0 ≤ w ∧ w ≤ 2) ∧ x = (if ven v r.toNat p.toNat w.toNat = -1 then -14 else ven v r.toNat p.toNat w.toNat))) ∧ M2 = M) := by
  have h2 := hW.2.1
  have hn := hA.2.1
  refine Ri.of (by decide) rfl (by decide) (Nat.le_of_ble_eq_true rfl) ?_
  refine (show Ev _ none _ _ _ _ _ 0 [_, _, _, _, _] [] _ from ?_)
  refine ev_aload_0 (q := 1) dX8_declared_0 rfl ?_
  refine ev_iload_1 (q := 2) dX8_declared_1 rfl ?_
  refine ev_callV1i (q := 5) dX8_declared_2 vs_RX8_95 (by first | assumption | rfl) (c_X8_isRule (by constructor <;> omega) (by omega)) (by decide) (Nat.le_of_ble_eq_true rfl) rfl (fun h_2 => ?_)
  refine ev_b_eq (t := 24) (q := 8) dX8_declared_5 (by decide) rfl (fun h_5 => ?_) (fun h_5 => ?_)
  · refine ev_bipush (q := 26) dX8_declared_24 rfl (by decide) ?_
    refine ev_ireturn dX8_declared_26 rfl rfl (by constructor <;> omega) ?_
    exact ⟨_, rfl, rfl, Or.inl ⟨by omega, rfl⟩, rfl⟩
  · refine ev_iload_2 (q := 9) dX8_declared_8 rfl ?_
    refine ev_callS1i (q := 12) dX8_declared_9 ss_RX8_98 (c_X8_isProperty (by constructor <;> omega)) (by decide) (Nat.le_of_ble_eq_true rfl) rfl (fun h_9 => ?_)
    refine ev_b_eq (t := 24) (q := 15) dX8_declared_12 (by decide) rfl (fun h_12 => ?_) (fun h_12 => ?_)
    · refine ev_bipush (q := 26) dX8_declared_24 rfl (by decide) ?_
      refine ev_ireturn dX8_declared_26 rfl rfl (by constructor <;> omega) ?_
      exact ⟨_, rfl, rfl, Or.inl ⟨by omega, rfl⟩, rfl⟩
    · refine ev_iload_3 (q := 16) dX8_declared_15 rfl ?_
      refine ev_iconst (q := 17) dX8_declared_16 rfl ?_
      refine ev_iconst (q := 18) dX8_declared_17 rfl ?_
      refine ev_callS3i (q := 21) dX8_declared_18 ss_RX8_39 (c_X8_in (by constructor <;> omega) (by constructor <;> omega) (by constructor <;> omega)) (by decide) (Nat.le_of_ble_eq_true rfl) rfl (fun h_18 => ?_)
      refine ev_b_ne (t := 27) (q := 24) dX8_declared_21 (by decide) rfl (fun h_21 => ?_) (fun h_21 => ?_)
      · obtain ⟨r', rfl⟩ : ∃ r' : Nat, r = r' := ⟨r.toNat, by omega⟩
        obtain ⟨p', rfl⟩ : ∃ p' : Nat, p = p' := ⟨p.toNat, by omega⟩
        have hE := hA.2.2.2.2 r' p' (by omega) (by omega)
        have hN := hW.2.2.2.2 r' p' (by omega) (by omega)
        have hE2 := agE_d hE
        have hsy := sy_N r' p'
        have hw3 : w = 0 ∨ w = 1 ∨ w = 2 := by omega
        refine ev_iload_1 (q := 28) dX8_declared_27 rfl ?_
        refine ev_iload_2 (q := 29) dX8_declared_28 rfl ?_
        refine ev_callS2i (q := 32) dX8_declared_29 ss_RX8_78 (c_X8_says (by omega) (by omega)) (by decide) (Nat.le_of_ble_eq_true rfl) rfl (fun h_29 => ?_)
        refine ev_istore_4 (q := 34) dX8_declared_32 rfl (by decide) ?_
        refine ev_aload_0 (q := 35) dX8_declared_34 rfl ?_
        refine ev_getR (q := 38) dX8_declared_35 fl_RX8_7 (by first | assumption | rfl) (by rfl) rfl ?_
        refine ev_iload_4 (q := 40) dX8_declared_38 rfl ?_
        refine ev_iaload (q := 41) dX8_declared_40 (by first | assumption | rfl) (by omega) (by first | decide | omega) rfl (fun h_40 => ?_)
        rw [hsy.1] at h_40 ⊢
        refine ev_iload_3 (q := 42) dX8_declared_41 rfl ?_
        refine ev_if_ne (t := 49) (q := 45) dX8_declared_42 (by decide) rfl (by constructor <;> omega) (fun h_42 => ?_) (fun h_42 => ?_)
        · refine ev_iconst (q := 50) dX8_declared_49 rfl ?_
          refine ev_icmp_eq (t := 56) (q := 53) dX8_declared_50 (by decide) rfl (by constructor <;> omega) (by constructor <;> omega) (fun h_50 => ?_) (fun h_50 => ?_)
          · refine ev_iload_3 (q := 57) dX8_declared_56 rfl ?_
            refine ev_iconst (q := 58) dX8_declared_57 rfl ?_
            refine ev_icmp_ge (t := 73) (q := 61) dX8_declared_58 (by decide) rfl (by constructor <;> omega) (by constructor <;> omega) (fun h_58 => ?_) (fun h_58 => ?_)
            · refine ev_aload_0 (q := 74) dX8_declared_73 rfl ?_
              refine ev_getR (q := 77) dX8_declared_74 fl_RX8_7 (by first | assumption | rfl) (by rfl) rfl ?_
              refine ev_iload_4 (q := 79) dX8_declared_77 rfl ?_
              refine ev_iconst (q := 80) dX8_declared_79 rfl ?_
              refine ev_iadd (q := 81) dX8_declared_80 rfl ?_
              refine ev_iaload (q := 82) dX8_declared_81 (by first | assumption | rfl) (by omega) (by first | decide | omega) rfl (fun h_81 => ?_)
              rw [hsy.2.2] at h_81 ⊢
              refine ev_iconst (q := 83) dX8_declared_82 rfl ?_
              refine ev_icmp_ne (t := 91) (q := 86) dX8_declared_83 (by decide) rfl (by constructor <;> omega) (by constructor <;> omega) (fun h_83 => ?_) (fun h_83 => ?_)
              · refine ev_aload_0 (q := 92) dX8_declared_91 rfl ?_
                refine ev_getR (q := 95) dX8_declared_92 fl_RX8_7 (by first | assumption | rfl) (by rfl) rfl ?_
                refine ev_iload_4 (q := 97) dX8_declared_95 rfl ?_
                refine ev_iconst (q := 98) dX8_declared_97 rfl ?_
                refine ev_iadd (q := 99) dX8_declared_98 rfl ?_
                refine ev_iaload (q := 100) dX8_declared_99 (by first | assumption | rfl) (by omega) (by first | decide | omega) rfl (fun h_99 => ?_)
                first | rw [hsy.2.2] at h_99 ⊢ | skip
                refine ev_ireturn dX8_declared_100 rfl rfl (by constructor <;> omega) ?_
                refine ⟨_, rfl, rfl, Or.inr ⟨by omega, ?_⟩, rfl⟩
                rw [Int.toNat_natCast, Int.toNat_natCast]
                rcases hw3 with rfl | rfl | rfl
                · show _ = if ven v r' p' 0 = -1 then -14 else ven v r' p' 0
                  rcases hE with ⟨q1, q2, q3, q4⟩ | ⟨q1, q2, q3, q4, q5⟩ | ⟨q1, q2, q3, q4, q5⟩ <;> first | omega | (rw [if_neg (by omega)]; omega)
                · show _ = if ven v r' p' 1 = -1 then -14 else ven v r' p' 1
                  rcases hE with ⟨q1, q2, q3, q4⟩ | ⟨q1, q2, q3, q4, q5⟩ | ⟨q1, q2, q3, q4, q5⟩ <;> first | omega | (rw [if_neg (by omega)]; omega)
                · show _ = if ven v r' p' 2 = -1 then -14 else ven v r' p' 2
                  rcases hE with ⟨q1, q2, q3, q4⟩ | ⟨q1, q2, q3, q4, q5⟩ | ⟨q1, q2, q3, q4, q5⟩ <;> first | omega | (rw [if_pos (by omega)]; done) | (rw [if_neg (by omega)]; omega)
              · refine ev_bipush (q := 88) dX8_declared_86 rfl (by decide) ?_
                refine ev_goto (q := 100) dX8_declared_88 (by decide) ?_
                first | rw [hsy.2.2] at h_99 ⊢ | skip
                refine ev_ireturn dX8_declared_100 rfl rfl (by constructor <;> omega) ?_
                refine ⟨_, rfl, rfl, Or.inr ⟨by omega, ?_⟩, rfl⟩
                rw [Int.toNat_natCast, Int.toNat_natCast]
                rcases hw3 with rfl | rfl | rfl
                · show _ = if ven v r' p' 0 = -1 then -14 else ven v r' p' 0
                  rcases hE with ⟨q1, q2, q3, q4⟩ | ⟨q1, q2, q3, q4, q5⟩ | ⟨q1, q2, q3, q4, q5⟩ <;> first | omega | (rw [if_neg (by omega)]; omega)
                · show _ = if ven v r' p' 1 = -1 then -14 else ven v r' p' 1
                  rcases hE with ⟨q1, q2, q3, q4⟩ | ⟨q1, q2, q3, q4, q5⟩ | ⟨q1, q2, q3, q4, q5⟩ <;> first | omega | (rw [if_neg (by omega)]; omega)
                · show _ = if ven v r' p' 2 = -1 then -14 else ven v r' p' 2
                  rcases hE with ⟨q1, q2, q3, q4⟩ | ⟨q1, q2, q3, q4, q5⟩ | ⟨q1, q2, q3, q4, q5⟩ <;> first | omega | (rw [if_pos (by omega)]; done) | (rw [if_neg (by omega)]; omega)
            · refine ev_aload_0 (q := 62) dX8_declared_61 rfl ?_
              refine ev_getR (q := 65) dX8_declared_62 fl_RX8_7 (by first | assumption | rfl) (by rfl) rfl ?_
              refine ev_iload_4 (q := 67) dX8_declared_65 rfl ?_
              refine ev_iconst (q := 68) dX8_declared_67 rfl ?_
              refine ev_iadd (q := 69) dX8_declared_68 rfl ?_
              refine ev_iaload (q := 70) dX8_declared_69 (by first | assumption | rfl) (by omega) (by first | decide | omega) rfl (fun h_69 => ?_)
              rw [hsy.2.1] at h_69 ⊢
              refine ev_goto (q := 100) dX8_declared_70 (by decide) ?_
              first | rw [hsy.2.2] at h_99 ⊢ | skip
              refine ev_ireturn dX8_declared_100 rfl rfl (by constructor <;> omega) ?_
              refine ⟨_, rfl, rfl, Or.inr ⟨by omega, ?_⟩, rfl⟩
              rw [Int.toNat_natCast, Int.toNat_natCast]
              rcases hw3 with rfl | rfl | rfl
              · show _ = if ven v r' p' 0 = -1 then -14 else ven v r' p' 0
                rcases hE with ⟨q1, q2, q3, q4⟩ | ⟨q1, q2, q3, q4, q5⟩ | ⟨q1, q2, q3, q4, q5⟩ <;> first | omega | (rw [if_neg (by omega)]; omega)
              · show _ = if ven v r' p' 1 = -1 then -14 else ven v r' p' 1
                rcases hE with ⟨q1, q2, q3, q4⟩ | ⟨q1, q2, q3, q4, q5⟩ | ⟨q1, q2, q3, q4, q5⟩ <;> first | omega | (rw [if_neg (by omega)]; omega)
              · show _ = if ven v r' p' 2 = -1 then -14 else ven v r' p' 2
                rcases hE with ⟨q1, q2, q3, q4⟩ | ⟨q1, q2, q3, q4, q5⟩ | ⟨q1, q2, q3, q4, q5⟩ <;> first | omega | (rw [if_pos (by omega)]; done) | (rw [if_neg (by omega)]; omega)
          · refine ev_bipush (q := 55) dX8_declared_53 rfl (by decide) ?_
            refine ev_ireturn dX8_declared_55 rfl rfl (by constructor <;> omega) ?_
            refine ⟨_, rfl, rfl, Or.inr ⟨by omega, ?_⟩, rfl⟩
            rw [Int.toNat_natCast, Int.toNat_natCast]
            rcases hw3 with rfl | rfl | rfl
            · show _ = if ven v r' p' 0 = -1 then -14 else ven v r' p' 0
              rcases hE with ⟨q1, q2, q3, q4⟩ | ⟨q1, q2, q3, q4, q5⟩ | ⟨q1, q2, q3, q4, q5⟩
              · rw [if_pos q2]
              · omega
              · rw [if_pos q2]
            · show _ = if ven v r' p' 1 = -1 then -14 else ven v r' p' 1
              rcases hE with ⟨q1, q2, q3, q4⟩ | ⟨q1, q2, q3, q4, q5⟩ | ⟨q1, q2, q3, q4, q5⟩
              · rw [if_pos q3]
              · rw [if_pos q4]
              · omega
            · show _ = if ven v r' p' 2 = -1 then -14 else ven v r' p' 2
              rcases hE with ⟨q1, q2, q3, q4⟩ | ⟨q1, q2, q3, q4, q5⟩ | ⟨q1, q2, q3, q4, q5⟩
              · rw [if_pos q4]
              · rw [if_pos q5]
              · omega
        · refine ev_iconst (q := 46) dX8_declared_45 rfl ?_
          refine ev_goto (q := 50) dX8_declared_46 (by decide) ?_
          refine ev_icmp_eq (t := 56) (q := 53) dX8_declared_50 (by decide) rfl (by constructor <;> omega) (by constructor <;> omega) (fun h_50 => ?_) (fun h_50 => ?_)
          · refine ev_iload_3 (q := 57) dX8_declared_56 rfl ?_
            refine ev_iconst (q := 58) dX8_declared_57 rfl ?_
            refine ev_icmp_ge (t := 73) (q := 61) dX8_declared_58 (by decide) rfl (by constructor <;> omega) (by constructor <;> omega) (fun h_58 => ?_) (fun h_58 => ?_)
            · refine ev_aload_0 (q := 74) dX8_declared_73 rfl ?_
              refine ev_getR (q := 77) dX8_declared_74 fl_RX8_7 (by first | assumption | rfl) (by rfl) rfl ?_
              refine ev_iload_4 (q := 79) dX8_declared_77 rfl ?_
              refine ev_iconst (q := 80) dX8_declared_79 rfl ?_
              refine ev_iadd (q := 81) dX8_declared_80 rfl ?_
              refine ev_iaload (q := 82) dX8_declared_81 (by first | assumption | rfl) (by omega) (by first | decide | omega) rfl (fun h_81 => ?_)
              rw [hsy.2.2] at h_81 ⊢
              refine ev_iconst (q := 83) dX8_declared_82 rfl ?_
              refine ev_icmp_ne (t := 91) (q := 86) dX8_declared_83 (by decide) rfl (by constructor <;> omega) (by constructor <;> omega) (fun h_83 => ?_) (fun h_83 => ?_)
              · refine ev_aload_0 (q := 92) dX8_declared_91 rfl ?_
                refine ev_getR (q := 95) dX8_declared_92 fl_RX8_7 (by first | assumption | rfl) (by rfl) rfl ?_
                refine ev_iload_4 (q := 97) dX8_declared_95 rfl ?_
                refine ev_iconst (q := 98) dX8_declared_97 rfl ?_
                refine ev_iadd (q := 99) dX8_declared_98 rfl ?_
                refine ev_iaload (q := 100) dX8_declared_99 (by first | assumption | rfl) (by omega) (by first | decide | omega) rfl (fun h_99 => ?_)
                first | rw [hsy.2.2] at h_99 ⊢ | skip
                refine ev_ireturn dX8_declared_100 rfl rfl (by constructor <;> omega) ?_
                refine ⟨_, rfl, rfl, Or.inr ⟨by omega, ?_⟩, rfl⟩
                rw [Int.toNat_natCast, Int.toNat_natCast]
                rcases hw3 with rfl | rfl | rfl
                · show _ = if ven v r' p' 0 = -1 then -14 else ven v r' p' 0
                  rcases hE with ⟨q1, q2, q3, q4⟩ | ⟨q1, q2, q3, q4, q5⟩ | ⟨q1, q2, q3, q4, q5⟩ <;> first | omega | (rw [if_neg (by omega)]; omega)
                · show _ = if ven v r' p' 1 = -1 then -14 else ven v r' p' 1
                  rcases hE with ⟨q1, q2, q3, q4⟩ | ⟨q1, q2, q3, q4, q5⟩ | ⟨q1, q2, q3, q4, q5⟩ <;> first | omega | (rw [if_neg (by omega)]; omega)
                · show _ = if ven v r' p' 2 = -1 then -14 else ven v r' p' 2
                  rcases hE with ⟨q1, q2, q3, q4⟩ | ⟨q1, q2, q3, q4, q5⟩ | ⟨q1, q2, q3, q4, q5⟩ <;> first | omega | (rw [if_pos (by omega)]; done) | (rw [if_neg (by omega)]; omega)
              · refine ev_bipush (q := 88) dX8_declared_86 rfl (by decide) ?_
                refine ev_goto (q := 100) dX8_declared_88 (by decide) ?_
                first | rw [hsy.2.2] at h_99 ⊢ | skip
                refine ev_ireturn dX8_declared_100 rfl rfl (by constructor <;> omega) ?_
                refine ⟨_, rfl, rfl, Or.inr ⟨by omega, ?_⟩, rfl⟩
                rw [Int.toNat_natCast, Int.toNat_natCast]
                rcases hw3 with rfl | rfl | rfl
                · show _ = if ven v r' p' 0 = -1 then -14 else ven v r' p' 0
                  rcases hE with ⟨q1, q2, q3, q4⟩ | ⟨q1, q2, q3, q4, q5⟩ | ⟨q1, q2, q3, q4, q5⟩ <;> first | omega | (rw [if_neg (by omega)]; omega)
                · show _ = if ven v r' p' 1 = -1 then -14 else ven v r' p' 1
                  rcases hE with ⟨q1, q2, q3, q4⟩ | ⟨q1, q2, q3, q4, q5⟩ | ⟨q1, q2, q3, q4, q5⟩ <;> first | omega | (rw [if_neg (by omega)]; omega)
                · show _ = if ven v r' p' 2 = -1 then -14 else ven v r' p' 2
                  rcases hE with ⟨q1, q2, q3, q4⟩ | ⟨q1, q2, q3, q4, q5⟩ | ⟨q1, q2, q3, q4, q5⟩ <;> first | omega | (rw [if_pos (by omega)]; done) | (rw [if_neg (by omega)]; omega)
            · refine ev_aload_0 (q := 62) dX8_declared_61 rfl ?_
              refine ev_getR (q := 65) dX8_declared_62 fl_RX8_7 (by first | assumption | rfl) (by rfl) rfl ?_
              refine ev_iload_4 (q := 67) dX8_declared_65 rfl ?_
              refine ev_iconst (q := 68) dX8_declared_67 rfl ?_
              refine ev_iadd (q := 69) dX8_declared_68 rfl ?_
              refine ev_iaload (q := 70) dX8_declared_69 (by first | assumption | rfl) (by omega) (by first | decide | omega) rfl (fun h_69 => ?_)
              rw [hsy.2.1] at h_69 ⊢
              refine ev_goto (q := 100) dX8_declared_70 (by decide) ?_
              first | rw [hsy.2.2] at h_99 ⊢ | skip
              refine ev_ireturn dX8_declared_100 rfl rfl (by constructor <;> omega) ?_
              refine ⟨_, rfl, rfl, Or.inr ⟨by omega, ?_⟩, rfl⟩
              rw [Int.toNat_natCast, Int.toNat_natCast]
              rcases hw3 with rfl | rfl | rfl
              · show _ = if ven v r' p' 0 = -1 then -14 else ven v r' p' 0
                rcases hE with ⟨q1, q2, q3, q4⟩ | ⟨q1, q2, q3, q4, q5⟩ | ⟨q1, q2, q3, q4, q5⟩ <;> first | omega | (rw [if_neg (by omega)]; omega)
              · show _ = if ven v r' p' 1 = -1 then -14 else ven v r' p' 1
                rcases hE with ⟨q1, q2, q3, q4⟩ | ⟨q1, q2, q3, q4, q5⟩ | ⟨q1, q2, q3, q4, q5⟩ <;> first | omega | (rw [if_neg (by omega)]; omega)
              · show _ = if ven v r' p' 2 = -1 then -14 else ven v r' p' 2
                rcases hE with ⟨q1, q2, q3, q4⟩ | ⟨q1, q2, q3, q4, q5⟩ | ⟨q1, q2, q3, q4, q5⟩ <;> first | omega | (rw [if_pos (by omega)]; done) | (rw [if_neg (by omega)]; omega)
          · refine ev_bipush (q := 55) dX8_declared_53 rfl (by decide) ?_
            refine ev_ireturn dX8_declared_55 rfl rfl (by constructor <;> omega) ?_
            refine ⟨_, rfl, rfl, Or.inr ⟨by omega, ?_⟩, rfl⟩
            rw [Int.toNat_natCast, Int.toNat_natCast]
            rcases hw3 with rfl | rfl | rfl
            · show _ = if ven v r' p' 0 = -1 then -14 else ven v r' p' 0
              rcases hE with ⟨q1, q2, q3, q4⟩ | ⟨q1, q2, q3, q4, q5⟩ | ⟨q1, q2, q3, q4, q5⟩
              · rw [if_pos q2]
              · omega
              · rw [if_pos q2]
            · show _ = if ven v r' p' 1 = -1 then -14 else ven v r' p' 1
              rcases hE with ⟨q1, q2, q3, q4⟩ | ⟨q1, q2, q3, q4, q5⟩ | ⟨q1, q2, q3, q4, q5⟩
              · rw [if_pos q3]
              · rw [if_pos q4]
              · omega
            · show _ = if ven v r' p' 2 = -1 then -14 else ven v r' p' 2
              rcases hE with ⟨q1, q2, q3, q4⟩ | ⟨q1, q2, q3, q4, q5⟩ | ⟨q1, q2, q3, q4, q5⟩
              · rw [if_pos q4]
              · rw [if_pos q5]
              · omega
      · refine ev_bipush (q := 26) dX8_declared_24 rfl (by decide) ?_
        refine ev_ireturn dX8_declared_26 rfl rfl (by constructor <;> omega) ?_
        exact ⟨_, rfl, rfl, Or.inl ⟨by omega, rfl⟩, rfl⟩
set_option maxHeartbeats 2000000 in
theorem m_matches {r e : Int} (hA : Ag (M 101) v) (hW : Wf v) (hr : inR r) (he : inR e) : Ri l 9 kX8_matches yX8_matches S0 M [vr 100, vi r, vi e] (fun x M2 => ((¬ ((0 ≤ r ∧ r < vrn v) ∧ 0 ≤ e ∧ e < vel v) ∧ x = -11) ∨ (((0 ≤ r ∧ r < vrn v) ∧ 0 ≤ e ∧ e < vel v) ∧ x = (if fitB v r.toNat e.toNat = true then 1 else 0))) ∧ M2 = M) := by
  have h1 := hW.1
  have h2 := hW.2.1
  have hn0 := hA.1
  have hn := hA.2.1
  refine Ri.of (by decide) rfl (by decide) (Nat.le_of_ble_eq_true rfl) ?_
  refine (show Ev _ none _ _ _ _ _ 0 [_, _, _] [] _ from ?_)
  refine ev_aload_0 (q := 1) dX8_matches_0 rfl ?_
  refine ev_iload_1 (q := 2) dX8_matches_1 rfl ?_
  refine ev_callV1i (q := 5) dX8_matches_2 vs_RX8_95 (by first | assumption | rfl) (c_X8_isRule (by constructor <;> omega) (by omega)) (by decide) (Nat.le_of_ble_eq_true rfl) rfl (fun h_2 => ?_)
  refine ev_b_eq (t := 33) (q := 8) dX8_matches_5 (by decide) rfl (fun h_5 => ?_) (fun h_5 => ?_)
  · refine ev_bipush (q := 35) dX8_matches_33 rfl (by decide) ?_
    refine ev_ireturn dX8_matches_35 rfl rfl (by constructor <;> omega) ?_
    first
    | exact ⟨_, rfl, rfl, Or.inl ⟨by omega, rfl⟩, rfl⟩
    | exact ⟨_, rfl, rfl, Or.inr ⟨by omega, by rw [Int.toNat_natCast, Int.toNat_natCast, if_pos h_22]⟩, rfl⟩
    | exact ⟨_, rfl, rfl, Or.inr ⟨by omega, by rw [Int.toNat_natCast, Int.toNat_natCast, if_neg h_22]⟩, rfl⟩
  · refine ev_aload_0 (q := 9) dX8_matches_8 rfl ?_
    refine ev_iload_2 (q := 10) dX8_matches_9 rfl ?_
    refine ev_callV1i (q := 13) dX8_matches_10 vs_RX8_47 (by first | assumption | rfl) (c_X8_isElement (by constructor <;> omega) (by omega)) (by decide) (Nat.le_of_ble_eq_true rfl) rfl (fun h_10 => ?_)
    refine ev_b_eq (t := 33) (q := 16) dX8_matches_13 (by decide) rfl (fun h_13 => ?_) (fun h_13 => ?_)
    · refine ev_bipush (q := 35) dX8_matches_33 rfl (by decide) ?_
      refine ev_ireturn dX8_matches_35 rfl rfl (by constructor <;> omega) ?_
      first
      | exact ⟨_, rfl, rfl, Or.inl ⟨by omega, rfl⟩, rfl⟩
      | exact ⟨_, rfl, rfl, Or.inr ⟨by omega, by rw [Int.toNat_natCast, Int.toNat_natCast, if_pos h_22]⟩, rfl⟩
      | exact ⟨_, rfl, rfl, Or.inr ⟨by omega, by rw [Int.toNat_natCast, Int.toNat_natCast, if_neg h_22]⟩, rfl⟩
    · refine ev_aload_0 (q := 17) dX8_matches_16 rfl ?_
      refine ev_iload_1 (q := 18) dX8_matches_17 rfl ?_
      refine ev_iload_2 (q := 19) dX8_matches_18 rfl ?_
      obtain ⟨r', rfl⟩ : ∃ r' : Nat, r = r' := ⟨r.toNat, by omega⟩
      obtain ⟨e', rfl⟩ : ∃ e' : Nat, e = e' := ⟨e.toNat, by omega⟩
      refine ev_callV2i (q := 22) dX8_matches_19 vs_RX8_65 (by first | assumption | rfl) (c_X8_meets hA hW (by omega) (by omega)) (by decide) (Nat.le_of_ble_eq_true rfl) rfl (fun h_19 => ?_)
      refine ev_b_eq (t := 29) (q := 25) dX8_matches_22 (by decide) rfl (fun h_22 => ?_) (fun h_22 => ?_)
      · refine ev_iconst (q := 30) dX8_matches_29 rfl ?_
        refine ev_goto (q := 35) dX8_matches_30 (by decide) ?_
        refine ev_ireturn dX8_matches_35 rfl rfl (by constructor <;> omega) ?_
        first
        | exact ⟨_, rfl, rfl, Or.inl ⟨by omega, rfl⟩, rfl⟩
        | exact ⟨_, rfl, rfl, Or.inr ⟨by omega, by rw [Int.toNat_natCast, Int.toNat_natCast, if_pos h_22]⟩, rfl⟩
        | exact ⟨_, rfl, rfl, Or.inr ⟨by omega, by rw [Int.toNat_natCast, Int.toNat_natCast, if_neg h_22]⟩, rfl⟩
      · refine ev_iconst (q := 26) dX8_matches_25 rfl ?_
        refine ev_goto (q := 35) dX8_matches_26 (by decide) ?_
        refine ev_ireturn dX8_matches_35 rfl rfl (by constructor <;> omega) ?_
        first
        | exact ⟨_, rfl, rfl, Or.inl ⟨by omega, rfl⟩, rfl⟩
        | exact ⟨_, rfl, rfl, Or.inr ⟨by omega, by rw [Int.toNat_natCast, Int.toNat_natCast, if_pos h_22]⟩, rfl⟩
        | exact ⟨_, rfl, rfl, Or.inr ⟨by omega, by rw [Int.toNat_natCast, Int.toNat_natCast, if_neg h_22]⟩, rfl⟩
set_option maxHeartbeats 2000000 in
theorem lp_ruleOf {r : Nat} {w : Int} (hA : Ag (M 101) v) (hW : Wf v) (hr : (r : Int) < vrn v) (hw : 6 ≤ w ∧ w ≤ 8) : ∀ (n j : Nat) (x y : Int), x = j → j + n = (vel v).toNat → y = cnt (fun e => fitB v r e) j → Ev l none 9 kX8_ruleOf (0, 0) S0 M 39 [some (vr 100), some (vi (r : Int)), some (vi w), some (vi y), some (vi x)] [] (QI S0 (fun x M2 => ((¬ ((0 ≤ (r : Int) ∧ (r : Int) < vrn v) ∧ 0 ≤ w ∧ w ≤ 8) ∧ x = -11) ∨ (((0 ≤ (r : Int) ∧ (r : Int) < vrn v) ∧ 0 ≤ w ∧ w ≤ 8) ∧ x = ruV v r w)) ∧ M2 = M)) := by
  have h1 := hW.1
  have h2 := hW.2.1
  have hn1 := hA.1
  intro n
  induction n with
  | zero =>
    intro j x y hx hn hy
    have hj : j = (vel v).toNat := by omega
    have hc := cnt_rng (fun e => fitB v r e) j
    have hsp := spc_rng (k := vpt v r 0) (a := vpt v r 2) (hW.2.2.2.1 r hr).2.1
    have hds : 0 ≤ dsV v r ∧ dsV v r ≤ 16 := cnt_rng _ 16
    refine ev_iload_4 (q := 41) dX8_ruleOf_39 rfl ?_
    refine ev_aload_0 (q := 42) dX8_ruleOf_41 rfl ?_
    refine ev_getR (q := 45) dX8_ruleOf_42 fl_RX8_7 (by first | assumption | rfl) (by rfl) rfl ?_
    refine ev_iconst (q := 46) dX8_ruleOf_45 rfl ?_
    refine ev_iaload (q := 47) dX8_ruleOf_46 (by first | assumption | rfl) (by omega) (by first | decide | omega) rfl (fun h_46 => ?_)
    rw [z0, hn1] at h_46 ⊢
    refine ev_icmp_ge (t := 74) (q := 50) dX8_ruleOf_47 (by decide) rfl (by constructor <;> omega) (by constructor <;> omega) (fun h_47 => ?_) (fun h_47 => ?_)
    · refine ev_iload_2 (q := 75) dX8_ruleOf_74 rfl ?_
      refine ev_bipush (q := 77) dX8_ruleOf_75 rfl (by decide) ?_
      refine ev_icmp_ne (t := 88) (q := 80) dX8_ruleOf_77 (by decide) rfl (by constructor <;> omega) (by constructor <;> omega) (fun h_77 => ?_) (fun h_77 => ?_)
      · refine ev_iload_2 (q := 89) dX8_ruleOf_88 rfl ?_
        refine ev_bipush (q := 91) dX8_ruleOf_89 rfl (by decide) ?_
        refine ev_icmp_ne (t := 102) (q := 94) dX8_ruleOf_91 (by decide) rfl (by constructor <;> omega) (by constructor <;> omega) (fun h_91 => ?_) (fun h_91 => ?_)
        · refine ev_iload_3 (q := 103) dX8_ruleOf_102 rfl ?_
          refine ev_ireturn dX8_ruleOf_103 rfl rfl (by constructor <;> omega) ?_
          first
          | exact ⟨_, rfl, rfl, Or.inr ⟨by omega, by rw [ruV, if_neg (by omega), if_pos h_77]⟩, rfl⟩
          | exact ⟨_, rfl, rfl, Or.inr ⟨by omega, by rw [ruV, if_neg (by omega), if_neg (by omega), if_pos h_91]⟩, rfl⟩
          | exact ⟨_, rfl, rfl, Or.inr ⟨by omega, by rw [ruV, if_neg (by omega), if_neg (by omega), if_neg (by omega), hy, hj]; rfl⟩, rfl⟩
        · refine ev_aload_0 (q := 95) dX8_ruleOf_94 rfl ?_
          refine ev_iload_1 (q := 96) dX8_ruleOf_95 rfl ?_
          refine ev_callV1i (q := 99) dX8_ruleOf_96 vs_RX8_105 (by first | assumption | rfl) (c_X8_declarations hA hW hr) (by decide) (Nat.le_of_ble_eq_true rfl) rfl (fun h_96 => ?_)
          refine ev_goto (q := 103) dX8_ruleOf_99 (by decide) ?_
          refine ev_ireturn dX8_ruleOf_103 rfl rfl (by constructor <;> omega) ?_
          first
          | exact ⟨_, rfl, rfl, Or.inr ⟨by omega, by rw [ruV, if_neg (by omega), if_pos h_77]⟩, rfl⟩
          | exact ⟨_, rfl, rfl, Or.inr ⟨by omega, by rw [ruV, if_neg (by omega), if_neg (by omega), if_pos h_91]⟩, rfl⟩
          | exact ⟨_, rfl, rfl, Or.inr ⟨by omega, by rw [ruV, if_neg (by omega), if_neg (by omega), if_neg (by omega), hy, hj]; rfl⟩, rfl⟩
      · refine ev_aload_0 (q := 81) dX8_ruleOf_80 rfl ?_
        refine ev_iload_1 (q := 82) dX8_ruleOf_81 rfl ?_
        refine ev_callV1i (q := 85) dX8_ruleOf_82 vs_RX8_108 (by first | assumption | rfl) (c_X8_specificity hA hW hr) (by decide) (Nat.le_of_ble_eq_true rfl) rfl (fun h_82 => ?_)
        refine ev_goto (q := 103) dX8_ruleOf_85 (by decide) ?_
        refine ev_ireturn dX8_ruleOf_103 rfl rfl (by constructor <;> omega) ?_
        first
        | exact ⟨_, rfl, rfl, Or.inr ⟨by omega, by rw [ruV, if_neg (by omega), if_pos h_77]⟩, rfl⟩
        | exact ⟨_, rfl, rfl, Or.inr ⟨by omega, by rw [ruV, if_neg (by omega), if_neg (by omega), if_pos h_91]⟩, rfl⟩
        | exact ⟨_, rfl, rfl, Or.inr ⟨by omega, by rw [ruV, if_neg (by omega), if_neg (by omega), if_neg (by omega), hy, hj]; rfl⟩, rfl⟩
    · omega
  | succ n ih =>
    intro j x y hx hn hy
    have hc := cnt_rng (fun e => fitB v r e) j
    subst hx
    refine ev_iload_4 (q := 41) dX8_ruleOf_39 rfl ?_
    refine ev_aload_0 (q := 42) dX8_ruleOf_41 rfl ?_
    refine ev_getR (q := 45) dX8_ruleOf_42 fl_RX8_7 (by first | assumption | rfl) (by rfl) rfl ?_
    refine ev_iconst (q := 46) dX8_ruleOf_45 rfl ?_
    refine ev_iaload (q := 47) dX8_ruleOf_46 (by first | assumption | rfl) (by omega) (by first | decide | omega) rfl (fun h_46 => ?_)
    rw [z0, hn1] at h_46 ⊢
    refine ev_icmp_ge (t := 74) (q := 50) dX8_ruleOf_47 (by decide) rfl (by constructor <;> omega) (by constructor <;> omega) (fun h_47 => ?_) (fun h_47 => ?_)
    · omega
    · refine ev_iload_3 (q := 51) dX8_ruleOf_50 rfl ?_
      refine ev_aload_0 (q := 52) dX8_ruleOf_51 rfl ?_
      refine ev_iload_1 (q := 53) dX8_ruleOf_52 rfl ?_
      refine ev_iload_4 (q := 55) dX8_ruleOf_53 rfl ?_
      refine ev_callV2i (q := 58) dX8_ruleOf_55 vs_RX8_65 (by first | assumption | rfl) (c_X8_meets hA hW hr (by omega)) (by decide) (Nat.le_of_ble_eq_true rfl) rfl (fun h_55 => ?_)
      refine ev_b_eq (t := 65) (q := 61) dX8_ruleOf_58 (by decide) rfl (fun h_58 => ?_) (fun h_58 => ?_)
      · refine ev_iconst (q := 66) dX8_ruleOf_65 rfl ?_
        refine ev_iadd (q := 67) dX8_ruleOf_66 rfl ?_
        refine ev_istore_3 (q := 68) dX8_ruleOf_67 rfl (by decide) ?_
        refine ev_iinc_4 (q := 71) dX8_ruleOf_68 rfl (by decide) ?_
        refine ev_goto (q := 39) dX8_ruleOf_71 (by decide) ?_
        refine ih (j + 1) _ _ rfl (by omega) ?_
        unfold cnt
        rw [hy]
        first | (rw [if_pos h_58]; done) | (rw [if_neg h_58])
      · refine ev_iconst (q := 62) dX8_ruleOf_61 rfl ?_
        refine ev_goto (q := 66) dX8_ruleOf_62 (by decide) ?_
        refine ev_iadd (q := 67) dX8_ruleOf_66 rfl ?_
        refine ev_istore_3 (q := 68) dX8_ruleOf_67 rfl (by decide) ?_
        refine ev_iinc_4 (q := 71) dX8_ruleOf_68 rfl (by decide) ?_
        refine ev_goto (q := 39) dX8_ruleOf_71 (by decide) ?_
        refine ih (j + 1) _ _ rfl (by omega) ?_
        unfold cnt
        rw [hy]
        first | (rw [if_pos h_58]; done) | (rw [if_neg h_58])
set_option maxHeartbeats 2000000 in
theorem m_ruleOf {r w : Int} (hA : Ag (M 101) v) (hW : Wf v) (hr : inR r) (hw : inR w) : Ri l 9 kX8_ruleOf yX8_ruleOf S0 M [vr 100, vi r, vi w] (fun x M2 => ((¬ ((0 ≤ r ∧ r < vrn v) ∧ 0 ≤ w ∧ w ≤ 8) ∧ x = -11) ∨ (((0 ≤ r ∧ r < vrn v) ∧ 0 ≤ w ∧ w ≤ 8) ∧ x = ruV v r.toNat w)) ∧ M2 = M) := by
  have h1 := hW.1
  have h2 := hW.2.1
  have hn := hA.2.1
  refine Ri.of (by decide) rfl (by decide) (Nat.le_of_ble_eq_true rfl) ?_
  refine (show Ev _ none _ _ _ _ _ 0 [_, _, _, _, _] [] _ from ?_)
  refine ev_aload_0 (q := 1) dX8_ruleOf_0 rfl ?_
  refine ev_iload_1 (q := 2) dX8_ruleOf_1 rfl ?_
  refine ev_callV1i (q := 5) dX8_ruleOf_2 vs_RX8_95 (by first | assumption | rfl) (c_X8_isRule (by constructor <;> omega) (by omega)) (by decide) (Nat.le_of_ble_eq_true rfl) rfl (fun h_2 => ?_)
  refine ev_b_eq (t := 18) (q := 8) dX8_ruleOf_5 (by decide) rfl (fun h_5 => ?_) (fun h_5 => ?_)
  · refine ev_bipush (q := 20) dX8_ruleOf_18 rfl (by decide) ?_
    refine ev_ireturn dX8_ruleOf_20 rfl rfl (by constructor <;> omega) ?_
    exact ⟨_, rfl, rfl, Or.inl ⟨by omega, rfl⟩, rfl⟩
  · refine ev_iload_2 (q := 9) dX8_ruleOf_8 rfl ?_
    refine ev_iconst (q := 10) dX8_ruleOf_9 rfl ?_
    refine ev_bipush (q := 12) dX8_ruleOf_10 rfl (by decide) ?_
    refine ev_callS3i (q := 15) dX8_ruleOf_12 ss_RX8_39 (c_X8_in (by constructor <;> omega) (by constructor <;> omega) (by constructor <;> omega)) (by decide) (Nat.le_of_ble_eq_true rfl) rfl (fun h_12 => ?_)
    refine ev_b_ne (t := 21) (q := 18) dX8_ruleOf_15 (by decide) rfl (fun h_15 => ?_) (fun h_15 => ?_)
    · obtain ⟨r', rfl⟩ : ∃ r' : Nat, r = r' := ⟨r.toNat, by omega⟩
      refine ev_iload_2 (q := 22) dX8_ruleOf_21 rfl ?_
      refine ev_bipush (q := 24) dX8_ruleOf_22 rfl (by decide) ?_
      refine ev_icmp_ge (t := 34) (q := 27) dX8_ruleOf_24 (by decide) rfl (by constructor <;> omega) (by constructor <;> omega) (fun h_24 => ?_) (fun h_24 => ?_)
      · refine ev_iconst (q := 35) dX8_ruleOf_34 rfl ?_
        refine ev_istore_3 (q := 36) dX8_ruleOf_35 rfl (by decide) ?_
        refine ev_iconst (q := 37) dX8_ruleOf_36 rfl ?_
        refine ev_istore_4 (q := 39) dX8_ruleOf_37 rfl (by decide) ?_
        exact lp_ruleOf hA hW (by omega) (by omega) (vel v).toNat 0 _ _ rfl (by omega) rfl
      · refine ev_aload_0 (q := 28) dX8_ruleOf_27 rfl ?_
        refine ev_iload_1 (q := 29) dX8_ruleOf_28 rfl ?_
        refine ev_iload_2 (q := 30) dX8_ruleOf_29 rfl ?_
        obtain ⟨w', rfl⟩ : ∃ w' : Nat, w = w' := ⟨w.toNat, by omega⟩
        refine ev_callV2i (q := 33) dX8_ruleOf_30 vs_RX8_58 (by first | assumption | rfl) (c_X8_ofV (w := w') hA (by omega) (by omega) (by omega)) (by decide) (Nat.le_of_ble_eq_true rfl) rfl (fun h_30 => ?_)
        refine ev_ireturn dX8_ruleOf_33 rfl rfl (by constructor <;> omega) ?_
        exact ⟨_, rfl, rfl, Or.inr ⟨by omega, by rw [ruV, if_pos (by omega), Int.toNat_natCast, Int.toNat_natCast]⟩, rfl⟩
    · refine ev_bipush (q := 20) dX8_ruleOf_18 rfl (by decide) ?_
      refine ev_ireturn dX8_ruleOf_20 rfl rfl (by constructor <;> omega) ?_
      exact ⟨_, rfl, rfl, Or.inl ⟨by omega, rfl⟩, rfl⟩
end Qs

