theorem in_toInt (x : Int32) : inR x.toInt := by
  have a := x.toInt_lt
  have b := x.le_toInt
  constructor <;> omega
set_option maxHeartbeats 1000000 in
theorem c_L_cell {l : Launch} {L : Nat} {xs : Nat → Int} {M : ev_M} {k : Int} (hL : L ≤ 260) (hk : 0 ≤ k ∧ k < 36) : CtX l 0 kL_cell yL_cell (0, 0) S0 M [vs, vi k] L xs (fun v' S' M2 => ∃ x, v' = some (vi x) ∧ S' = S0 ∧ M2 = M ∧ 0 ≤ x) := by
  refine CtX.of (by decide) rfl (by decide) (Nat.le_of_ble_eq_true rfl) ?_
  refine (show Ev _ _ _ _ _ _ _ 0 [_, _] [] _ from ?_)
  refine ev_iload_1 (q := 1) dL_cell_0 rfl ?_
  refine ev_aload_0 (q := 2) dL_cell_1 rfl ?_
  refine ev_slen (q := 3) rfl dL_cell_2 rfl ?_
  refine ev_icmp_ge (t := 12) (q := 6) dL_cell_3 (by decide) rfl (by constructor <;> omega) (by constructor <;> omega) (fun h_3 => ?_) (fun h_3 => ?_)
  · refine ev_ldc (n := 15485959) (q := 14) dL_cell_12 rfl kc_RL_7 (by decide) ?_
    refine ev_iload_1 (q := 15) dL_cell_14 rfl ?_
    refine ev_imul (q := 16) dL_cell_15 rfl ?_
    refine ev_bipush (q := 18) dL_cell_16 rfl (by decide) ?_
    refine ev_iadd (q := 19) dL_cell_18 rfl ?_
    refine ev_ldc (n := 2147483647) (q := 21) dL_cell_19 rfl kc_RL_8 (by decide) ?_
    refine ev_iand (q := 22) dL_cell_21 rfl ?_
    refine ev_ireturn dL_cell_22 rfl rfl (in_toInt _) ?_
    exact ⟨_, rfl, rfl, rfl, and_nn _⟩
  · refine ev_aload_0 (q := 7) dL_cell_6 rfl ?_
    refine ev_iload_1 (q := 8) dL_cell_7 rfl ?_
    refine ev_sld (q := 9) rfl dL_cell_8 (by omega) (by omega) rfl ?_
    refine ev_goto (q := 19) dL_cell_9 (by decide) ?_
    refine ev_ldc (n := 2147483647) (q := 21) dL_cell_19 rfl kc_RL_8 (by decide) ?_
    refine ev_iand (q := 22) dL_cell_21 rfl ?_
    refine ev_ireturn dL_cell_22 rfl rfl (in_toInt _) ?_
    exact ⟨_, rfl, rfl, rfl, and_nn _⟩
set_option maxHeartbeats 4000000 in
theorem c_L_comes {l : Launch} {M : ev_M} {v : Vw} {us : List Vw} {e p : Int} (h : J v us M) (he : 0 ≤ e ∧ e < vel v) (hp : 0 ≤ p ∧ p ≤ 15) : Ri l 7 kL_comes yL_comes S0 M [vr 0, vi e, vi p] (fun x M2 => x = 1 ∧ J v us M2) := by
  obtain ⟨e', rfl⟩ : ∃ e' : Nat, e = (e' : Int) := ⟨e.toNat, by omega⟩
  obtain ⟨p', rfl⟩ : ∃ p' : Nat, p = (p' : Int) := ⟨p.toNat, by omega⟩
  have hW := h.wf; have hb := hW.1
  have hcm := comes_v hW (e := e') (p := p') he.2 (by omega)
  have hcy : 8 ≤ p' → vaV v e' p' ≠ -14 → cycV v e' (p' : Int) = 0 := fun h8 q => Classical.byContradiction fun z => q (cyc_v hW he.2 (by omega) h8 z)
  have K89 : ∀ (M' : ev_M) (f : Int) (w5 w6 : Option ev_V), J v us M' → inR (vaV v e' p') → Ev l none 7 kL_comes (0, 0) S0 M' 89 [some (vr 0), some (vi (e' : Int)), some (vi (p' : Int)), some (vi f), some (vi (vaV v e' p')), w5, w6] [vi 1] (QI S0 (fun x M2 => x = 1 ∧ J v us M2)) := by
    intro M' f w5 w6 hJ hr
    refine ev_istore_5 (q := 91) dL_comes_89 rfl (by decide) ?_
    refine ev_aload_0 (q := 92) dL_comes_91 rfl ?_
    refine ev_iload_1 (q := 93) dL_comes_92 rfl ?_
    refine ev_iload_2 (q := 94) dL_comes_93 rfl ?_
    refine ev_callV2iR (q := 97) dL_comes_94 vs_RL_18 (by first | assumption | rfl) (w_winner hJ he hp) (by decide) (Nat.le_of_ble_eq_true rfl) rfl (fun x_94 M_94 hq_94 h_94 => ?_)
    obtain ⟨e_94, hJ⟩ := hq_94
    simp only [Int.toNat_natCast] at e_94
    refine ev_istore_6 (q := 99) dL_comes_97 rfl (by decide) ?_
    refine ev_iload_5 (q := 101) dL_comes_99 rfl ?_
    refine ev_if_eq (t := 146) (q := 104) dL_comes_101 (by decide) rfl (by constructor <;> omega) (fun h_101 => ?_) (fun h_101 => ?_)
    · exact absurd h_101 (by omega)
    · refine ev_iload_2 (q := 105) dL_comes_104 rfl ?_
      refine ev_bipush (q := 107) dL_comes_105 rfl (by decide) ?_
      refine ev_icmp_lt (t := 126) (q := 110) dL_comes_107 (by decide) rfl (by constructor <;> omega) (by constructor <;> omega) (fun h_107 => ?_) (fun h_107 => ?_)
      · refine ev_iload_6 (q := 128) dL_comes_126 rfl ?_
        refine ev_if_lt (t := 142) (q := 131) dL_comes_128 (by decide) rfl (by constructor <;> omega) (fun h_128 => ?_) (fun h_128 => ?_)
        · refine ev_iconst (q := 143) dL_comes_142 rfl ?_
          refine ev_goto (q := 147) dL_comes_143 (by decide) ?_
          refine ev_ireturn dL_comes_147 rfl (by first | rfl | decide | (split <;> rfl) | (split <;> decide)) (by constructor <;> omega) ?_
          exact ⟨_, rfl, rfl, rfl, hJ⟩
        · have hwn : winV v e' p' ≠ -1 := fun q => by rw [e_94, if_pos q] at h_128; exact absurd h_128 (by decide)
          obtain ⟨m1, m2, m3⟩ := win_fit hW hwn
          rw [if_neg hwn] at e_94
          refine ev_aload_0 (q := 132) dL_comes_131 rfl ?_
          refine ev_iload_6 (q := 134) dL_comes_132 rfl ?_
          refine ev_iload_1 (q := 135) dL_comes_134 rfl ?_
          refine ev_callV2iR (q := 138) dL_comes_135 vs_RL_24 (by first | assumption | rfl) (w_matches hJ (r := x_94) (by omega) he) (by decide) (Nat.le_of_ble_eq_true rfl) rfl (fun x_135 M_135 hq_135 h_135 => ?_)
          obtain ⟨e_135, hJ⟩ := hq_135
          rw [e_94, Int.toNat_natCast, m1, if_pos rfl] at e_135
          refine ev_iconst (q := 139) dL_comes_138 rfl ?_
          refine ev_icmp_ne (t := 146) (q := 142) dL_comes_139 (by decide) rfl (by constructor <;> omega) (by constructor <;> omega) (fun h_139 => ?_) (fun h_139 => ?_)
          · exact absurd h_139 (by omega)
          · refine ev_iconst (q := 143) dL_comes_142 rfl ?_
            refine ev_goto (q := 147) dL_comes_143 (by decide) ?_
            refine ev_ireturn dL_comes_147 rfl (by first | rfl | decide | (split <;> rfl) | (split <;> decide)) (by constructor <;> omega) ?_
            exact ⟨_, rfl, rfl, rfl, hJ⟩
      · refine ev_iload_4 (q := 112) dL_comes_110 rfl ?_
        refine ev_bipush (q := 114) dL_comes_112 rfl (by decide) ?_
        refine ev_icmp_eq (t := 126) (q := 117) dL_comes_114 (by decide) rfl (by constructor <;> omega) (by constructor <;> omega) (fun h_114 => ?_) (fun h_114 => ?_)
        · refine ev_iload_6 (q := 128) dL_comes_126 rfl ?_
          refine ev_if_lt (t := 142) (q := 131) dL_comes_128 (by decide) rfl (by constructor <;> omega) (fun h_128 => ?_) (fun h_128 => ?_)
          · refine ev_iconst (q := 143) dL_comes_142 rfl ?_
            refine ev_goto (q := 147) dL_comes_143 (by decide) ?_
            refine ev_ireturn dL_comes_147 rfl (by first | rfl | decide | (split <;> rfl) | (split <;> decide)) (by constructor <;> omega) ?_
            exact ⟨_, rfl, rfl, rfl, hJ⟩
          · have hwn : winV v e' p' ≠ -1 := fun q => by rw [e_94, if_pos q] at h_128; exact absurd h_128 (by decide)
            obtain ⟨m1, m2, m3⟩ := win_fit hW hwn
            rw [if_neg hwn] at e_94
            refine ev_aload_0 (q := 132) dL_comes_131 rfl ?_
            refine ev_iload_6 (q := 134) dL_comes_132 rfl ?_
            refine ev_iload_1 (q := 135) dL_comes_134 rfl ?_
            refine ev_callV2iR (q := 138) dL_comes_135 vs_RL_24 (by first | assumption | rfl) (w_matches hJ (r := x_94) (by omega) he) (by decide) (Nat.le_of_ble_eq_true rfl) rfl (fun x_135 M_135 hq_135 h_135 => ?_)
            obtain ⟨e_135, hJ⟩ := hq_135
            rw [e_94, Int.toNat_natCast, m1, if_pos rfl] at e_135
            refine ev_iconst (q := 139) dL_comes_138 rfl ?_
            refine ev_icmp_ne (t := 146) (q := 142) dL_comes_139 (by decide) rfl (by constructor <;> omega) (by constructor <;> omega) (fun h_139 => ?_) (fun h_139 => ?_)
            · exact absurd h_139 (by omega)
            · refine ev_iconst (q := 143) dL_comes_142 rfl ?_
              refine ev_goto (q := 147) dL_comes_143 (by decide) ?_
              refine ev_ireturn dL_comes_147 rfl (by first | rfl | decide | (split <;> rfl) | (split <;> decide)) (by constructor <;> omega) ?_
              exact ⟨_, rfl, rfl, rfl, hJ⟩
        · refine ev_aload_0 (q := 118) dL_comes_117 rfl ?_
          refine ev_iload_1 (q := 119) dL_comes_118 rfl ?_
          refine ev_iload_2 (q := 120) dL_comes_119 rfl ?_
          refine ev_callV2iR (q := 123) dL_comes_120 vs_RL_21 (by first | assumption | rfl) (w_cycle hJ he (by omega)) (by decide) (Nat.le_of_ble_eq_true rfl) rfl (fun x_120 M_120 hq_120 h_120 => ?_)
          obtain ⟨e_120, hJ⟩ := hq_120
          simp only [Int.toNat_natCast] at e_120
          have hc0 := hcy (by omega) (by omega)
          refine ev_if_ne (t := 146) (q := 126) dL_comes_123 (by decide) rfl (by constructor <;> omega) (fun h_123 => ?_) (fun h_123 => ?_)
          · exact absurd h_123 (by omega)
          · refine ev_iload_6 (q := 128) dL_comes_126 rfl ?_
            refine ev_if_lt (t := 142) (q := 131) dL_comes_128 (by decide) rfl (by constructor <;> omega) (fun h_128 => ?_) (fun h_128 => ?_)
            · refine ev_iconst (q := 143) dL_comes_142 rfl ?_
              refine ev_goto (q := 147) dL_comes_143 (by decide) ?_
              refine ev_ireturn dL_comes_147 rfl (by first | rfl | decide | (split <;> rfl) | (split <;> decide)) (by constructor <;> omega) ?_
              exact ⟨_, rfl, rfl, rfl, hJ⟩
            · have hwn : winV v e' p' ≠ -1 := fun q => by rw [e_94, if_pos q] at h_128; exact absurd h_128 (by decide)
              obtain ⟨m1, m2, m3⟩ := win_fit hW hwn
              rw [if_neg hwn] at e_94
              refine ev_aload_0 (q := 132) dL_comes_131 rfl ?_
              refine ev_iload_6 (q := 134) dL_comes_132 rfl ?_
              refine ev_iload_1 (q := 135) dL_comes_134 rfl ?_
              refine ev_callV2iR (q := 138) dL_comes_135 vs_RL_24 (by first | assumption | rfl) (w_matches hJ (r := x_94) (by omega) he) (by decide) (Nat.le_of_ble_eq_true rfl) rfl (fun x_135 M_135 hq_135 h_135 => ?_)
              obtain ⟨e_135, hJ⟩ := hq_135
              rw [e_94, Int.toNat_natCast, m1, if_pos rfl] at e_135
              refine ev_iconst (q := 139) dL_comes_138 rfl ?_
              refine ev_icmp_ne (t := 146) (q := 142) dL_comes_139 (by decide) rfl (by constructor <;> omega) (by constructor <;> omega) (fun h_139 => ?_) (fun h_139 => ?_)
              · exact absurd h_139 (by omega)
              · refine ev_iconst (q := 143) dL_comes_142 rfl ?_
                refine ev_goto (q := 147) dL_comes_143 (by decide) ?_
                refine ev_ireturn dL_comes_147 rfl (by first | rfl | decide | (split <;> rfl) | (split <;> decide)) (by constructor <;> omega) ?_
                exact ⟨_, rfl, rfl, rfl, hJ⟩
  have hJ := h
  refine Ri.of (by decide) rfl (by decide) (Nat.le_of_ble_eq_true rfl) ?_
  refine (show Ev _ none _ _ _ _ _ 0 [_, _, _, _, _, _, _] [] _ from ?_)
  refine ev_aload_0 (q := 1) dL_comes_0 rfl ?_
  refine ev_iload_1 (q := 2) dL_comes_1 rfl ?_
  refine ev_iload_2 (q := 3) dL_comes_2 rfl ?_
  refine ev_callV2iR (q := 6) dL_comes_3 vs_RL_9 (by first | assumption | rfl) (w_from hJ he hp) (by decide) (Nat.le_of_ble_eq_true rfl) rfl (fun x_3 M_3 hq_3 h_3 => ?_)
  obtain ⟨e_3, hJ⟩ := hq_3
  simp only [Int.toNat_natCast] at e_3
  refine ev_istore_3 (q := 7) dL_comes_6 rfl (by decide) ?_
  refine ev_aload_0 (q := 8) dL_comes_7 rfl ?_
  refine ev_iload_1 (q := 9) dL_comes_8 rfl ?_
  refine ev_iload_2 (q := 10) dL_comes_9 rfl ?_
  refine ev_callV2iR (q := 13) dL_comes_10 vs_RL_15 (by first | assumption | rfl) (w_value hJ he hp) (by decide) (Nat.le_of_ble_eq_true rfl) rfl (fun x_10 M_10 hq_10 h_10 => ?_)
  obtain ⟨e_10, hJ⟩ := hq_10
  simp only [Int.toNat_natCast] at e_10
  subst e_10
  refine ev_istore_4 (q := 15) dL_comes_13 rfl (by decide) ?_
  refine ev_iload_3 (q := 16) dL_comes_15 rfl ?_
  refine ev_if_ge (t := 44) (q := 19) dL_comes_16 (by decide) rfl (by constructor <;> omega) (fun h_16 => ?_) (fun h_16 => ?_)
  · obtain ⟨s, s1, s2, s3, s4, s5⟩ : ∃ s : Nat, s ≤ e' ∧ frV v e' p' = (s : Int) ∧ vaV v s p' = vaV v e' p' ∧ frV v s p' = (s : Int) ∧ winV v s p' ≠ -1 := by rcases hcm with q | q <;> first | exact q | (exfalso; have := q.1; omega)
    obtain rfl : x_3 = (s : Int) := by omega
    refine ev_iload_3 (q := 45) dL_comes_44 rfl ?_
    refine ev_iload_1 (q := 46) dL_comes_45 rfl ?_
    refine ev_icmp_gt (t := 88) (q := 49) dL_comes_46 (by decide) rfl (by constructor <;> omega) (by constructor <;> omega) (fun h_46 => ?_) (fun h_46 => ?_)
    · exact absurd h_46 (by omega)
    · refine ev_iload_3 (q := 50) dL_comes_49 rfl ?_
      refine ev_iload_1 (q := 51) dL_comes_50 rfl ?_
      refine ev_icmp_eq (t := 75) (q := 54) dL_comes_51 (by decide) rfl (by constructor <;> omega) (by constructor <;> omega) (fun h_51 => ?_) (fun h_51 => ?_)
      · refine ev_aload_0 (q := 76) dL_comes_75 rfl ?_
        refine ev_iload_3 (q := 77) dL_comes_76 rfl ?_
        refine ev_iload_2 (q := 78) dL_comes_77 rfl ?_
        refine ev_callV2iR (q := 81) dL_comes_78 vs_RL_18 (by first | assumption | rfl) (w_winner hJ (e := (s : Int)) (by omega) hp) (by decide) (Nat.le_of_ble_eq_true rfl) rfl (fun x_78 M_78 hq_78 h_78 => ?_)
        obtain ⟨e_78, hJ⟩ := hq_78
        simp only [Int.toNat_natCast] at e_78
        rw [if_neg s5] at e_78
        have hw0 := (win_fit hW s5).2.1
        refine ev_if_lt (t := 88) (q := 84) dL_comes_81 (by decide) rfl (by constructor <;> omega) (fun h_81 => ?_) (fun h_81 => ?_)
        · exact absurd h_81 (by omega)
        · refine ev_iconst (q := 85) dL_comes_84 rfl ?_
          refine ev_goto (q := 89) dL_comes_85 (by decide) ?_
          exact K89 _ _ _ _ hJ h_10
      · refine ev_aload_0 (q := 55) dL_comes_54 rfl ?_
        refine ev_iload_3 (q := 56) dL_comes_55 rfl ?_
        refine ev_iload_2 (q := 57) dL_comes_56 rfl ?_
        refine ev_callV2iR (q := 60) dL_comes_57 vs_RL_15 (by first | assumption | rfl) (w_value hJ (e := (s : Int)) (by omega) hp) (by decide) (Nat.le_of_ble_eq_true rfl) rfl (fun x_57 M_57 hq_57 h_57 => ?_)
        obtain ⟨e_57, hJ⟩ := hq_57
        simp only [Int.toNat_natCast] at e_57
        refine ev_iload_4 (q := 62) dL_comes_60 rfl ?_
        refine ev_icmp_ne (t := 88) (q := 65) dL_comes_62 (by decide) rfl (by constructor <;> omega) (by constructor <;> omega) (fun h_62 => ?_) (fun h_62 => ?_)
        · exact absurd h_62 (by omega)
        · refine ev_aload_0 (q := 66) dL_comes_65 rfl ?_
          refine ev_iload_3 (q := 67) dL_comes_66 rfl ?_
          refine ev_iload_2 (q := 68) dL_comes_67 rfl ?_
          refine ev_callV2iR (q := 71) dL_comes_68 vs_RL_9 (by first | assumption | rfl) (w_from hJ (e := (s : Int)) (by omega) hp) (by decide) (Nat.le_of_ble_eq_true rfl) rfl (fun x_68 M_68 hq_68 h_68 => ?_)
          obtain ⟨e_68, hJ⟩ := hq_68
          simp only [Int.toNat_natCast] at e_68
          refine ev_iload_3 (q := 72) dL_comes_71 rfl ?_
          refine ev_icmp_ne (t := 88) (q := 75) dL_comes_72 (by decide) rfl (by constructor <;> omega) (by constructor <;> omega) (fun h_72 => ?_) (fun h_72 => ?_)
          · exact absurd h_72 (by omega)
          · refine ev_aload_0 (q := 76) dL_comes_75 rfl ?_
            refine ev_iload_3 (q := 77) dL_comes_76 rfl ?_
            refine ev_iload_2 (q := 78) dL_comes_77 rfl ?_
            refine ev_callV2iR (q := 81) dL_comes_78 vs_RL_18 (by first | assumption | rfl) (w_winner hJ (e := (s : Int)) (by omega) hp) (by decide) (Nat.le_of_ble_eq_true rfl) rfl (fun x_78 M_78 hq_78 h_78 => ?_)
            obtain ⟨e_78, hJ⟩ := hq_78
            simp only [Int.toNat_natCast] at e_78
            rw [if_neg s5] at e_78
            have hw0 := (win_fit hW s5).2.1
            refine ev_if_lt (t := 88) (q := 84) dL_comes_81 (by decide) rfl (by constructor <;> omega) (fun h_81 => ?_) (fun h_81 => ?_)
            · exact absurd h_81 (by omega)
            · refine ev_iconst (q := 85) dL_comes_84 rfl ?_
              refine ev_goto (q := 89) dL_comes_85 (by decide) ?_
              exact K89 _ _ _ _ hJ h_10
  · have hA : vaV v e' p' = (if 8 ≤ p' then -14 else 0) := by rcases hcm with q | ⟨s, s1, s2, s3⟩ <;> first | exact q.2 | (exfalso; omega)
    refine ev_iload_4 (q := 21) dL_comes_19 rfl ?_
    refine ev_iload_2 (q := 22) dL_comes_21 rfl ?_
    refine ev_bipush (q := 24) dL_comes_22 rfl (by decide) ?_
    refine ev_icmp_le (t := 32) (q := 27) dL_comes_24 (by decide) rfl (by constructor <;> omega) (by constructor <;> omega) (fun h_24 => ?_) (fun h_24 => ?_)
    · refine ev_iconst (q := 33) dL_comes_32 rfl ?_
      have hB := hA
      first | rw [if_pos (by omega)] at hB | rw [if_neg (by omega)] at hB
      refine ev_icmp_ne (t := 40) (q := 36) dL_comes_33 (by decide) rfl (by constructor <;> omega) (by constructor <;> omega) (fun h_33 => ?_) (fun h_33 => ?_)
      · exact absurd h_33 (by omega)
      · refine ev_iconst (q := 37) dL_comes_36 rfl ?_
        refine ev_goto (q := 89) dL_comes_37 (by decide) ?_
        exact K89 _ _ _ _ hJ h_10
    · refine ev_bipush (q := 29) dL_comes_27 rfl (by decide) ?_
      refine ev_goto (q := 33) dL_comes_29 (by decide) ?_
      have hB := hA
      first | rw [if_pos (by omega)] at hB | rw [if_neg (by omega)] at hB
      refine ev_icmp_ne (t := 40) (q := 36) dL_comes_33 (by decide) rfl (by constructor <;> omega) (by constructor <;> omega) (fun h_33 => ?_) (fun h_33 => ?_)
      · exact absurd h_33 (by omega)
      · refine ev_iconst (q := 37) dL_comes_36 rfl ?_
        refine ev_goto (q := 89) dL_comes_37 (by decide) ?_
        exact K89 _ _ _ _ hJ h_10

