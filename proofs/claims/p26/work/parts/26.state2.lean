set_option maxHeartbeats 2000000 in
theorem c_X4_rank {l : Launch} {M : ev_M} {r e c : Nat} (h : Wf (cV M 1)) (hr : (r : Int) < M 9 0) (he : (e : Int) < M 2 0) (hc : 1 ≤ c ∧ c ≤ 5) : Cx l 2 kX4_rank yX4_rank S0 M [vr 1, vi (r : Int), vi (e : Int), vi (c : Int)] (some (vi (rkV (cV M 1) r e c))) M := by
  have h0 := h.1; have h00 := h.2.1
  have h4 := h.2.2.2.1 r hr
  have hst := stp_rng (vpar (cV M 1)) 16 e (vpt (cV M 1) r 4)
  have hr16 : r < 16 := by have : vrn (cV M 1) = M 9 0 := rfl; omega
  have he16 : e < 16 := by have : vel (cV M 1) = M 2 0 := rfl; omega
  have hsp := spc_rng (k := vpt (cV M 1) r 0) (a := vpt (cV M 1) r 2) h4.2.1
  generalize hv : vel (cV M 1) = nn at *
  refine Cx.of (by decide) rfl (by decide) (Nat.le_of_ble_eq_true rfl) ?_
  refine (show Ev _ none _ _ _ _ _ 0 [_, _, _, _, _, _, _] [] _ from ?_)
  refine ev_aload_0 (q := 1) dX4_rank_0 rfl ?_
  refine ev_getR (q := 4) dX4_rank_1 fl_RX4_23 (by first | assumption | rfl) (by rfl) rfl ?_
  refine ev_iload_1 (q := 5) dX4_rank_4 rfl ?_
  refine ev_iconst (q := 6) dX4_rank_5 rfl ?_
  refine ev_callV2i (q := 9) dX4_rank_6 vs_RX4_27 (by first | assumption | rfl) (c_X3_partN (r := r) (w := 5) hr16 (by decide)) (by decide) (Nat.le_of_ble_eq_true rfl) rfl (fun h_6 => ?_)
  refine ev_iconst (q := 10) dX4_rank_9 rfl ?_
  refine ev_icmp_ne (t := 17) (q := 13) dX4_rank_10 (by decide) rfl (by constructor <;> omega) (by constructor <;> omega) (fun h_10 => ?_) (fun h_10 => ?_)
  · refine ev_iconst (q := 18) dX4_rank_17 rfl ?_
    refine ev_istore_4 (q := 20) dX4_rank_18 rfl (by decide) ?_
    refine ev_aload_0 (q := 21) dX4_rank_20 rfl ?_
    refine ev_getR (q := 24) dX4_rank_21 fl_RX4_23 (by first | assumption | rfl) (by rfl) rfl ?_
    refine ev_iload_1 (q := 25) dX4_rank_24 rfl ?_
    refine ev_iconst (q := 26) dX4_rank_25 rfl ?_
    refine ev_callV2i (q := 29) dX4_rank_26 vs_RX4_27 (by first | assumption | rfl) (c_X3_partN (r := r) (w := 3) hr16 (by decide)) (by decide) (Nat.le_of_ble_eq_true rfl) rfl (fun h_26 => ?_)
    refine ev_istore_5 (q := 31) dX4_rank_29 rfl (by decide) ?_
    refine ev_aload_0 (q := 32) dX4_rank_31 rfl ?_
    refine ev_getR (q := 35) dX4_rank_32 fl_RX4_23 (by first | assumption | rfl) (by rfl) rfl ?_
    refine ev_iload_1 (q := 36) dX4_rank_35 rfl ?_
    refine ev_iconst (q := 37) dX4_rank_36 rfl ?_
    refine ev_callV2i (q := 40) dX4_rank_37 vs_RX4_27 (by first | assumption | rfl) (c_X3_partN (r := r) (w := 4) hr16 (by decide)) (by decide) (Nat.le_of_ble_eq_true rfl) rfl (fun h_37 => ?_)
    refine ev_istore_6 (q := 42) dX4_rank_40 rfl (by decide) ?_
    refine ev_iload_3 (q := 43) dX4_rank_42 rfl ?_
    by_cases g_43 : (c : Int) < 1 ∨ 4 < (c : Int)
    · refine ev_tableOut (t := 131) dX4_rank_43 (by constructor <;> omega) g_43 (by decide) ?_
      refine ev_iload_1 (q := 132) dX4_rank_131 rfl ?_
      refine ev_ireturn dX4_rank_132 rfl rfl (by constructor <;> omega) ?_
      refine ⟨congrArg (fun z => some (Sum.inl z)) ?_, rfl, rfl⟩
      unfold rkV
      first | (rw [if_pos (show c = 1 by omega)]; (repeat' split) <;> omega) | (rw [if_neg (show ¬ c = 1 by omega), if_pos (show c = 2 by omega)]; (repeat' split) <;> omega) | (rw [if_neg (show ¬ c = 1 by omega), if_neg (show ¬ c = 2 by omega), if_pos (show c = 3 by omega)]; (repeat' split) <;> omega) | (rw [if_neg (show ¬ c = 1 by omega), if_neg (show ¬ c = 2 by omega), if_neg (show ¬ c = 3 by omega), if_pos (show c = 4 by omega)]) | (rw [if_neg (show ¬ c = 1 by omega), if_neg (show ¬ c = 2 by omega), if_neg (show ¬ c = 3 by omega), if_neg (show ¬ c = 4 by omega)]) | omega
    · have g2_43 : (c : Int) = 1 ∨ (c : Int) = 2 ∨ (c : Int) = 3 ∨ (c : Int) = 4 := by omega
      rcases g2_43 with g_43 | g_43 | g_43 | g_43
      · refine ev_tableIn (t := 72) dX4_rank_43 (by constructor <;> omega) (by omega) (by omega) (by rw [g_43]; rfl) (by decide) ?_
        refine ev_iload_4 (q := 74) dX4_rank_72 rfl ?_
        refine ev_if_eq (t := 81) (q := 77) dX4_rank_74 (by decide) rfl (by constructor <;> omega) (fun h_74 => ?_) (fun h_74 => ?_)
        · refine ev_iconst (q := 82) dX4_rank_81 rfl ?_
          refine ev_ireturn dX4_rank_82 rfl rfl (by constructor <;> omega) ?_
          refine ⟨congrArg (fun z => some (Sum.inl z)) ?_, rfl, rfl⟩
          unfold rkV
          first | (rw [if_pos (show c = 1 by omega)]; (repeat' split) <;> omega) | (rw [if_neg (show ¬ c = 1 by omega), if_pos (show c = 2 by omega)]; (repeat' split) <;> omega) | (rw [if_neg (show ¬ c = 1 by omega), if_neg (show ¬ c = 2 by omega), if_pos (show c = 3 by omega)]; (repeat' split) <;> omega) | (rw [if_neg (show ¬ c = 1 by omega), if_neg (show ¬ c = 2 by omega), if_neg (show ¬ c = 3 by omega), if_pos (show c = 4 by omega)]) | (rw [if_neg (show ¬ c = 1 by omega), if_neg (show ¬ c = 2 by omega), if_neg (show ¬ c = 3 by omega), if_neg (show ¬ c = 4 by omega)]) | omega
        · refine ev_iconst (q := 78) dX4_rank_77 rfl ?_
          refine ev_goto (q := 82) dX4_rank_78 (by decide) ?_
          refine ev_ireturn dX4_rank_82 rfl rfl (by constructor <;> omega) ?_
          refine ⟨congrArg (fun z => some (Sum.inl z)) ?_, rfl, rfl⟩
          unfold rkV
          first | (rw [if_pos (show c = 1 by omega)]; (repeat' split) <;> omega) | (rw [if_neg (show ¬ c = 1 by omega), if_pos (show c = 2 by omega)]; (repeat' split) <;> omega) | (rw [if_neg (show ¬ c = 1 by omega), if_neg (show ¬ c = 2 by omega), if_pos (show c = 3 by omega)]; (repeat' split) <;> omega) | (rw [if_neg (show ¬ c = 1 by omega), if_neg (show ¬ c = 2 by omega), if_neg (show ¬ c = 3 by omega), if_pos (show c = 4 by omega)]) | (rw [if_neg (show ¬ c = 1 by omega), if_neg (show ¬ c = 2 by omega), if_neg (show ¬ c = 3 by omega), if_neg (show ¬ c = 4 by omega)]) | omega
      · refine ev_tableIn (t := 83) dX4_rank_43 (by constructor <;> omega) (by omega) (by omega) (by rw [g_43]; rfl) (by decide) ?_
        refine ev_iload_4 (q := 85) dX4_rank_83 rfl ?_
        refine ev_if_eq (t := 95) (q := 88) dX4_rank_85 (by decide) rfl (by constructor <;> omega) (fun h_85 => ?_) (fun h_85 => ?_)
        · refine ev_iload_5 (q := 97) dX4_rank_95 rfl ?_
          refine ev_ireturn dX4_rank_97 rfl rfl (by constructor <;> omega) ?_
          refine ⟨congrArg (fun z => some (Sum.inl z)) ?_, rfl, rfl⟩
          unfold rkV
          first | (rw [if_pos (show c = 1 by omega)]; (repeat' split) <;> omega) | (rw [if_neg (show ¬ c = 1 by omega), if_pos (show c = 2 by omega)]; (repeat' split) <;> omega) | (rw [if_neg (show ¬ c = 1 by omega), if_neg (show ¬ c = 2 by omega), if_pos (show c = 3 by omega)]; (repeat' split) <;> omega) | (rw [if_neg (show ¬ c = 1 by omega), if_neg (show ¬ c = 2 by omega), if_neg (show ¬ c = 3 by omega), if_pos (show c = 4 by omega)]) | (rw [if_neg (show ¬ c = 1 by omega), if_neg (show ¬ c = 2 by omega), if_neg (show ¬ c = 3 by omega), if_neg (show ¬ c = 4 by omega)]) | omega
        · refine ev_iconst (q := 89) dX4_rank_88 rfl ?_
          refine ev_iload_5 (q := 91) dX4_rank_89 rfl ?_
          refine ev_isub (q := 92) dX4_rank_91 rfl ?_
          refine ev_goto (q := 97) dX4_rank_92 (by decide) ?_
          refine ev_ireturn dX4_rank_97 rfl rfl (by constructor <;> omega) ?_
          refine ⟨congrArg (fun z => some (Sum.inl z)) ?_, rfl, rfl⟩
          unfold rkV
          first | (rw [if_pos (show c = 1 by omega)]; (repeat' split) <;> omega) | (rw [if_neg (show ¬ c = 1 by omega), if_pos (show c = 2 by omega)]; (repeat' split) <;> omega) | (rw [if_neg (show ¬ c = 1 by omega), if_neg (show ¬ c = 2 by omega), if_pos (show c = 3 by omega)]; (repeat' split) <;> omega) | (rw [if_neg (show ¬ c = 1 by omega), if_neg (show ¬ c = 2 by omega), if_neg (show ¬ c = 3 by omega), if_pos (show c = 4 by omega)]) | (rw [if_neg (show ¬ c = 1 by omega), if_neg (show ¬ c = 2 by omega), if_neg (show ¬ c = 3 by omega), if_neg (show ¬ c = 4 by omega)]) | omega
      · refine ev_tableIn (t := 98) dX4_rank_43 (by constructor <;> omega) (by omega) (by omega) (by rw [g_43]; rfl) (by decide) ?_
        refine ev_iload_6 (q := 100) dX4_rank_98 rfl ?_
        refine ev_iconst (q := 101) dX4_rank_100 rfl ?_
        refine ev_icmp_ne (t := 108) (q := 104) dX4_rank_101 (by decide) rfl (by constructor <;> omega) (by constructor <;> omega) (fun h_101 => ?_) (fun h_101 => ?_)
        · refine ev_bipush (q := 110) dX4_rank_108 rfl (by decide) ?_
          refine ev_aload_0 (q := 111) dX4_rank_110 rfl ?_
          refine ev_getR (q := 114) dX4_rank_111 fl_RX4_12 (by first | assumption | rfl) (by rfl) rfl ?_
          refine ev_iload_2 (q := 115) dX4_rank_114 rfl ?_
          refine ev_iload_6 (q := 117) dX4_rank_115 rfl ?_
          refine ev_callV2i (q := 120) dX4_rank_117 vs_RX4_42 (by first | assumption | rfl) (c_X6_stepsN h he (by constructor <;> omega)) (by decide) (Nat.le_of_ble_eq_true rfl) rfl (fun h_117 => ?_)
          refine ev_isub (q := 121) dX4_rank_120 rfl ?_
          refine ev_ireturn dX4_rank_121 rfl rfl (by constructor <;> omega) ?_
          refine ⟨congrArg (fun z => some (Sum.inl z)) ?_, rfl, rfl⟩
          unfold rkV
          first | (rw [if_pos (show c = 1 by omega)]; (repeat' split) <;> omega) | (rw [if_neg (show ¬ c = 1 by omega), if_pos (show c = 2 by omega)]; (repeat' split) <;> omega) | (rw [if_neg (show ¬ c = 1 by omega), if_neg (show ¬ c = 2 by omega), if_pos (show c = 3 by omega)]; (repeat' split) <;> omega) | (rw [if_neg (show ¬ c = 1 by omega), if_neg (show ¬ c = 2 by omega), if_neg (show ¬ c = 3 by omega), if_pos (show c = 4 by omega)]) | (rw [if_neg (show ¬ c = 1 by omega), if_neg (show ¬ c = 2 by omega), if_neg (show ¬ c = 3 by omega), if_neg (show ¬ c = 4 by omega)]) | omega
        · refine ev_iconst (q := 105) dX4_rank_104 rfl ?_
          refine ev_goto (q := 121) dX4_rank_105 (by decide) ?_
          refine ev_ireturn dX4_rank_121 rfl rfl (by constructor <;> omega) ?_
          refine ⟨congrArg (fun z => some (Sum.inl z)) ?_, rfl, rfl⟩
          unfold rkV
          first | (rw [if_pos (show c = 1 by omega)]; (repeat' split) <;> omega) | (rw [if_neg (show ¬ c = 1 by omega), if_pos (show c = 2 by omega)]; (repeat' split) <;> omega) | (rw [if_neg (show ¬ c = 1 by omega), if_neg (show ¬ c = 2 by omega), if_pos (show c = 3 by omega)]; (repeat' split) <;> omega) | (rw [if_neg (show ¬ c = 1 by omega), if_neg (show ¬ c = 2 by omega), if_neg (show ¬ c = 3 by omega), if_pos (show c = 4 by omega)]) | (rw [if_neg (show ¬ c = 1 by omega), if_neg (show ¬ c = 2 by omega), if_neg (show ¬ c = 3 by omega), if_neg (show ¬ c = 4 by omega)]) | omega
      · refine ev_tableIn (t := 122) dX4_rank_43 (by constructor <;> omega) (by omega) (by omega) (by rw [g_43]; rfl) (by decide) ?_
        refine ev_aload_0 (q := 123) dX4_rank_122 rfl ?_
        refine ev_getR (q := 126) dX4_rank_123 fl_RX4_23 (by first | assumption | rfl) (by rfl) rfl ?_
        refine ev_iload_1 (q := 127) dX4_rank_126 rfl ?_
        refine ev_callV1i (q := 130) dX4_rank_127 vs_RX4_45 (by first | assumption | rfl) (c_X3_specN hr16 h hr) (by decide) (Nat.le_of_ble_eq_true rfl) rfl (fun h_127 => ?_)
        refine ev_ireturn dX4_rank_130 rfl rfl (by constructor <;> omega) ?_
        refine ⟨congrArg (fun z => some (Sum.inl z)) ?_, rfl, rfl⟩
        unfold rkV
        first | (rw [if_pos (show c = 1 by omega)]; (repeat' split) <;> omega) | (rw [if_neg (show ¬ c = 1 by omega), if_pos (show c = 2 by omega)]; (repeat' split) <;> omega) | (rw [if_neg (show ¬ c = 1 by omega), if_neg (show ¬ c = 2 by omega), if_pos (show c = 3 by omega)]; (repeat' split) <;> omega) | (rw [if_neg (show ¬ c = 1 by omega), if_neg (show ¬ c = 2 by omega), if_neg (show ¬ c = 3 by omega), if_pos (show c = 4 by omega)]) | (rw [if_neg (show ¬ c = 1 by omega), if_neg (show ¬ c = 2 by omega), if_neg (show ¬ c = 3 by omega), if_neg (show ¬ c = 4 by omega)]) | omega
  · refine ev_iconst (q := 14) dX4_rank_13 rfl ?_
    refine ev_goto (q := 18) dX4_rank_14 (by decide) ?_
    refine ev_istore_4 (q := 20) dX4_rank_18 rfl (by decide) ?_
    refine ev_aload_0 (q := 21) dX4_rank_20 rfl ?_
    refine ev_getR (q := 24) dX4_rank_21 fl_RX4_23 (by first | assumption | rfl) (by rfl) rfl ?_
    refine ev_iload_1 (q := 25) dX4_rank_24 rfl ?_
    refine ev_iconst (q := 26) dX4_rank_25 rfl ?_
    refine ev_callV2i (q := 29) dX4_rank_26 vs_RX4_27 (by first | assumption | rfl) (c_X3_partN (r := r) (w := 3) hr16 (by decide)) (by decide) (Nat.le_of_ble_eq_true rfl) rfl (fun h_26 => ?_)
    refine ev_istore_5 (q := 31) dX4_rank_29 rfl (by decide) ?_
    refine ev_aload_0 (q := 32) dX4_rank_31 rfl ?_
    refine ev_getR (q := 35) dX4_rank_32 fl_RX4_23 (by first | assumption | rfl) (by rfl) rfl ?_
    refine ev_iload_1 (q := 36) dX4_rank_35 rfl ?_
    refine ev_iconst (q := 37) dX4_rank_36 rfl ?_
    refine ev_callV2i (q := 40) dX4_rank_37 vs_RX4_27 (by first | assumption | rfl) (c_X3_partN (r := r) (w := 4) hr16 (by decide)) (by decide) (Nat.le_of_ble_eq_true rfl) rfl (fun h_37 => ?_)
    refine ev_istore_6 (q := 42) dX4_rank_40 rfl (by decide) ?_
    refine ev_iload_3 (q := 43) dX4_rank_42 rfl ?_
    by_cases g_43 : (c : Int) < 1 ∨ 4 < (c : Int)
    · refine ev_tableOut (t := 131) dX4_rank_43 (by constructor <;> omega) g_43 (by decide) ?_
      refine ev_iload_1 (q := 132) dX4_rank_131 rfl ?_
      refine ev_ireturn dX4_rank_132 rfl rfl (by constructor <;> omega) ?_
      refine ⟨congrArg (fun z => some (Sum.inl z)) ?_, rfl, rfl⟩
      unfold rkV
      first | (rw [if_pos (show c = 1 by omega)]; (repeat' split) <;> omega) | (rw [if_neg (show ¬ c = 1 by omega), if_pos (show c = 2 by omega)]; (repeat' split) <;> omega) | (rw [if_neg (show ¬ c = 1 by omega), if_neg (show ¬ c = 2 by omega), if_pos (show c = 3 by omega)]; (repeat' split) <;> omega) | (rw [if_neg (show ¬ c = 1 by omega), if_neg (show ¬ c = 2 by omega), if_neg (show ¬ c = 3 by omega), if_pos (show c = 4 by omega)]) | (rw [if_neg (show ¬ c = 1 by omega), if_neg (show ¬ c = 2 by omega), if_neg (show ¬ c = 3 by omega), if_neg (show ¬ c = 4 by omega)]) | omega
    · have g2_43 : (c : Int) = 1 ∨ (c : Int) = 2 ∨ (c : Int) = 3 ∨ (c : Int) = 4 := by omega
      rcases g2_43 with g_43 | g_43 | g_43 | g_43
      · refine ev_tableIn (t := 72) dX4_rank_43 (by constructor <;> omega) (by omega) (by omega) (by rw [g_43]; rfl) (by decide) ?_
        refine ev_iload_4 (q := 74) dX4_rank_72 rfl ?_
        refine ev_if_eq (t := 81) (q := 77) dX4_rank_74 (by decide) rfl (by constructor <;> omega) (fun h_74 => ?_) (fun h_74 => ?_)
        · refine ev_iconst (q := 82) dX4_rank_81 rfl ?_
          refine ev_ireturn dX4_rank_82 rfl rfl (by constructor <;> omega) ?_
          refine ⟨congrArg (fun z => some (Sum.inl z)) ?_, rfl, rfl⟩
          unfold rkV
          first | (rw [if_pos (show c = 1 by omega)]; (repeat' split) <;> omega) | (rw [if_neg (show ¬ c = 1 by omega), if_pos (show c = 2 by omega)]; (repeat' split) <;> omega) | (rw [if_neg (show ¬ c = 1 by omega), if_neg (show ¬ c = 2 by omega), if_pos (show c = 3 by omega)]; (repeat' split) <;> omega) | (rw [if_neg (show ¬ c = 1 by omega), if_neg (show ¬ c = 2 by omega), if_neg (show ¬ c = 3 by omega), if_pos (show c = 4 by omega)]) | (rw [if_neg (show ¬ c = 1 by omega), if_neg (show ¬ c = 2 by omega), if_neg (show ¬ c = 3 by omega), if_neg (show ¬ c = 4 by omega)]) | omega
        · refine ev_iconst (q := 78) dX4_rank_77 rfl ?_
          refine ev_goto (q := 82) dX4_rank_78 (by decide) ?_
          refine ev_ireturn dX4_rank_82 rfl rfl (by constructor <;> omega) ?_
          refine ⟨congrArg (fun z => some (Sum.inl z)) ?_, rfl, rfl⟩
          unfold rkV
          first | (rw [if_pos (show c = 1 by omega)]; (repeat' split) <;> omega) | (rw [if_neg (show ¬ c = 1 by omega), if_pos (show c = 2 by omega)]; (repeat' split) <;> omega) | (rw [if_neg (show ¬ c = 1 by omega), if_neg (show ¬ c = 2 by omega), if_pos (show c = 3 by omega)]; (repeat' split) <;> omega) | (rw [if_neg (show ¬ c = 1 by omega), if_neg (show ¬ c = 2 by omega), if_neg (show ¬ c = 3 by omega), if_pos (show c = 4 by omega)]) | (rw [if_neg (show ¬ c = 1 by omega), if_neg (show ¬ c = 2 by omega), if_neg (show ¬ c = 3 by omega), if_neg (show ¬ c = 4 by omega)]) | omega
      · refine ev_tableIn (t := 83) dX4_rank_43 (by constructor <;> omega) (by omega) (by omega) (by rw [g_43]; rfl) (by decide) ?_
        refine ev_iload_4 (q := 85) dX4_rank_83 rfl ?_
        refine ev_if_eq (t := 95) (q := 88) dX4_rank_85 (by decide) rfl (by constructor <;> omega) (fun h_85 => ?_) (fun h_85 => ?_)
        · refine ev_iload_5 (q := 97) dX4_rank_95 rfl ?_
          refine ev_ireturn dX4_rank_97 rfl rfl (by constructor <;> omega) ?_
          refine ⟨congrArg (fun z => some (Sum.inl z)) ?_, rfl, rfl⟩
          unfold rkV
          first | (rw [if_pos (show c = 1 by omega)]; (repeat' split) <;> omega) | (rw [if_neg (show ¬ c = 1 by omega), if_pos (show c = 2 by omega)]; (repeat' split) <;> omega) | (rw [if_neg (show ¬ c = 1 by omega), if_neg (show ¬ c = 2 by omega), if_pos (show c = 3 by omega)]; (repeat' split) <;> omega) | (rw [if_neg (show ¬ c = 1 by omega), if_neg (show ¬ c = 2 by omega), if_neg (show ¬ c = 3 by omega), if_pos (show c = 4 by omega)]) | (rw [if_neg (show ¬ c = 1 by omega), if_neg (show ¬ c = 2 by omega), if_neg (show ¬ c = 3 by omega), if_neg (show ¬ c = 4 by omega)]) | omega
        · refine ev_iconst (q := 89) dX4_rank_88 rfl ?_
          refine ev_iload_5 (q := 91) dX4_rank_89 rfl ?_
          refine ev_isub (q := 92) dX4_rank_91 rfl ?_
          refine ev_goto (q := 97) dX4_rank_92 (by decide) ?_
          refine ev_ireturn dX4_rank_97 rfl rfl (by constructor <;> omega) ?_
          refine ⟨congrArg (fun z => some (Sum.inl z)) ?_, rfl, rfl⟩
          unfold rkV
          first | (rw [if_pos (show c = 1 by omega)]; (repeat' split) <;> omega) | (rw [if_neg (show ¬ c = 1 by omega), if_pos (show c = 2 by omega)]; (repeat' split) <;> omega) | (rw [if_neg (show ¬ c = 1 by omega), if_neg (show ¬ c = 2 by omega), if_pos (show c = 3 by omega)]; (repeat' split) <;> omega) | (rw [if_neg (show ¬ c = 1 by omega), if_neg (show ¬ c = 2 by omega), if_neg (show ¬ c = 3 by omega), if_pos (show c = 4 by omega)]) | (rw [if_neg (show ¬ c = 1 by omega), if_neg (show ¬ c = 2 by omega), if_neg (show ¬ c = 3 by omega), if_neg (show ¬ c = 4 by omega)]) | omega
      · refine ev_tableIn (t := 98) dX4_rank_43 (by constructor <;> omega) (by omega) (by omega) (by rw [g_43]; rfl) (by decide) ?_
        refine ev_iload_6 (q := 100) dX4_rank_98 rfl ?_
        refine ev_iconst (q := 101) dX4_rank_100 rfl ?_
        refine ev_icmp_ne (t := 108) (q := 104) dX4_rank_101 (by decide) rfl (by constructor <;> omega) (by constructor <;> omega) (fun h_101 => ?_) (fun h_101 => ?_)
        · refine ev_bipush (q := 110) dX4_rank_108 rfl (by decide) ?_
          refine ev_aload_0 (q := 111) dX4_rank_110 rfl ?_
          refine ev_getR (q := 114) dX4_rank_111 fl_RX4_12 (by first | assumption | rfl) (by rfl) rfl ?_
          refine ev_iload_2 (q := 115) dX4_rank_114 rfl ?_
          refine ev_iload_6 (q := 117) dX4_rank_115 rfl ?_
          refine ev_callV2i (q := 120) dX4_rank_117 vs_RX4_42 (by first | assumption | rfl) (c_X6_stepsN h he (by constructor <;> omega)) (by decide) (Nat.le_of_ble_eq_true rfl) rfl (fun h_117 => ?_)
          refine ev_isub (q := 121) dX4_rank_120 rfl ?_
          refine ev_ireturn dX4_rank_121 rfl rfl (by constructor <;> omega) ?_
          refine ⟨congrArg (fun z => some (Sum.inl z)) ?_, rfl, rfl⟩
          unfold rkV
          first | (rw [if_pos (show c = 1 by omega)]; (repeat' split) <;> omega) | (rw [if_neg (show ¬ c = 1 by omega), if_pos (show c = 2 by omega)]; (repeat' split) <;> omega) | (rw [if_neg (show ¬ c = 1 by omega), if_neg (show ¬ c = 2 by omega), if_pos (show c = 3 by omega)]; (repeat' split) <;> omega) | (rw [if_neg (show ¬ c = 1 by omega), if_neg (show ¬ c = 2 by omega), if_neg (show ¬ c = 3 by omega), if_pos (show c = 4 by omega)]) | (rw [if_neg (show ¬ c = 1 by omega), if_neg (show ¬ c = 2 by omega), if_neg (show ¬ c = 3 by omega), if_neg (show ¬ c = 4 by omega)]) | omega
        · refine ev_iconst (q := 105) dX4_rank_104 rfl ?_
          refine ev_goto (q := 121) dX4_rank_105 (by decide) ?_
          refine ev_ireturn dX4_rank_121 rfl rfl (by constructor <;> omega) ?_
          refine ⟨congrArg (fun z => some (Sum.inl z)) ?_, rfl, rfl⟩
          unfold rkV
          first | (rw [if_pos (show c = 1 by omega)]; (repeat' split) <;> omega) | (rw [if_neg (show ¬ c = 1 by omega), if_pos (show c = 2 by omega)]; (repeat' split) <;> omega) | (rw [if_neg (show ¬ c = 1 by omega), if_neg (show ¬ c = 2 by omega), if_pos (show c = 3 by omega)]; (repeat' split) <;> omega) | (rw [if_neg (show ¬ c = 1 by omega), if_neg (show ¬ c = 2 by omega), if_neg (show ¬ c = 3 by omega), if_pos (show c = 4 by omega)]) | (rw [if_neg (show ¬ c = 1 by omega), if_neg (show ¬ c = 2 by omega), if_neg (show ¬ c = 3 by omega), if_neg (show ¬ c = 4 by omega)]) | omega
      · refine ev_tableIn (t := 122) dX4_rank_43 (by constructor <;> omega) (by omega) (by omega) (by rw [g_43]; rfl) (by decide) ?_
        refine ev_aload_0 (q := 123) dX4_rank_122 rfl ?_
        refine ev_getR (q := 126) dX4_rank_123 fl_RX4_23 (by first | assumption | rfl) (by rfl) rfl ?_
        refine ev_iload_1 (q := 127) dX4_rank_126 rfl ?_
        refine ev_callV1i (q := 130) dX4_rank_127 vs_RX4_45 (by first | assumption | rfl) (c_X3_specN hr16 h hr) (by decide) (Nat.le_of_ble_eq_true rfl) rfl (fun h_127 => ?_)
        refine ev_ireturn dX4_rank_130 rfl rfl (by constructor <;> omega) ?_
        refine ⟨congrArg (fun z => some (Sum.inl z)) ?_, rfl, rfl⟩
        unfold rkV
        first | (rw [if_pos (show c = 1 by omega)]; (repeat' split) <;> omega) | (rw [if_neg (show ¬ c = 1 by omega), if_pos (show c = 2 by omega)]; (repeat' split) <;> omega) | (rw [if_neg (show ¬ c = 1 by omega), if_neg (show ¬ c = 2 by omega), if_pos (show c = 3 by omega)]; (repeat' split) <;> omega) | (rw [if_neg (show ¬ c = 1 by omega), if_neg (show ¬ c = 2 by omega), if_neg (show ¬ c = 3 by omega), if_pos (show c = 4 by omega)]) | (rw [if_neg (show ¬ c = 1 by omega), if_neg (show ¬ c = 2 by omega), if_neg (show ¬ c = 3 by omega), if_neg (show ¬ c = 4 by omega)]) | omega

