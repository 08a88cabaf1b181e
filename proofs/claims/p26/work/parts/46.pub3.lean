def dsV (v : Vw) (r : Nat) : Int := cnt (fun p => dclV v p r) 16
def rsV (v : Vw) (r : Nat) : Int := cnt (fun p => decide (ven v r p 1 ≠ -1)) 16
def coV (v : Vw) (hs tl w : Int) : Int := if w = 0 then vel v else if w = 1 then vrn v else if w = 2 then sumN (dsV v) (vrn v).toNat else if w = 3 then sumN (rsV v) (vrn v).toNat else if w = 4 then sumN (ccV v) (vel v).toNat else if w = 5 then hs else tl
theorem dsV_M {M : ev_M} {r : Nat} {x : Int} (hx : x = (r : Int)) : cnt (fun p => dcl M 13 x p) 16 = dsV (cV M 1) r := by
  subst hx
  exact cnt_congr 16 (fun p _ => dcl_V r p)
theorem rsV_M {M : ev_M} (r : Nat) : cnt (fun p => rfs M 13 r p) 16 = rsV (cV M 1) r := by
  refine cnt_congr 16 (fun p _ => ?_)
  unfold rfs
  rw [show ((r : Int) * 48 + (p : Int) * 3 + 1).toNat = 48 * r + 3 * p + 1 by omega]
  rfl
set_option maxHeartbeats 4000000 in
theorem p_count {l : Launch} {M : ev_M} {w : Int} (hw : inR w) (h : IC M) : Ri l 6 kX7_count yX7_count S0 M [vr 0, vi w] (fun x M2 => ((¬ (0 ≤ w ∧ w ≤ 6) ∧ x = -11) ∨ ((0 ≤ w ∧ w ≤ 6) ∧ x = coV (cV M 1) (M 14 2) (M 92 1) w)) ∧ Qy M M2) := by
  have hn : 1 ≤ M 2 0 ∧ M 2 0 ≤ 16 := h.1.1
  have hrn : 0 ≤ M 9 0 ∧ M 9 0 ≤ 16 := h.1.2.1
  have hW := h.1
  refine Ct.of (by decide) rfl (by decide) (Nat.le_of_ble_eq_true rfl) (Ev_RM (fun hR => ?_))
  refine (show Ev _ none _ _ _ _ _ 0 [_, _] [] _ from ?_)
  refine ev_iload_1 (q := 1) dX7_count_0 rfl ?_
  by_cases g_1 : w < 0 ∨ 6 < w
  · refine ev_tableOut (t := 119) dX7_count_1 (by constructor <;> omega) g_1 (by decide) ?_
    refine ev_bipush (q := 121) dX7_count_119 rfl (by decide) ?_
    refine ev_ireturn dX7_count_121 rfl rfl (by constructor <;> omega) ?_
    exact ⟨_, rfl, rfl, Or.inl ⟨by omega, rfl⟩, Or.inl rfl⟩
  · have g2_1 : w = 0 ∨ w = 1 ∨ w = 2 ∨ w = 3 ∨ w = 4 ∨ w = 5 ∨ w = 6 := by omega
    rcases g2_1 with g_1 | g_1 | g_1 | g_1 | g_1 | g_1 | g_1
    · refine ev_tableIn (t := 44) dX7_count_1 (by constructor <;> omega) (by omega) (by omega) (by rw [g_1]; rfl) (by decide) ?_
      refine ev_aload_0 (q := 45) dX7_count_44 rfl ?_
      refine ev_getR (q := 48) dX7_count_45 fl_RX7_10 (by first | assumption | rfl) (by rfl) rfl ?_
      refine ev_getR (q := 51) dX7_count_48 fl_RX7_37 (by first | assumption | rfl) (by rfl) rfl ?_
      refine ev_callV0i (q := 54) dX7_count_51 vs_RX7_51 (by first | assumption | rfl) c_X6_size (by decide) (Nat.le_of_ble_eq_true rfl) rfl (fun h_51 => ?_)
      refine ev_ireturn dX7_count_54 rfl rfl (by constructor <;> omega) ?_
      exact ⟨_, rfl, rfl, Or.inr ⟨by omega, by rw [coV, if_pos g_1]; rfl⟩, Or.inl rfl⟩
    · refine ev_tableIn (t := 55) dX7_count_1 (by constructor <;> omega) (by omega) (by omega) (by rw [g_1]; rfl) (by decide) ?_
      refine ev_aload_0 (q := 56) dX7_count_55 rfl ?_
      refine ev_getR (q := 59) dX7_count_56 fl_RX7_10 (by first | assumption | rfl) (by rfl) rfl ?_
      refine ev_getR (q := 62) dX7_count_59 fl_RX7_62 (by first | assumption | rfl) (by rfl) rfl ?_
      refine ev_callV0i (q := 65) dX7_count_62 vs_RX7_102 (by first | assumption | rfl) c_X3_size (by decide) (Nat.le_of_ble_eq_true rfl) rfl (fun h_62 => ?_)
      refine ev_ireturn dX7_count_65 rfl rfl (by constructor <;> omega) ?_
      exact ⟨_, rfl, rfl, Or.inr ⟨by omega, by rw [coV, if_neg (by omega), if_pos g_1]; rfl⟩, Or.inl rfl⟩
    · refine ev_tableIn (t := 66) dX7_count_1 (by constructor <;> omega) (by omega) (by omega) (by rw [g_1]; rfl) (by decide) ?_
      refine ev_aload_0 (q := 67) dX7_count_66 rfl ?_
      refine ev_getR (q := 70) dX7_count_67 fl_RX7_10 (by first | assumption | rfl) (by rfl) rfl ?_
      refine ev_getR (q := 73) dX7_count_70 fl_RX7_62 (by first | assumption | rfl) (by rfl) rfl ?_
      refine ev_callV0i (q := 76) dX7_count_73 vs_RX7_103 (by first | assumption | rfl) (c_X3_allDeclarations (by omega)) (by decide) (Nat.le_of_ble_eq_true rfl) rfl (fun h_73 => ?_)
      refine ev_ireturn dX7_count_76 rfl rfl (by constructor <;> omega) ?_
      exact ⟨_, rfl, rfl, Or.inr ⟨by omega, by rw [coV, if_neg (by omega), if_neg (by omega), if_pos g_1]; exact sumN_congr _ (fun r _ => dsV_M rfl)⟩, Or.inl rfl⟩
    · refine ev_tableIn (t := 77) dX7_count_1 (by constructor <;> omega) (by omega) (by omega) (by rw [g_1]; rfl) (by decide) ?_
      refine ev_aload_0 (q := 78) dX7_count_77 rfl ?_
      refine ev_getR (q := 81) dX7_count_78 fl_RX7_10 (by first | assumption | rfl) (by rfl) rfl ?_
      refine ev_getR (q := 84) dX7_count_81 fl_RX7_62 (by first | assumption | rfl) (by rfl) rfl ?_
      refine ev_callV0i (q := 87) dX7_count_84 vs_RX7_106 (by first | assumption | rfl) (c_X3_allReferences (by omega)) (by decide) (Nat.le_of_ble_eq_true rfl) rfl (fun h_84 => ?_)
      refine ev_ireturn dX7_count_87 rfl rfl (by constructor <;> omega) ?_
      exact ⟨_, rfl, rfl, Or.inr ⟨by omega, by rw [coV, if_neg (by omega), if_neg (by omega), if_neg (by omega), if_pos g_1]; exact sumN_congr _ (fun r _ => rsV_M r)⟩, Or.inl rfl⟩
    · refine ev_tableIn (t := 88) dX7_count_1 (by constructor <;> omega) (by omega) (by omega) (by rw [g_1]; rfl) (by decide) ?_
      refine ev_aload_0 (q := 89) dX7_count_88 rfl ?_
      refine ev_getR (q := 92) dX7_count_89 fl_RX7_26 (by first | assumption | rfl) (by rfl) rfl ?_
      refine ev_aload_0 (q := 93) dX7_count_92 rfl ?_
      refine ev_getR (q := 96) dX7_count_93 fl_RX7_10 (by first | assumption | rfl) (by rfl) rfl ?_
      refine ev_callV1rQ (q := 99) dX7_count_96 vs_RX7_92 (by first | assumption | rfl) (c_X1_of hR rfl hW h.2.2.2.2.2.1 h.2.2.2.2.2.2) (by decide) (Nat.le_of_ble_eq_true rfl) rfl (fun M_96 hq_96 => ?_)
      obtain ⟨o1, o2, o3⟩ := hq_96
      have o4 : M_96 81 1 = M 2 0 := o2.1
      refine ev_callV0i (q := 102) dX7_count_99 vs_RX7_109 (by first | assumption | rfl) (c_X1_allCyclic (by rw [o4]; omega)) (by decide) (Nat.le_of_ble_eq_true rfl) rfl (fun h_99 => ?_)
      refine ev_ireturn dX7_count_102 rfl rfl (by constructor <;> omega) ?_
      refine ⟨_, rfl, rfl, Or.inr ⟨by omega, ?_⟩, Or.inr ⟨o1, o2, o3⟩⟩
      rw [coV, if_neg (by omega), if_neg (by omega), if_neg (by omega), if_neg (by omega), if_pos g_1, o4]
      refine sumN_congr _ (fun e he => cnt_congr _ (fun q hq => ?_))
      have o5 := o2.2.2 e (by show (e : Int) < M 2 0; omega)
      rw [o5.2.2.1 (8 + q) (by omega) (by omega)]
      rfl
    · refine ev_tableIn (t := 103) dX7_count_1 (by constructor <;> omega) (by omega) (by omega) (by rw [g_1]; rfl) (by decide) ?_
      refine ev_aload_0 (q := 104) dX7_count_103 rfl ?_
      refine ev_getR (q := 107) dX7_count_104 fl_RX7_19 (by first | assumption | rfl) (by rfl) rfl ?_
      refine ev_callV0i (q := 110) dX7_count_107 vs_RX7_112 (by first | assumption | rfl) c_X0_size (by decide) (Nat.le_of_ble_eq_true rfl) rfl (fun h_107 => ?_)
      refine ev_ireturn dX7_count_110 rfl rfl (by constructor <;> omega) ?_
      exact ⟨_, rfl, rfl, Or.inr ⟨by omega, by rw [coV, if_neg (by omega), if_neg (by omega), if_neg (by omega), if_neg (by omega), if_neg (by omega), if_pos g_1]⟩, Or.inl rfl⟩
    · refine ev_tableIn (t := 111) dX7_count_1 (by constructor <;> omega) (by omega) (by omega) (by rw [g_1]; rfl) (by decide) ?_
      refine ev_aload_0 (q := 112) dX7_count_111 rfl ?_
      refine ev_getR (q := 115) dX7_count_112 fl_RX7_33 (by first | assumption | rfl) (by rfl) rfl ?_
      refine ev_callV0i (q := 118) dX7_count_115 vs_RX7_113 (by first | assumption | rfl) c_X5_length (by decide) (Nat.le_of_ble_eq_true rfl) rfl (fun h_115 => ?_)
      refine ev_ireturn dX7_count_118 rfl rfl (by constructor <;> omega) ?_
      exact ⟨_, rfl, rfl, Or.inr ⟨by omega, by rw [coV, if_neg (by omega), if_neg (by omega), if_neg (by omega), if_neg (by omega), if_neg (by omega), if_neg (by omega)]⟩, Or.inl rfl⟩
def ruV (v : Vw) (r : Nat) (w : Int) : Int := if w < 6 then vpt v r w.toNat else if w = 6 then spc (vpt v r 0) (vpt v r 1) (vpt v r 2) else if w = 7 then dsV v r else emV v r
set_option maxHeartbeats 4000000 in
theorem p_ruleOf {l : Launch} {M : ev_M} {r w : Int} (hr : inR r) (hw : inR w) (h : IC M) : Ri l 6 kX7_ruleOf yX7_ruleOf S0 M [vr 0, vi r, vi w] (fun x M2 => ((¬ ((0 ≤ r ∧ r < M 9 0) ∧ 0 ≤ w ∧ w ≤ 8) ∧ x = -11) ∨ (((0 ≤ r ∧ r < M 9 0) ∧ 0 ≤ w ∧ w ≤ 8) ∧ x = ruV (cV M 1) r.toNat w)) ∧ Qy M M2) := by
  have hn : 1 ≤ M 2 0 ∧ M 2 0 ≤ 16 := h.1.1
  have hrn : 0 ≤ M 9 0 ∧ M 9 0 ≤ 16 := h.1.2.1
  have hW := h.1
  refine Ct.of (by decide) rfl (by decide) (Nat.le_of_ble_eq_true rfl) (Ev_RM (fun hR => ?_))
  refine (show Ev _ none _ _ _ _ _ 0 [_, _, _] [] _ from ?_)
  refine ev_aload_0 (q := 1) dX7_ruleOf_0 rfl ?_
  refine ev_getR (q := 4) dX7_ruleOf_1 fl_RX7_10 (by first | assumption | rfl) (by rfl) rfl ?_
  refine ev_getR (q := 7) dX7_ruleOf_4 fl_RX7_62 (by first | assumption | rfl) (by rfl) rfl ?_
  refine ev_iload_1 (q := 8) dX7_ruleOf_7 rfl ?_
  refine ev_callV1i (q := 11) dX7_ruleOf_8 vs_RX7_126 (by first | assumption | rfl) (c_X3_has (by constructor <;> omega) (by omega)) (by decide) (Nat.le_of_ble_eq_true rfl) rfl (fun h_8 => ?_)
  refine ev_b_ne (t := 17) (q := 14) dX7_ruleOf_11 (by decide) rfl (fun h_11 => ?_) (fun h_11 => ?_)
  · refine ev_iload_2 (q := 18) dX7_ruleOf_17 rfl ?_
    by_cases g_18 : w < 0 ∨ 8 < w
    · refine ev_tableOut (t := 121) dX7_ruleOf_18 (by constructor <;> omega) g_18 (by decide) ?_
      refine ev_bipush (q := 123) dX7_ruleOf_121 rfl (by decide) ?_
      refine ev_ireturn dX7_ruleOf_123 rfl rfl (by constructor <;> omega) ?_
      exact ⟨_, rfl, rfl, Or.inl ⟨by omega, rfl⟩, Or.inl rfl⟩
    · have g2_18 : w = 0 ∨ w = 1 ∨ w = 2 ∨ w = 3 ∨ w = 4 ∨ w = 5 ∨ w = 6 ∨ w = 7 ∨ w = 8 := by omega
      rcases g2_18 with g_18 | g_18 | g_18 | g_18 | g_18 | g_18 | g_18 | g_18 | g_18
      · refine ev_tableIn (t := 68) dX7_ruleOf_18 (by constructor <;> omega) (by omega) (by omega) (by rw [g_18]; rfl) (by decide) ?_
        refine ev_aload_0 (q := 69) dX7_ruleOf_68 rfl ?_
        refine ev_getR (q := 72) dX7_ruleOf_69 fl_RX7_10 (by first | assumption | rfl) (by rfl) rfl ?_
        refine ev_getR (q := 75) dX7_ruleOf_72 fl_RX7_62 (by first | assumption | rfl) (by rfl) rfl ?_
        refine ev_iload_1 (q := 76) dX7_ruleOf_75 rfl ?_
        refine ev_iload_2 (q := 77) dX7_ruleOf_76 rfl ?_
        refine ev_callV2i (q := 80) dX7_ruleOf_77 vs_RX7_147 (by first | assumption | rfl) (c_X3_part (by omega) (by omega)) (by decide) (Nat.le_of_ble_eq_true rfl) rfl (fun h_77 => ?_)
        refine ev_ireturn dX7_ruleOf_80 rfl rfl (by constructor <;> omega) ?_
        exact ⟨_, rfl, rfl, Or.inr ⟨by omega, by rw [ruV, if_pos (by omega), show (r * 6 + w).toNat = 6 * r.toNat + w.toNat by omega]; rfl⟩, Or.inl rfl⟩
      · refine ev_tableIn (t := 68) dX7_ruleOf_18 (by constructor <;> omega) (by omega) (by omega) (by rw [g_18]; rfl) (by decide) ?_
        refine ev_aload_0 (q := 69) dX7_ruleOf_68 rfl ?_
        refine ev_getR (q := 72) dX7_ruleOf_69 fl_RX7_10 (by first | assumption | rfl) (by rfl) rfl ?_
        refine ev_getR (q := 75) dX7_ruleOf_72 fl_RX7_62 (by first | assumption | rfl) (by rfl) rfl ?_
        refine ev_iload_1 (q := 76) dX7_ruleOf_75 rfl ?_
        refine ev_iload_2 (q := 77) dX7_ruleOf_76 rfl ?_
        refine ev_callV2i (q := 80) dX7_ruleOf_77 vs_RX7_147 (by first | assumption | rfl) (c_X3_part (by omega) (by omega)) (by decide) (Nat.le_of_ble_eq_true rfl) rfl (fun h_77 => ?_)
        refine ev_ireturn dX7_ruleOf_80 rfl rfl (by constructor <;> omega) ?_
        exact ⟨_, rfl, rfl, Or.inr ⟨by omega, by rw [ruV, if_pos (by omega), show (r * 6 + w).toNat = 6 * r.toNat + w.toNat by omega]; rfl⟩, Or.inl rfl⟩
      · refine ev_tableIn (t := 68) dX7_ruleOf_18 (by constructor <;> omega) (by omega) (by omega) (by rw [g_18]; rfl) (by decide) ?_
        refine ev_aload_0 (q := 69) dX7_ruleOf_68 rfl ?_
        refine ev_getR (q := 72) dX7_ruleOf_69 fl_RX7_10 (by first | assumption | rfl) (by rfl) rfl ?_
        refine ev_getR (q := 75) dX7_ruleOf_72 fl_RX7_62 (by first | assumption | rfl) (by rfl) rfl ?_
        refine ev_iload_1 (q := 76) dX7_ruleOf_75 rfl ?_
        refine ev_iload_2 (q := 77) dX7_ruleOf_76 rfl ?_
        refine ev_callV2i (q := 80) dX7_ruleOf_77 vs_RX7_147 (by first | assumption | rfl) (c_X3_part (by omega) (by omega)) (by decide) (Nat.le_of_ble_eq_true rfl) rfl (fun h_77 => ?_)
        refine ev_ireturn dX7_ruleOf_80 rfl rfl (by constructor <;> omega) ?_
        exact ⟨_, rfl, rfl, Or.inr ⟨by omega, by rw [ruV, if_pos (by omega), show (r * 6 + w).toNat = 6 * r.toNat + w.toNat by omega]; rfl⟩, Or.inl rfl⟩
      · refine ev_tableIn (t := 68) dX7_ruleOf_18 (by constructor <;> omega) (by omega) (by omega) (by rw [g_18]; rfl) (by decide) ?_
        refine ev_aload_0 (q := 69) dX7_ruleOf_68 rfl ?_
        refine ev_getR (q := 72) dX7_ruleOf_69 fl_RX7_10 (by first | assumption | rfl) (by rfl) rfl ?_
        refine ev_getR (q := 75) dX7_ruleOf_72 fl_RX7_62 (by first | assumption | rfl) (by rfl) rfl ?_
        refine ev_iload_1 (q := 76) dX7_ruleOf_75 rfl ?_
        refine ev_iload_2 (q := 77) dX7_ruleOf_76 rfl ?_
        refine ev_callV2i (q := 80) dX7_ruleOf_77 vs_RX7_147 (by first | assumption | rfl) (c_X3_part (by omega) (by omega)) (by decide) (Nat.le_of_ble_eq_true rfl) rfl (fun h_77 => ?_)
        refine ev_ireturn dX7_ruleOf_80 rfl rfl (by constructor <;> omega) ?_
        exact ⟨_, rfl, rfl, Or.inr ⟨by omega, by rw [ruV, if_pos (by omega), show (r * 6 + w).toNat = 6 * r.toNat + w.toNat by omega]; rfl⟩, Or.inl rfl⟩
      · refine ev_tableIn (t := 68) dX7_ruleOf_18 (by constructor <;> omega) (by omega) (by omega) (by rw [g_18]; rfl) (by decide) ?_
        refine ev_aload_0 (q := 69) dX7_ruleOf_68 rfl ?_
        refine ev_getR (q := 72) dX7_ruleOf_69 fl_RX7_10 (by first | assumption | rfl) (by rfl) rfl ?_
        refine ev_getR (q := 75) dX7_ruleOf_72 fl_RX7_62 (by first | assumption | rfl) (by rfl) rfl ?_
        refine ev_iload_1 (q := 76) dX7_ruleOf_75 rfl ?_
        refine ev_iload_2 (q := 77) dX7_ruleOf_76 rfl ?_
        refine ev_callV2i (q := 80) dX7_ruleOf_77 vs_RX7_147 (by first | assumption | rfl) (c_X3_part (by omega) (by omega)) (by decide) (Nat.le_of_ble_eq_true rfl) rfl (fun h_77 => ?_)
        refine ev_ireturn dX7_ruleOf_80 rfl rfl (by constructor <;> omega) ?_
        exact ⟨_, rfl, rfl, Or.inr ⟨by omega, by rw [ruV, if_pos (by omega), show (r * 6 + w).toNat = 6 * r.toNat + w.toNat by omega]; rfl⟩, Or.inl rfl⟩
      · refine ev_tableIn (t := 68) dX7_ruleOf_18 (by constructor <;> omega) (by omega) (by omega) (by rw [g_18]; rfl) (by decide) ?_
        refine ev_aload_0 (q := 69) dX7_ruleOf_68 rfl ?_
        refine ev_getR (q := 72) dX7_ruleOf_69 fl_RX7_10 (by first | assumption | rfl) (by rfl) rfl ?_
        refine ev_getR (q := 75) dX7_ruleOf_72 fl_RX7_62 (by first | assumption | rfl) (by rfl) rfl ?_
        refine ev_iload_1 (q := 76) dX7_ruleOf_75 rfl ?_
        refine ev_iload_2 (q := 77) dX7_ruleOf_76 rfl ?_
        refine ev_callV2i (q := 80) dX7_ruleOf_77 vs_RX7_147 (by first | assumption | rfl) (c_X3_part (by omega) (by omega)) (by decide) (Nat.le_of_ble_eq_true rfl) rfl (fun h_77 => ?_)
        refine ev_ireturn dX7_ruleOf_80 rfl rfl (by constructor <;> omega) ?_
        exact ⟨_, rfl, rfl, Or.inr ⟨by omega, by rw [ruV, if_pos (by omega), show (r * 6 + w).toNat = 6 * r.toNat + w.toNat by omega]; rfl⟩, Or.inl rfl⟩
      · refine ev_tableIn (t := 81) dX7_ruleOf_18 (by constructor <;> omega) (by omega) (by omega) (by rw [g_18]; rfl) (by decide) ?_
        refine ev_aload_0 (q := 82) dX7_ruleOf_81 rfl ?_
        refine ev_getR (q := 85) dX7_ruleOf_82 fl_RX7_10 (by first | assumption | rfl) (by rfl) rfl ?_
        refine ev_getR (q := 88) dX7_ruleOf_85 fl_RX7_62 (by first | assumption | rfl) (by rfl) rfl ?_
        refine ev_iload_1 (q := 89) dX7_ruleOf_88 rfl ?_
        rw [show r = ((r.toNat : Nat) : Int) by omega]
        refine ev_callV1i (q := 92) dX7_ruleOf_89 vs_RX7_150 (by first | assumption | rfl) (c_X3_specN (r := r.toNat) (by omega) hW (by omega)) (by decide) (Nat.le_of_ble_eq_true rfl) rfl (fun h_89 => ?_)
        refine ev_ireturn dX7_ruleOf_92 rfl rfl (by constructor <;> omega) ?_
        exact ⟨_, rfl, rfl, Or.inr ⟨by omega, by rw [ruV, if_neg (by omega), if_pos g_18, Int.toNat_natCast]⟩, Or.inl rfl⟩
      · refine ev_tableIn (t := 93) dX7_ruleOf_18 (by constructor <;> omega) (by omega) (by omega) (by rw [g_18]; rfl) (by decide) ?_
        refine ev_aload_0 (q := 94) dX7_ruleOf_93 rfl ?_
        refine ev_getR (q := 97) dX7_ruleOf_94 fl_RX7_10 (by first | assumption | rfl) (by rfl) rfl ?_
        refine ev_getR (q := 100) dX7_ruleOf_97 fl_RX7_62 (by first | assumption | rfl) (by rfl) rfl ?_
        refine ev_iload_1 (q := 101) dX7_ruleOf_100 rfl ?_
        refine ev_callV1i (q := 104) dX7_ruleOf_101 vs_RX7_137 (by first | assumption | rfl) (c_X3_declarationsOf (by omega)) (by decide) (Nat.le_of_ble_eq_true rfl) rfl (fun h_101 => ?_)
        refine ev_ireturn dX7_ruleOf_104 rfl rfl (by constructor <;> omega) ?_
        exact ⟨_, rfl, rfl, Or.inr ⟨by omega, by rw [ruV, if_neg (by omega), if_neg (by omega), if_pos g_18]; exact dsV_M (by omega)⟩, Or.inl rfl⟩
      · refine ev_tableIn (t := 105) dX7_ruleOf_18 (by constructor <;> omega) (by omega) (by omega) (by rw [g_18]; rfl) (by decide) ?_
        refine ev_aload_0 (q := 106) dX7_ruleOf_105 rfl ?_
        refine ev_getR (q := 109) dX7_ruleOf_106 fl_RX7_26 (by first | assumption | rfl) (by rfl) rfl ?_
        refine ev_aload_0 (q := 110) dX7_ruleOf_109 rfl ?_
        refine ev_getR (q := 113) dX7_ruleOf_110 fl_RX7_10 (by first | assumption | rfl) (by rfl) rfl ?_
        refine ev_callV1rQ (q := 116) dX7_ruleOf_113 vs_RX7_92 (by first | assumption | rfl) (c_X1_of hR rfl hW h.2.2.2.2.2.1 h.2.2.2.2.2.2) (by decide) (Nat.le_of_ble_eq_true rfl) rfl (fun M_113 hq_113 => ?_)
        obtain ⟨o1, o2, o3⟩ := hq_113
        have o4 : M_113 81 1 = M 2 0 := o2.1
        rw [show r = ((r.toNat : Nat) : Int) by omega]
        refine ev_iload_1 (q := 117) dX7_ruleOf_116 rfl ?_
        refine ev_callV1i (q := 120) dX7_ruleOf_117 vs_RX7_153 (by first | assumption | rfl) (c_X1_elementsOf (r := r.toNat) (by omega) (by rw [o4]; omega)) (by decide) (Nat.le_of_ble_eq_true rfl) rfl (fun h_117 => ?_)
        refine ev_ireturn dX7_ruleOf_120 rfl rfl (by constructor <;> omega) ?_
        refine ⟨_, rfl, rfl, Or.inr ⟨by omega, ?_⟩, Or.inr ⟨o1, o2, o3⟩⟩
        rw [ruV, if_neg (by omega), if_neg (by omega), if_neg (by omega), o4]
        refine cnt_congr _ (fun e he => ?_)
        have o5 := o2.2.2 e (by show (e : Int) < M 2 0; omega)
        have h9 : ((r.toNat : Nat) : Int) < vrn (cV M 1) := by show ((r.toNat : Nat) : Int) < M 9 0; omega
        rw [o5.1 r.toNat h9]
        exact strV_fit hW h9
  · refine ev_bipush (q := 16) dX7_ruleOf_14 rfl (by decide) ?_
    refine ev_ireturn dX7_ruleOf_16 rfl rfl (by constructor <;> omega) ?_
    exact ⟨_, rfl, rfl, Or.inl ⟨by omega, rfl⟩, Or.inl rfl⟩
set_option maxHeartbeats 4000000 in
theorem p_matches {l : Launch} {M : ev_M} {r e : Int} (hr : inR r) (he : inR e) (h : IC M) : Ri l 6 kX7_matches yX7_matches S0 M [vr 0, vi r, vi e] (fun x M2 => ((¬ ((0 ≤ r ∧ r < M 9 0) ∧ 0 ≤ e ∧ e < M 2 0) ∧ x = -11) ∨ (((0 ≤ r ∧ r < M 9 0) ∧ 0 ≤ e ∧ e < M 2 0) ∧ x = (if fitB (cV M 1) r.toNat e.toNat = true then 1 else 0))) ∧ Qy M M2) := by
  have hn : 1 ≤ M 2 0 ∧ M 2 0 ≤ 16 := h.1.1
  have hrn : 0 ≤ M 9 0 ∧ M 9 0 ≤ 16 := h.1.2.1
  have hW := h.1
  refine Ct.of (by decide) rfl (by decide) (Nat.le_of_ble_eq_true rfl) (Ev_RM (fun hR => ?_))
  refine (show Ev _ none _ _ _ _ _ 0 [_, _, _] [] _ from ?_)
  refine ev_aload_0 (q := 1) dX7_matches_0 rfl ?_
  refine ev_getR (q := 4) dX7_matches_1 fl_RX7_10 (by first | assumption | rfl) (by rfl) rfl ?_
  refine ev_getR (q := 7) dX7_matches_4 fl_RX7_62 (by first | assumption | rfl) (by rfl) rfl ?_
  refine ev_iload_1 (q := 8) dX7_matches_7 rfl ?_
  refine ev_callV1i (q := 11) dX7_matches_8 vs_RX7_126 (by first | assumption | rfl) (c_X3_has (by constructor <;> omega) (by omega)) (by decide) (Nat.le_of_ble_eq_true rfl) rfl (fun h_8 => ?_)
  refine ev_b_eq (t := 28) (q := 14) dX7_matches_11 (by decide) rfl (fun h_11 => ?_) (fun h_11 => ?_)
  · refine ev_bipush (q := 30) dX7_matches_28 rfl (by decide) ?_
    refine ev_ireturn dX7_matches_30 rfl rfl (by constructor <;> omega) ?_
    exact ⟨_, rfl, rfl, Or.inl ⟨by omega, rfl⟩, Or.inl rfl⟩
  · refine ev_aload_0 (q := 15) dX7_matches_14 rfl ?_
    refine ev_getR (q := 18) dX7_matches_15 fl_RX7_10 (by first | assumption | rfl) (by rfl) rfl ?_
    refine ev_getR (q := 21) dX7_matches_18 fl_RX7_37 (by first | assumption | rfl) (by rfl) rfl ?_
    refine ev_iload_2 (q := 22) dX7_matches_21 rfl ?_
    refine ev_callV1i (q := 25) dX7_matches_22 vs_RX7_41 (by first | assumption | rfl) (c_X6_has (by constructor <;> omega) (by omega)) (by decide) (Nat.le_of_ble_eq_true rfl) rfl (fun h_22 => ?_)
    refine ev_b_ne (t := 31) (q := 28) dX7_matches_25 (by decide) rfl (fun h_25 => ?_) (fun h_25 => ?_)
    · refine ev_aload_0 (q := 32) dX7_matches_31 rfl ?_
      refine ev_getR (q := 35) dX7_matches_32 fl_RX7_26 (by first | assumption | rfl) (by rfl) rfl ?_
      refine ev_aload_0 (q := 36) dX7_matches_35 rfl ?_
      refine ev_getR (q := 39) dX7_matches_36 fl_RX7_10 (by first | assumption | rfl) (by rfl) rfl ?_
      refine ev_callV1rQ (q := 42) dX7_matches_39 vs_RX7_92 (by first | assumption | rfl) (c_X1_of hR rfl hW h.2.2.2.2.2.1 h.2.2.2.2.2.2) (by decide) (Nat.le_of_ble_eq_true rfl) rfl (fun M_39 hq_39 => ?_)
      obtain ⟨o1, o2, o3⟩ := hq_39
      have o5 := o2.2.2 e.toNat (by show ((e.toNat : Nat) : Int) < M 2 0; omega)
      have h9 : ((r.toNat : Nat) : Int) < vrn (cV M 1) := by show ((r.toNat : Nat) : Int) < M 9 0; omega
      have hf := strV_fit hW (e := e.toNat) h9
      rw [← o5.1 r.toNat h9, show 16 * e.toNat + r.toNat = (e * 16 + r).toNat by omega] at hf
      refine ev_iload_1 (q := 43) dX7_matches_42 rfl ?_
      refine ev_iload_2 (q := 44) dX7_matches_43 rfl ?_
      refine ev_callV2i (q := 47) dX7_matches_44 vs_RX7_162 (by first | assumption | rfl) (c_X1_isMatch (by omega) (by omega)) (by decide) (Nat.le_of_ble_eq_true rfl) rfl (fun h_44 => ?_)
      refine ev_b_eq (t := 54) (q := 50) dX7_matches_47 (by decide) rfl (fun h_47 => ?_) (fun h_47 => ?_)
      · refine ev_iconst (q := 55) dX7_matches_54 rfl ?_
        refine ev_ireturn dX7_matches_55 rfl rfl (by constructor <;> omega) ?_
        first | exact ⟨_, rfl, rfl, Or.inr ⟨by omega, by rw [← hf, if_pos (decide_eq_true h_47)]⟩, Or.inr ⟨o1, o2, o3⟩⟩ | exact ⟨_, rfl, rfl, Or.inr ⟨by omega, by rw [← hf, if_neg (fun q => h_47 (of_decide_eq_true q))]⟩, Or.inr ⟨o1, o2, o3⟩⟩
      · refine ev_iconst (q := 51) dX7_matches_50 rfl ?_
        refine ev_goto (q := 55) dX7_matches_51 (by decide) ?_
        refine ev_ireturn dX7_matches_55 rfl rfl (by constructor <;> omega) ?_
        first | exact ⟨_, rfl, rfl, Or.inr ⟨by omega, by rw [← hf, if_pos (decide_eq_true h_47)]⟩, Or.inr ⟨o1, o2, o3⟩⟩ | exact ⟨_, rfl, rfl, Or.inr ⟨by omega, by rw [← hf, if_neg (fun q => h_47 (of_decide_eq_true q))]⟩, Or.inr ⟨o1, o2, o3⟩⟩
    · refine ev_bipush (q := 30) dX7_matches_28 rfl (by decide) ?_
      refine ev_ireturn dX7_matches_30 rfl rfl (by constructor <;> omega) ?_
      exact ⟨_, rfl, rfl, Or.inl ⟨by omega, rfl⟩, Or.inl rfl⟩
set_option maxHeartbeats 4000000 in
theorem p_winner {l : Launch} {M : ev_M} {e p : Int} (he : inR e) (hp : inR p) (h : IC M) : Ri l 6 kX7_winner yX7_winner S0 M [vr 0, vi e, vi p] (fun x M2 => ((¬ ((0 ≤ e ∧ e < M 2 0) ∧ 0 ≤ p ∧ p ≤ 15) ∧ x = -11) ∨ (((0 ≤ e ∧ e < M 2 0) ∧ 0 ≤ p ∧ p ≤ 15) ∧ x = (if winV (cV M 1) e.toNat p.toNat = -1 then -14 else winV (cV M 1) e.toNat p.toNat))) ∧ Qy M M2) := by
  have hn : 1 ≤ M 2 0 ∧ M 2 0 ≤ 16 := h.1.1
  have hW := h.1
  refine Ct.of (by decide) rfl (by decide) (Nat.le_of_ble_eq_true rfl) (Ev_RM (fun hR => ?_))
  refine (show Ev _ none _ _ _ _ _ 0 [_, _, _] [] _ from ?_)
  refine ev_aload_0 (q := 1) dX7_winner_0 rfl ?_
  refine ev_getR (q := 4) dX7_winner_1 fl_RX7_10 (by first | assumption | rfl) (by rfl) rfl ?_
  refine ev_getR (q := 7) dX7_winner_4 fl_RX7_37 (by first | assumption | rfl) (by rfl) rfl ?_
  refine ev_iload_1 (q := 8) dX7_winner_7 rfl ?_
  refine ev_callV1i (q := 11) dX7_winner_8 vs_RX7_41 (by first | assumption | rfl) (c_X6_has (by constructor <;> omega) (by omega)) (by decide) (Nat.le_of_ble_eq_true rfl) rfl (fun h_8 => ?_)
  refine ev_b_eq (t := 21) (q := 14) dX7_winner_11 (by decide) rfl (fun h_11 => ?_) (fun h_11 => ?_)
  · refine ev_bipush (q := 23) dX7_winner_21 rfl (by decide) ?_
    refine ev_ireturn dX7_winner_23 rfl rfl (by constructor <;> omega) ?_
    exact ⟨_, rfl, rfl, Or.inl ⟨by omega, rfl⟩, Or.inl rfl⟩
  · refine ev_iload_2 (q := 15) dX7_winner_14 rfl ?_
    refine ev_callS1i (q := 18) dX7_winner_15 ss_RX7_130 (c_X7_isProperty (by constructor <;> omega)) (by decide) (Nat.le_of_ble_eq_true rfl) rfl (fun h_15 => ?_)
    refine ev_b_ne (t := 24) (q := 21) dX7_winner_18 (by decide) rfl (fun h_18 => ?_) (fun h_18 => ?_)
    · refine ev_aload_0 (q := 25) dX7_winner_24 rfl ?_
      refine ev_getR (q := 28) dX7_winner_25 fl_RX7_26 (by first | assumption | rfl) (by rfl) rfl ?_
      refine ev_aload_0 (q := 29) dX7_winner_28 rfl ?_
      refine ev_getR (q := 32) dX7_winner_29 fl_RX7_10 (by first | assumption | rfl) (by rfl) rfl ?_
      refine ev_callV1rQ (q := 35) dX7_winner_32 vs_RX7_92 (by first | assumption | rfl) (c_X1_of hR rfl hW h.2.2.2.2.2.1 h.2.2.2.2.2.2) (by decide) (Nat.le_of_ble_eq_true rfl) rfl (fun M_32 hq_32 => ?_)
      obtain ⟨o1, o2, o3⟩ := hq_32
      have o5 := o2.2.2 e.toNat (by show ((e.toNat : Nat) : Int) < M 2 0; omega)
      refine ev_iload_1 (q := 36) dX7_winner_35 rfl ?_
      refine ev_iload_2 (q := 37) dX7_winner_36 rfl ?_
      refine ev_callV2i (q := 40) dX7_winner_37 vs_RX7_168 (by first | assumption | rfl) (c_X1_winnerOn (by omega) (by omega)) (by decide) (Nat.le_of_ble_eq_true rfl) rfl (fun h_37 => ?_)
      refine ev_bipush (q := 42) dX7_winner_40 rfl (by decide) ?_
      refine ev_callS2i (q := 45) dX7_winner_42 ss_RX7_159 (c_X7_foundOr (by constructor <;> omega) (by constructor <;> omega)) (by decide) (Nat.le_of_ble_eq_true rfl) rfl (fun h_42 => ?_)
      refine ev_ireturn dX7_winner_45 rfl rfl (by constructor <;> omega) ?_
      exact ⟨_, rfl, rfl, Or.inr ⟨by omega, by rw [show (e * 16 + p).toNat = 16 * e.toNat + p.toNat by omega, o5.2.1 p.toNat (by omega)]⟩, Or.inr ⟨o1, o2, o3⟩⟩
    · refine ev_bipush (q := 23) dX7_winner_21 rfl (by decide) ?_
      refine ev_ireturn dX7_winner_23 rfl rfl (by constructor <;> omega) ?_
      exact ⟨_, rfl, rfl, Or.inl ⟨by omega, rfl⟩, Or.inl rfl⟩
set_option maxHeartbeats 4000000 in
theorem p_cycle {l : Launch} {M : ev_M} {e p : Int} (he : inR e) (hp : inR p) (h : IC M) : Ri l 6 kX7_cycle yX7_cycle S0 M [vr 0, vi e, vi p] (fun x M2 => ((¬ ((0 ≤ e ∧ e < M 2 0) ∧ 8 ≤ p ∧ p ≤ 15) ∧ x = -11) ∨ (((0 ≤ e ∧ e < M 2 0) ∧ 8 ≤ p ∧ p ≤ 15) ∧ x = cycV (cV M 1) e.toNat p)) ∧ Qy M M2) := by
  have hn : 1 ≤ M 2 0 ∧ M 2 0 ≤ 16 := h.1.1
  have hW := h.1
  refine Ct.of (by decide) rfl (by decide) (Nat.le_of_ble_eq_true rfl) (Ev_RM (fun hR => ?_))
  refine (show Ev _ none _ _ _ _ _ 0 [_, _, _] [] _ from ?_)
  refine ev_aload_0 (q := 1) dX7_cycle_0 rfl ?_
  refine ev_getR (q := 4) dX7_cycle_1 fl_RX7_10 (by first | assumption | rfl) (by rfl) rfl ?_
  refine ev_getR (q := 7) dX7_cycle_4 fl_RX7_37 (by first | assumption | rfl) (by rfl) rfl ?_
  refine ev_iload_1 (q := 8) dX7_cycle_7 rfl ?_
  refine ev_callV1i (q := 11) dX7_cycle_8 vs_RX7_41 (by first | assumption | rfl) (c_X6_has (by constructor <;> omega) (by omega)) (by decide) (Nat.le_of_ble_eq_true rfl) rfl (fun h_8 => ?_)
  refine ev_b_eq (t := 21) (q := 14) dX7_cycle_11 (by decide) rfl (fun h_11 => ?_) (fun h_11 => ?_)
  · refine ev_bipush (q := 23) dX7_cycle_21 rfl (by decide) ?_
    refine ev_ireturn dX7_cycle_23 rfl rfl (by constructor <;> omega) ?_
    exact ⟨_, rfl, rfl, Or.inl ⟨by omega, rfl⟩, Or.inl rfl⟩
  · refine ev_iload_2 (q := 15) dX7_cycle_14 rfl ?_
    refine ev_callS1i (q := 18) dX7_cycle_15 ss_RX7_140 (c_X7_isCustom (by constructor <;> omega)) (by decide) (Nat.le_of_ble_eq_true rfl) rfl (fun h_15 => ?_)
    refine ev_b_ne (t := 24) (q := 21) dX7_cycle_18 (by decide) rfl (fun h_18 => ?_) (fun h_18 => ?_)
    · refine ev_aload_0 (q := 25) dX7_cycle_24 rfl ?_
      refine ev_getR (q := 28) dX7_cycle_25 fl_RX7_26 (by first | assumption | rfl) (by rfl) rfl ?_
      refine ev_aload_0 (q := 29) dX7_cycle_28 rfl ?_
      refine ev_getR (q := 32) dX7_cycle_29 fl_RX7_10 (by first | assumption | rfl) (by rfl) rfl ?_
      refine ev_callV1rQ (q := 35) dX7_cycle_32 vs_RX7_92 (by first | assumption | rfl) (c_X1_of hR rfl hW h.2.2.2.2.2.1 h.2.2.2.2.2.2) (by decide) (Nat.le_of_ble_eq_true rfl) rfl (fun M_32 hq_32 => ?_)
      obtain ⟨o1, o2, o3⟩ := hq_32
      have o5 := o2.2.2 e.toNat (by show ((e.toNat : Nat) : Int) < M 2 0; omega)
      refine ev_iload_1 (q := 36) dX7_cycle_35 rfl ?_
      refine ev_iload_2 (q := 37) dX7_cycle_36 rfl ?_
      refine ev_callV2i (q := 40) dX7_cycle_37 vs_RX7_181 (by first | assumption | rfl) (c_X1_cycleOn (by omega) (by omega)) (by decide) (Nat.le_of_ble_eq_true rfl) rfl (fun h_37 => ?_)
      refine ev_ireturn dX7_cycle_40 rfl rfl (by constructor <;> omega) ?_
      exact ⟨_, rfl, rfl, Or.inr ⟨by omega, by rw [show (e * 16 + p).toNat = 16 * e.toNat + p.toNat by omega, o5.2.2.1 p.toNat (by omega) (by omega), show ((p.toNat : Nat) : Int) = p by omega]⟩, Or.inr ⟨o1, o2, o3⟩⟩
    · refine ev_bipush (q := 23) dX7_cycle_21 rfl (by decide) ?_
      refine ev_ireturn dX7_cycle_23 rfl rfl (by constructor <;> omega) ?_
      exact ⟨_, rfl, rfl, Or.inl ⟨by omega, rfl⟩, Or.inl rfl⟩

