abbrev okR (M : ev_M) (k c a y s i : Int) : Prop := ((-1 ≤ k ∧ k ≤ 5) ∧ (0 ≤ c ∧ c ≤ 15) ∧ (-1 ≤ a ∧ a ≤ 5)) ∧ ((0 ≤ y ∧ y ≤ 3) ∧ (0 ≤ i ∧ i ≤ 1) ∧ (s = -1 ∨ 0 ≤ s ∧ s < M 2 0))
set_option maxHeartbeats 4000000 in
theorem p_rule {l : Launch} {M : ev_M} {k c a y s i : Int} (hk : inR k) (hc : inR c) (ha : inR a) (hy : inR y) (hs : inR s) (hi : inR i) (h : IC M) : Ri l 6 kX7_rule yX7_rule S0 M [vr 0, vi k, vi c, vi a, vi y, vi s, vi i] (fun x M2 => (¬ okR M k c a y s i ∧ x = -11 ∧ M2 = M) ∨ (okR M k c a y s i ∧ M 9 0 ≥ 16 ∧ x = -13 ∧ M2 = M) ∨ (okR M k c a y s i ∧ M 9 0 < 16 ∧ x = M 9 0 ∧ M2 = apM (begM M) 9 11 13 k c a y s i)) := by
  have hn : 1 ≤ M 2 0 ∧ M 2 0 ≤ 16 := h.1.1
  have hrn : 0 ≤ M 9 0 ∧ M 9 0 ≤ 16 := h.1.2.1
  have ho := h.2.1; have hk2 := h.2.2.1
  have e9 : begM M 9 = M 9 := begM_o ho hk2.1 (by omega)
  have J81 : ∀ (t : Int), t = (if ((0 ≤ y ∧ y ≤ 3) ∧ (0 ≤ i ∧ i ≤ 1) ∧ (s = -1 ∨ 0 ≤ s ∧ s < M 2 0)) then 1 else 0) → Ev l none 6 kX7_rule (0, 0) S0 M 81 [some (vr 0), some (vi k), some (vi c), some (vi a), some (vi y), some (vi s), some (vi i), some (vi (if ((-1 ≤ k ∧ k ≤ 5) ∧ (0 ≤ c ∧ c ≤ 15) ∧ (-1 ≤ a ∧ a ≤ 5)) then 1 else 0)), none] [vi t] (QI S0 (fun x M2 => (¬ okR M k c a y s i ∧ x = -11 ∧ M2 = M) ∨ (okR M k c a y s i ∧ M 9 0 ≥ 16 ∧ x = -13 ∧ M2 = M) ∨ (okR M k c a y s i ∧ M 9 0 < 16 ∧ x = M 9 0 ∧ M2 = apM (begM M) 9 11 13 k c a y s i))) := by
    intro t ht
    rw [ht]
    refine ev_istore_8 (q := 83) dX7_rule_81 rfl (by decide) ?_
    refine ev_iload_7 (q := 85) dX7_rule_83 rfl ?_
    refine ev_b_eq (t := 93) (q := 88) dX7_rule_85 (by decide) rfl (fun h_85 => ?_) (fun h_85 => ?_)
    · refine ev_bipush (q := 95) dX7_rule_93 rfl (by decide) ?_
      refine ev_ireturn dX7_rule_95 rfl rfl (by constructor <;> omega) ?_
      first | exact ⟨_, rfl, rfl, Or.inl ⟨fun q => absurd q.1 (by assumption), rfl, rfl⟩⟩ | exact ⟨_, rfl, rfl, Or.inl ⟨fun q => absurd q.2 (by assumption), rfl, rfl⟩⟩
    · refine ev_iload_8 (q := 90) dX7_rule_88 rfl ?_
      refine ev_b_ne (t := 96) (q := 93) dX7_rule_90 (by decide) rfl (fun h_90 => ?_) (fun h_90 => ?_)
      · refine ev_aload_0 (q := 97) dX7_rule_96 rfl ?_
        refine ev_getR (q := 100) dX7_rule_97 fl_RX7_10 (by first | assumption | rfl) (by rfl) rfl ?_
        refine ev_getR (q := 103) dX7_rule_100 fl_RX7_62 (by first | assumption | rfl) (by rfl) rfl ?_
        refine ev_callV0i (q := 106) dX7_rule_103 vs_RX7_102 (by first | assumption | rfl) c_X3_size (by decide) (Nat.le_of_ble_eq_true rfl) rfl (fun h_103 => ?_)
        refine ev_bipush (q := 108) dX7_rule_106 rfl (by decide) ?_
        refine ev_icmp_lt (t := 114) (q := 111) dX7_rule_108 (by decide) rfl (by constructor <;> omega) (by constructor <;> omega) (fun h_108 => ?_) (fun h_108 => ?_)
        · refine ev_aload_0 (q := 115) dX7_rule_114 rfl ?_
          refine ev_callV0v (q := 118) dX7_rule_115 vs_RX7_55 (by first | assumption | rfl) (c_X7_beginChange (by assumption) (by assumption)) (by decide) (Nat.le_of_ble_eq_true rfl) rfl ?_
          refine ev_aload_0 (q := 119) dX7_rule_118 rfl ?_
          refine ev_getR (q := 122) dX7_rule_119 fl_RX7_10 (by first | assumption | rfl) (by rfl) rfl ?_
          refine ev_getR (q := 125) dX7_rule_122 fl_RX7_62 (by first | assumption | rfl) (by rfl) rfl ?_
          refine ev_iload_1 (q := 126) dX7_rule_125 rfl ?_
          refine ev_iload_2 (q := 127) dX7_rule_126 rfl ?_
          refine ev_iload_3 (q := 128) dX7_rule_127 rfl ?_
          refine ev_iload_4 (q := 130) dX7_rule_128 rfl ?_
          refine ev_iload_5 (q := 132) dX7_rule_130 rfl ?_
          refine ev_iload_6 (q := 134) dX7_rule_132 rfl ?_
          refine ev_callV6i (q := 137) dX7_rule_134 vs_RX7_123 (by first | assumption | rfl) (c_X3_append ru9 (by decide) (by decide) (by rw [e9]; omega) (by rw [e9]; omega) (by rw [e9]; omega) (by constructor <;> omega) (by constructor <;> omega) (by constructor <;> omega) (by constructor <;> omega) (by constructor <;> omega) (by constructor <;> omega)) (by decide) (Nat.le_of_ble_eq_true rfl) rfl (fun h_134 => ?_)
          rw [e9] at h_134 ⊢
          refine ev_ireturn dX7_rule_137 rfl rfl (by constructor <;> omega) ?_
          exact ⟨_, rfl, rfl, Or.inr (Or.inr ⟨⟨h_85, h_90⟩, by omega, rfl, rfl⟩)⟩
        · refine ev_bipush (q := 113) dX7_rule_111 rfl (by decide) ?_
          refine ev_ireturn dX7_rule_113 rfl rfl (by constructor <;> omega) ?_
          exact ⟨_, rfl, rfl, Or.inr (Or.inl ⟨⟨h_85, h_90⟩, by omega, rfl, rfl⟩)⟩
      · refine ev_bipush (q := 95) dX7_rule_93 rfl (by decide) ?_
        refine ev_ireturn dX7_rule_95 rfl rfl (by constructor <;> omega) ?_
        first | exact ⟨_, rfl, rfl, Or.inl ⟨fun q => absurd q.1 (by assumption), rfl, rfl⟩⟩ | exact ⟨_, rfl, rfl, Or.inl ⟨fun q => absurd q.2 (by assumption), rfl, rfl⟩⟩
  have J33 : ∀ (t : Int), t = (if ((-1 ≤ k ∧ k ≤ 5) ∧ (0 ≤ c ∧ c ≤ 15) ∧ (-1 ≤ a ∧ a ≤ 5)) then 1 else 0) → Ev l none 6 kX7_rule (0, 0) S0 M 33 [some (vr 0), some (vi k), some (vi c), some (vi a), some (vi y), some (vi s), some (vi i), none, none] [vi t] (QI S0 (fun x M2 => (¬ okR M k c a y s i ∧ x = -11 ∧ M2 = M) ∨ (okR M k c a y s i ∧ M 9 0 ≥ 16 ∧ x = -13 ∧ M2 = M) ∨ (okR M k c a y s i ∧ M 9 0 < 16 ∧ x = M 9 0 ∧ M2 = apM (begM M) 9 11 13 k c a y s i))) := by
    intro t ht
    rw [ht]
    refine ev_istore_7 (q := 35) dX7_rule_33 rfl (by decide) ?_
    refine ev_iload_4 (q := 37) dX7_rule_35 rfl ?_
    refine ev_iconst (q := 38) dX7_rule_37 rfl ?_
    refine ev_iconst (q := 39) dX7_rule_38 rfl ?_
    refine ev_callS3i (q := 42) dX7_rule_39 ss_RX7_47 (c_X7_isWithin (by constructor <;> omega) (by constructor <;> omega) (by constructor <;> omega)) (by decide) (Nat.le_of_ble_eq_true rfl) rfl (fun h_39 => ?_)
    refine ev_b_eq (t := 80) (q := 45) dX7_rule_42 (by decide) rfl (fun h_42 => ?_) (fun h_42 => ?_)
    · refine ev_iconst (q := 81) dX7_rule_80 rfl ?_
      exact J81 _ (by split <;> omega)
    · refine ev_iload_6 (q := 47) dX7_rule_45 rfl ?_
      refine ev_iconst (q := 48) dX7_rule_47 rfl ?_
      refine ev_iconst (q := 49) dX7_rule_48 rfl ?_
      refine ev_callS3i (q := 52) dX7_rule_49 ss_RX7_47 (c_X7_isWithin (by constructor <;> omega) (by constructor <;> omega) (by constructor <;> omega)) (by decide) (Nat.le_of_ble_eq_true rfl) rfl (fun h_49 => ?_)
      refine ev_b_eq (t := 80) (q := 55) dX7_rule_52 (by decide) rfl (fun h_52 => ?_) (fun h_52 => ?_)
      · refine ev_iconst (q := 81) dX7_rule_80 rfl ?_
        exact J81 _ (by split <;> omega)
      · refine ev_iload_5 (q := 57) dX7_rule_55 rfl ?_
        refine ev_iconst (q := 58) dX7_rule_57 rfl ?_
        refine ev_icmp_eq (t := 76) (q := 61) dX7_rule_58 (by decide) rfl (by constructor <;> omega) (by constructor <;> omega) (fun h_58 => ?_) (fun h_58 => ?_)
        · refine ev_iconst (q := 77) dX7_rule_76 rfl ?_
          refine ev_goto (q := 81) dX7_rule_77 (by decide) ?_
          exact J81 _ (by split <;> omega)
        · refine ev_aload_0 (q := 62) dX7_rule_61 rfl ?_
          refine ev_getR (q := 65) dX7_rule_62 fl_RX7_10 (by first | assumption | rfl) (by rfl) rfl ?_
          refine ev_getR (q := 68) dX7_rule_65 fl_RX7_37 (by first | assumption | rfl) (by rfl) rfl ?_
          refine ev_iload_5 (q := 70) dX7_rule_68 rfl ?_
          refine ev_callV1i (q := 73) dX7_rule_70 vs_RX7_41 (by first | assumption | rfl) (c_X6_has (by constructor <;> omega) (by omega)) (by decide) (Nat.le_of_ble_eq_true rfl) rfl (fun h_70 => ?_)
          refine ev_b_eq (t := 80) (q := 76) dX7_rule_73 (by decide) rfl (fun h_73 => ?_) (fun h_73 => ?_)
          · refine ev_iconst (q := 81) dX7_rule_80 rfl ?_
            exact J81 _ (by split <;> omega)
          · refine ev_iconst (q := 77) dX7_rule_76 rfl ?_
            refine ev_goto (q := 81) dX7_rule_77 (by decide) ?_
            exact J81 _ (by split <;> omega)
  refine Ri.of (by decide) rfl (by decide) (Nat.le_of_ble_eq_true rfl) ?_
  refine (show Ev _ none _ _ _ _ _ 0 [_, _, _, _, _, _, _, _, _] [] _ from ?_)
  refine ev_iload_1 (q := 1) dX7_rule_0 rfl ?_
  refine ev_iconst (q := 2) dX7_rule_1 rfl ?_
  refine ev_iconst (q := 3) dX7_rule_2 rfl ?_
  refine ev_callS3i (q := 6) dX7_rule_3 ss_RX7_47 (c_X7_isWithin (by constructor <;> omega) (by constructor <;> omega) (by constructor <;> omega)) (by decide) (Nat.le_of_ble_eq_true rfl) rfl (fun h_3 => ?_)
  refine ev_b_eq (t := 32) (q := 9) dX7_rule_6 (by decide) rfl (fun h_6 => ?_) (fun h_6 => ?_)
  · refine ev_iconst (q := 33) dX7_rule_32 rfl ?_
    exact J33 _ (by split <;> omega)
  · refine ev_iload_2 (q := 10) dX7_rule_9 rfl ?_
    refine ev_iconst (q := 11) dX7_rule_10 rfl ?_
    refine ev_bipush (q := 13) dX7_rule_11 rfl (by decide) ?_
    refine ev_callS3i (q := 16) dX7_rule_13 ss_RX7_47 (c_X7_isWithin (by constructor <;> omega) (by constructor <;> omega) (by constructor <;> omega)) (by decide) (Nat.le_of_ble_eq_true rfl) rfl (fun h_13 => ?_)
    refine ev_b_eq (t := 32) (q := 19) dX7_rule_16 (by decide) rfl (fun h_16 => ?_) (fun h_16 => ?_)
    · refine ev_iconst (q := 33) dX7_rule_32 rfl ?_
      exact J33 _ (by split <;> omega)
    · refine ev_iload_3 (q := 20) dX7_rule_19 rfl ?_
      refine ev_iconst (q := 21) dX7_rule_20 rfl ?_
      refine ev_iconst (q := 22) dX7_rule_21 rfl ?_
      refine ev_callS3i (q := 25) dX7_rule_22 ss_RX7_47 (c_X7_isWithin (by constructor <;> omega) (by constructor <;> omega) (by constructor <;> omega)) (by decide) (Nat.le_of_ble_eq_true rfl) rfl (fun h_22 => ?_)
      refine ev_b_eq (t := 32) (q := 28) dX7_rule_25 (by decide) rfl (fun h_25 => ?_) (fun h_25 => ?_)
      · refine ev_iconst (q := 33) dX7_rule_32 rfl ?_
        exact J33 _ (by split <;> omega)
      · refine ev_iconst (q := 29) dX7_rule_28 rfl ?_
        refine ev_goto (q := 33) dX7_rule_29 (by decide) ?_
        exact J33 _ (by split <;> omega)
/-- what a question leaves: all as it was, or the outcome drawn up -/
def Qy (M M2 : ev_M) : Prop := M2 = M ∨ (OutFr M M2 ∧ OutOK (cV M 1) M2 ∧ M2 81 0 = 1)
theorem cnt_congr {P P' : Nat → Bool} : ∀ n, (∀ i, i < n → P i = P' i) → cnt P n = cnt P' n
  | 0, _ => rfl
  | n + 1, h => by
    unfold cnt
    rw [cnt_congr n (fun i hi => h i (by omega)), h n (by omega)]
theorem sumN_congr {f f' : Nat → Int} : ∀ n, (∀ i, i < n → f i = f' i) → sumN f n = sumN f' n
  | 0, _ => rfl
  | n + 1, h => by
    unfold sumN
    rw [sumN_congr n (fun i hi => h i (by omega)), h n (by omega)]
theorem strV_fit {v : Vw} (h : Wf v) {r e : Nat} (hr : (r : Int) < vrn v) : decide (strV v r e ≠ -1) = fitB v r e := by
  have := accV_rng h (e := e) hr 6 (by omega)
  unfold strV
  cases hf : fitB v r e with
  | true => rw [if_pos rfl]; exact decide_eq_true (by omega)
  | false => rw [if_neg (by decide)]; exact decide_eq_false (by omega)
/-- the matching rules of an element, the elements of a rule, the custom properties in a cycle -/
def mtV (v : Vw) (e : Nat) : Int := cnt (fun r => fitB v r e) (vrn v).toNat
def emV (v : Vw) (r : Nat) : Int := cnt (fun e => fitB v r e) (vel v).toNat
def ccV (v : Vw) (e : Nat) : Int := cnt (fun q => decide (cycV v e (8 + (q : Int)) > 0)) 8
def elV (v : Vw) (e : Nat) (w : Int) : Int := if w = 0 then (if e = 0 then -14 else vpar v e) else if w = 1 then vknd v e else if w = 2 then vcls v e else if w = 3 then stp (vpar v) 16 e 0 else if w = 4 then mtV v e else ccV v e
set_option maxHeartbeats 4000000 in
theorem p_element {l : Launch} {M : ev_M} {e w : Int} (he : inR e) (hw : inR w) (h : IC M) : Ri l 6 kX7_element yX7_element S0 M [vr 0, vi e, vi w] (fun x M2 => ((¬ ((0 ≤ e ∧ e < M 2 0) ∧ 0 ≤ w ∧ w ≤ 5) ∧ x = -11) ∨ (((0 ≤ e ∧ e < M 2 0) ∧ 0 ≤ w ∧ w ≤ 5) ∧ x = elV (cV M 1) e.toNat w)) ∧ Qy M M2) := by
  have hn : 1 ≤ M 2 0 ∧ M 2 0 ≤ 16 := h.1.1
  have hrn : 0 ≤ M 9 0 ∧ M 9 0 ≤ 16 := h.1.2.1
  have hW := h.1
  refine Ct.of (by decide) rfl (by decide) (Nat.le_of_ble_eq_true rfl) (Ev_RM (fun hR => ?_))
  refine (show Ev _ none _ _ _ _ _ 0 [_, _, _] [] _ from ?_)
  refine ev_aload_0 (q := 1) dX7_element_0 rfl ?_
  refine ev_getR (q := 4) dX7_element_1 fl_RX7_10 (by first | assumption | rfl) (by rfl) rfl ?_
  refine ev_getR (q := 7) dX7_element_4 fl_RX7_37 (by first | assumption | rfl) (by rfl) rfl ?_
  refine ev_iload_1 (q := 8) dX7_element_7 rfl ?_
  refine ev_callV1i (q := 11) dX7_element_8 vs_RX7_41 (by first | assumption | rfl) (c_X6_has (by constructor <;> omega) (by omega)) (by decide) (Nat.le_of_ble_eq_true rfl) rfl (fun h_8 => ?_)
  refine ev_b_ne (t := 17) (q := 14) dX7_element_11 (by decide) rfl (fun h_11 => ?_) (fun h_11 => ?_)
  · refine ev_iload_2 (q := 18) dX7_element_17 rfl ?_
    by_cases g_18 : w < 0 ∨ 5 < w
    · refine ev_tableOut (t := 146) dX7_element_18 (by constructor <;> omega) g_18 (by decide) ?_
      refine ev_bipush (q := 148) dX7_element_146 rfl (by decide) ?_
      refine ev_ireturn dX7_element_148 rfl rfl (by constructor <;> omega) ?_
      exact ⟨_, rfl, rfl, Or.inl ⟨by omega, rfl⟩, Or.inl rfl⟩
    · have g2_18 : w = 0 ∨ w = 1 ∨ w = 2 ∨ w = 3 ∨ w = 4 ∨ w = 5 := by omega
      rcases g2_18 with g_18 | g_18 | g_18 | g_18 | g_18 | g_18
      · refine ev_tableIn (t := 56) dX7_element_18 (by constructor <;> omega) (by omega) (by omega) (by rw [g_18]; rfl) (by decide) ?_
        refine ev_iload_1 (q := 57) dX7_element_56 rfl ?_
        refine ev_if_ne (t := 65) (q := 60) dX7_element_57 (by decide) rfl (by constructor <;> omega) (fun h_57 => ?_) (fun h_57 => ?_)
        · refine ev_aload_0 (q := 66) dX7_element_65 rfl ?_
          refine ev_getR (q := 69) dX7_element_66 fl_RX7_10 (by first | assumption | rfl) (by rfl) rfl ?_
          refine ev_getR (q := 72) dX7_element_69 fl_RX7_37 (by first | assumption | rfl) (by rfl) rfl ?_
          refine ev_iload_1 (q := 73) dX7_element_72 rfl ?_
          refine ev_callV1i (q := 76) dX7_element_73 vs_RX7_85 (by first | assumption | rfl) (c_X6_parentOf (by omega)) (by decide) (Nat.le_of_ble_eq_true rfl) rfl (fun h_73 => ?_)
          refine ev_ireturn dX7_element_76 rfl rfl (by constructor <;> omega) ?_
          first | exact ⟨_, rfl, rfl, Or.inr ⟨by omega, by rw [elV, if_pos g_18, if_pos (by omega)]⟩, Or.inl rfl⟩ | exact ⟨_, rfl, rfl, Or.inr ⟨by omega, by rw [elV, if_pos g_18, if_neg (by omega)]; rfl⟩, Or.inl rfl⟩
        · refine ev_bipush (q := 62) dX7_element_60 rfl (by decide) ?_
          refine ev_goto (q := 76) dX7_element_62 (by decide) ?_
          refine ev_ireturn dX7_element_76 rfl rfl (by constructor <;> omega) ?_
          first | exact ⟨_, rfl, rfl, Or.inr ⟨by omega, by rw [elV, if_pos g_18, if_pos (by omega)]⟩, Or.inl rfl⟩ | exact ⟨_, rfl, rfl, Or.inr ⟨by omega, by rw [elV, if_pos g_18, if_neg (by omega)]; rfl⟩, Or.inl rfl⟩
      · refine ev_tableIn (t := 77) dX7_element_18 (by constructor <;> omega) (by omega) (by omega) (by rw [g_18]; rfl) (by decide) ?_
        refine ev_aload_0 (q := 78) dX7_element_77 rfl ?_
        refine ev_getR (q := 81) dX7_element_78 fl_RX7_10 (by first | assumption | rfl) (by rfl) rfl ?_
        refine ev_getR (q := 84) dX7_element_81 fl_RX7_37 (by first | assumption | rfl) (by rfl) rfl ?_
        refine ev_iload_1 (q := 85) dX7_element_84 rfl ?_
        refine ev_callV1i (q := 88) dX7_element_85 vs_RX7_74 (by first | assumption | rfl) (c_X6_kindOf (by omega)) (by decide) (Nat.le_of_ble_eq_true rfl) rfl (fun h_85 => ?_)
        refine ev_ireturn dX7_element_88 rfl rfl (by constructor <;> omega) ?_
        exact ⟨_, rfl, rfl, Or.inr ⟨by omega, by rw [elV, if_neg (by omega), if_pos g_18]; rfl⟩, Or.inl rfl⟩
      · refine ev_tableIn (t := 89) dX7_element_18 (by constructor <;> omega) (by omega) (by omega) (by rw [g_18]; rfl) (by decide) ?_
        refine ev_aload_0 (q := 90) dX7_element_89 rfl ?_
        refine ev_getR (q := 93) dX7_element_90 fl_RX7_10 (by first | assumption | rfl) (by rfl) rfl ?_
        refine ev_getR (q := 96) dX7_element_93 fl_RX7_37 (by first | assumption | rfl) (by rfl) rfl ?_
        refine ev_iload_1 (q := 97) dX7_element_96 rfl ?_
        refine ev_callV1i (q := 100) dX7_element_97 vs_RX7_78 (by first | assumption | rfl) (c_X6_classesOf (by omega)) (by decide) (Nat.le_of_ble_eq_true rfl) rfl (fun h_97 => ?_)
        refine ev_ireturn dX7_element_100 rfl rfl (by constructor <;> omega) ?_
        exact ⟨_, rfl, rfl, Or.inr ⟨by omega, by rw [elV, if_neg (by omega), if_neg (by omega), if_pos g_18]; rfl⟩, Or.inl rfl⟩
      · refine ev_tableIn (t := 101) dX7_element_18 (by constructor <;> omega) (by omega) (by omega) (by rw [g_18]; rfl) (by decide) ?_
        refine ev_aload_0 (q := 102) dX7_element_101 rfl ?_
        refine ev_getR (q := 105) dX7_element_102 fl_RX7_10 (by first | assumption | rfl) (by rfl) rfl ?_
        refine ev_getR (q := 108) dX7_element_105 fl_RX7_37 (by first | assumption | rfl) (by rfl) rfl ?_
        refine ev_iload_1 (q := 109) dX7_element_108 rfl ?_
        refine ev_iconst (q := 110) dX7_element_109 rfl ?_
        refine ev_callV2i (q := 113) dX7_element_110 vs_RX7_88 (by first | assumption | rfl) (c_X6_stepsUp hW.par (by omega) (by constructor <;> omega)) (by decide) (Nat.le_of_ble_eq_true rfl) rfl (fun h_110 => ?_)
        refine ev_ireturn dX7_element_113 rfl rfl (by constructor <;> omega) ?_
        exact ⟨_, rfl, rfl, Or.inr ⟨by omega, by rw [elV, if_neg (by omega), if_neg (by omega), if_neg (by omega), if_pos g_18, show ((e.toNat : Nat) : Int) = e by omega]; rfl⟩, Or.inl rfl⟩
      · refine ev_tableIn (t := 114) dX7_element_18 (by constructor <;> omega) (by omega) (by omega) (by rw [g_18]; rfl) (by decide) ?_
        refine ev_aload_0 (q := 115) dX7_element_114 rfl ?_
        refine ev_getR (q := 118) dX7_element_115 fl_RX7_26 (by first | assumption | rfl) (by rfl) rfl ?_
        refine ev_aload_0 (q := 119) dX7_element_118 rfl ?_
        refine ev_getR (q := 122) dX7_element_119 fl_RX7_10 (by first | assumption | rfl) (by rfl) rfl ?_
        refine ev_callV1rQ (q := 125) dX7_element_122 vs_RX7_92 (by first | assumption | rfl) (c_X1_of hR rfl hW h.2.2.2.2.2.1 h.2.2.2.2.2.2) (by decide) (Nat.le_of_ble_eq_true rfl) rfl (fun M_122 hq_122 => ?_)
        obtain ⟨o1, o2, o3⟩ := hq_122
        have o4 : M_122 81 2 = M 9 0 := o2.2.1
        have o5 := o2.2.2 e.toNat (by show ((e.toNat : Nat) : Int) < M 2 0; omega)
        rw [show e = ((e.toNat : Nat) : Int) by omega]
        refine ev_iload_1 (q := 126) dX7_element_125 rfl ?_
        refine ev_callV1i (q := 129) dX7_element_126 vs_RX7_96 (by first | assumption | rfl) (c_X1_rulesOn (e := e.toNat) (by omega) (by rw [o4]; exact hrn)) (by decide) (Nat.le_of_ble_eq_true rfl) rfl (fun h_126 => ?_)
        refine ev_ireturn dX7_element_129 rfl rfl (by constructor <;> omega) ?_
        refine ⟨_, rfl, rfl, Or.inr ⟨by omega, ?_⟩, Or.inr ⟨o1, o2, o3⟩⟩
        rw [elV, if_neg (by omega), if_neg (by omega), if_neg (by omega), if_neg (by omega), if_pos g_18, o4]
        exact cnt_congr _ (fun r hr => by rw [o5.1 r (by show (r : Int) < M 9 0; omega)]; exact strV_fit hW (by show (r : Int) < M 9 0; omega))
      · refine ev_tableIn (t := 130) dX7_element_18 (by constructor <;> omega) (by omega) (by omega) (by rw [g_18]; rfl) (by decide) ?_
        refine ev_aload_0 (q := 131) dX7_element_130 rfl ?_
        refine ev_getR (q := 134) dX7_element_131 fl_RX7_26 (by first | assumption | rfl) (by rfl) rfl ?_
        refine ev_aload_0 (q := 135) dX7_element_134 rfl ?_
        refine ev_getR (q := 138) dX7_element_135 fl_RX7_10 (by first | assumption | rfl) (by rfl) rfl ?_
        refine ev_callV1rQ (q := 141) dX7_element_138 vs_RX7_92 (by first | assumption | rfl) (c_X1_of hR rfl hW h.2.2.2.2.2.1 h.2.2.2.2.2.2) (by decide) (Nat.le_of_ble_eq_true rfl) rfl (fun M_138 hq_138 => ?_)
        obtain ⟨o1, o2, o3⟩ := hq_138
        have o5 := o2.2.2 e.toNat (by show ((e.toNat : Nat) : Int) < M 2 0; omega)
        refine ev_iload_1 (q := 142) dX7_element_141 rfl ?_
        refine ev_callV1i (q := 145) dX7_element_142 vs_RX7_99 (by first | assumption | rfl) (c_X1_cyclicOn (by omega)) (by decide) (Nat.le_of_ble_eq_true rfl) rfl (fun h_142 => ?_)
        refine ev_ireturn dX7_element_145 rfl rfl (by constructor <;> omega) ?_
        refine ⟨_, rfl, rfl, Or.inr ⟨by omega, ?_⟩, Or.inr ⟨o1, o2, o3⟩⟩
        rw [elV, if_neg (by omega), if_neg (by omega), if_neg (by omega), if_neg (by omega), if_neg (by omega)]
        exact cnt_congr _ (fun q hq => by rw [o5.2.2.1 (8 + q) (by omega) (by omega)]; rfl)
  · refine ev_bipush (q := 16) dX7_element_14 rfl (by decide) ?_
    refine ev_ireturn dX7_element_16 rfl rfl (by constructor <;> omega) ?_
    exact ⟨_, rfl, rfl, Or.inl ⟨by omega, rfl⟩, Or.inl rfl⟩

