def dpF (f : Nat → Int) (r0 a b : Nat) : Nat → Int := fun i => if i = 1 then f 1 - 1 else if 50 + 6 * r0 ≤ i ∧ i < a then f (i + 6) else if 146 + 48 * r0 ≤ i ∧ i < b then f (i + 48) else f i
theorem dp_a {f : Nat → Int} {r0 a b : Nat} (h1 : 50 + 6 * r0 ≤ a) (h2 : a < 140) : (fun i => if i = a then dpF f r0 a b (a + 6) else dpF f r0 a b i) = dpF f r0 (a + 1) b := by
  funext i
  unfold dpF
  by_cases q : i = a
  · subst q
    rw [if_pos rfl, if_neg (by omega), if_neg (by omega), if_neg (by omega), if_neg (by omega), if_pos (by omega)]
  · rw [if_neg q]
    by_cases q1 : i = 1
    · rw [if_pos q1, if_pos q1]
    · rw [if_neg q1, if_neg q1]
      by_cases q2 : 50 + 6 * r0 ≤ i ∧ i < a
      · rw [if_pos q2, if_pos (by omega)]
      · rw [if_neg q2, if_neg (show ¬ (50 + 6 * r0 ≤ i ∧ i < a + 1) by omega)]
theorem dp_b {f : Nat → Int} {r0 a b : Nat} (h1 : 146 + 48 * r0 ≤ b) (h2 : a ≤ 146) : (fun i => if i = b then dpF f r0 a b (b + 48) else dpF f r0 a b i) = dpF f r0 a (b + 1) := by
  funext i
  unfold dpF
  by_cases q : i = b
  · subst q
    rw [if_pos rfl, if_neg (by omega), if_neg (by omega), if_neg (by omega), if_neg (by omega), if_neg (by omega), if_pos (by omega)]
  · rw [if_neg q]
    by_cases q1 : i = 1
    · rw [if_pos q1, if_pos q1]
    · rw [if_neg q1, if_neg q1]
      by_cases q2 : 50 + 6 * r0 ≤ i ∧ i < a
      · rw [if_pos q2, if_pos q2]
      · rw [if_neg q2, if_neg q2]
        by_cases q3 : 146 + 48 * r0 ≤ i ∧ i < b
        · rw [if_pos q3, if_pos (by omega)]
        · rw [if_neg q3, if_neg (by omega)]
theorem dp_0 {f : Nat → Int} {r0 : Nat} : (fun i => if i = 1 then f 1 - 1 else f i) = dpF f r0 (50 + 6 * r0) (146 + 48 * r0) := by
  funext i
  unfold dpF
  by_cases q1 : i = 1
  · rw [if_pos q1, if_pos q1]
  · rw [if_neg q1, if_neg q1, if_neg (by omega), if_neg (by omega)]
section Drp
variable {l : Launch} {M : ev_M} {v : Vw} {f : Nat → Int} {r0 r : Nat} {Q : Option ev_V → List ev_Sh → ev_M → Prop}
set_option maxHeartbeats 1000000 in
theorem lp_dp1 {w1 : Int} (h0 : r0 ≤ r) (hr : r < 15) (K : Ev l none 2 kX8_drop (0, 0) S0 (setD M (dpF f r0 (50 + 6 * (r + 1)) (146 + 48 * r))) 73 [some (vr 100), some (vi w1), some (vi (r : Int)), some (vi 6)] [] Q) : ∀ (n j : Nat) (x : Int), x = j → j + n = 6 → Ev l none 2 kX8_drop (0, 0) S0 (setD M (dpF f r0 (50 + 6 * r + j) (146 + 48 * r))) 39 [some (vr 100), some (vi w1), some (vi (r : Int)), some (vi x)] [] Q := by
  intro n
  induction n with
  | zero =>
    intro j x hx hn
    have hj : j = 6 := by omega
    subst hj
    refine ev_iload_3 (q := 40) dX8_drop_39 rfl ?_
    refine ev_bipush (q := 42) dX8_drop_40 rfl (by decide) ?_
    refine ev_icmp_ge (t := 73) (q := 45) dX8_drop_42 (by decide) rfl (by constructor <;> omega) (by constructor <;> omega) (fun h_42 => ?_) (fun h_42 => ?_)
    · rw [hx]
      exact K
    · omega
  | succ n ih =>
    intro j x hx hn
    subst hx
    refine ev_iload_3 (q := 40) dX8_drop_39 rfl ?_
    refine ev_bipush (q := 42) dX8_drop_40 rfl (by decide) ?_
    refine ev_icmp_ge (t := 73) (q := 45) dX8_drop_42 (by decide) rfl (by constructor <;> omega) (by constructor <;> omega) (fun h_42 => ?_) (fun h_42 => ?_)
    · omega
    · refine ev_aload_0 (q := 46) dX8_drop_45 rfl ?_
      refine ev_getR (q := 49) dX8_drop_46 fl_RX8_7 (by first | assumption | rfl) (by rfl) rfl ?_
      refine ev_bipush (q := 51) dX8_drop_49 rfl (by decide) ?_
      refine ev_bipush (q := 53) dX8_drop_51 rfl (by decide) ?_
      refine ev_iload_2 (q := 54) dX8_drop_53 rfl ?_
      refine ev_imul (q := 55) dX8_drop_54 rfl ?_
      refine ev_iadd (q := 56) dX8_drop_55 rfl ?_
      refine ev_iload_3 (q := 57) dX8_drop_56 rfl ?_
      refine ev_iadd (q := 58) dX8_drop_57 rfl ?_
      refine ev_aload_0 (q := 59) dX8_drop_58 rfl ?_
      refine ev_iload_2 (q := 60) dX8_drop_59 rfl ?_
      refine ev_iconst (q := 61) dX8_drop_60 rfl ?_
      refine ev_iadd (q := 62) dX8_drop_61 rfl ?_
      refine ev_iload_3 (q := 63) dX8_drop_62 rfl ?_
      rw [show (r : Int) + 1 = ((r + 1 : Nat) : Int) by omega]
      refine ev_callV2i (q := 66) dX8_drop_63 vs_RX8_58 (by first | assumption | rfl) (c_X8_of (r := r + 1) (w := j) (by omega) (by omega)) (by decide) (Nat.le_of_ble_eq_true rfl) rfl (fun h_63 => ?_)
      refine ev_iastore (q := 67) dX8_drop_66 (by first | assumption | rfl) (by omega) (by first | decide | omega) (by constructor <;> omega) rfl ?_
      rw [show (50 + 6 * (r : Int) + (j : Int)).toNat = 50 + 6 * r + j by omega, setD_up]
      refine ev_iinc_3 (q := 70) dX8_drop_67 rfl (by decide) ?_
      refine ev_goto (q := 39) dX8_drop_70 (by decide) ?_
      refine Ev_M ?_ (ih (j + 1) _ rfl (by omega))
      rw [show 50 + 6 * r + (j + 1) = 50 + 6 * r + j + 1 by omega, ← dp_a (show 50 + 6 * r0 ≤ 50 + 6 * r + j by omega) (by omega), show 50 + 6 * r + j + 6 = 50 + 6 * (r + 1) + j by omega]
      rfl
set_option maxHeartbeats 1000000 in
theorem lp_dp2 {w1 : Int} (h0 : r0 ≤ r) (hr : r < 15) (K : Ev l none 2 kX8_drop (0, 0) S0 (setD M (dpF f r0 (50 + 6 * (r + 1)) (146 + 48 * (r + 1)))) 113 [some (vr 100), some (vi w1), some (vi (r : Int)), some (vi 48)] [] Q) : ∀ (n j : Nat) (x : Int), x = j → j + n = 48 → Ev l none 2 kX8_drop (0, 0) S0 (setD M (dpF f r0 (50 + 6 * (r + 1)) (146 + 48 * r + j))) 75 [some (vr 100), some (vi w1), some (vi (r : Int)), some (vi x)] [] Q := by
  intro n
  induction n with
  | zero =>
    intro j x hx hn
    have hj : j = 48 := by omega
    subst hj
    refine ev_iload_3 (q := 76) dX8_drop_75 rfl ?_
    refine ev_bipush (q := 78) dX8_drop_76 rfl (by decide) ?_
    refine ev_icmp_ge (t := 113) (q := 81) dX8_drop_78 (by decide) rfl (by constructor <;> omega) (by constructor <;> omega) (fun h_78 => ?_) (fun h_78 => ?_)
    · rw [hx]
      exact K
    · omega
  | succ n ih =>
    intro j x hx hn
    subst hx
    refine ev_iload_3 (q := 76) dX8_drop_75 rfl ?_
    refine ev_bipush (q := 78) dX8_drop_76 rfl (by decide) ?_
    refine ev_icmp_ge (t := 113) (q := 81) dX8_drop_78 (by decide) rfl (by constructor <;> omega) (by constructor <;> omega) (fun h_78 => ?_) (fun h_78 => ?_)
    · omega
    · refine ev_aload_0 (q := 82) dX8_drop_81 rfl ?_
      refine ev_getR (q := 85) dX8_drop_82 fl_RX8_7 (by first | assumption | rfl) (by rfl) rfl ?_
      refine ev_iload_2 (q := 86) dX8_drop_85 rfl ?_
      refine ev_iconst (q := 87) dX8_drop_86 rfl ?_
      refine ev_callS2i (q := 90) dX8_drop_87 ss_RX8_78 (c_X8_says (by omega) (by omega)) (by decide) (Nat.le_of_ble_eq_true rfl) rfl (fun h_87 => ?_)
      refine ev_iload_3 (q := 91) dX8_drop_90 rfl ?_
      refine ev_iadd (q := 92) dX8_drop_91 rfl ?_
      refine ev_aload_0 (q := 93) dX8_drop_92 rfl ?_
      refine ev_getR (q := 96) dX8_drop_93 fl_RX8_7 (by first | assumption | rfl) (by rfl) rfl ?_
      refine ev_iload_2 (q := 97) dX8_drop_96 rfl ?_
      refine ev_iconst (q := 98) dX8_drop_97 rfl ?_
      refine ev_iadd (q := 99) dX8_drop_98 rfl ?_
      refine ev_iconst (q := 100) dX8_drop_99 rfl ?_
      refine ev_callS2i (q := 103) dX8_drop_100 ss_RX8_78 (c_X8_says (by omega) (by omega)) (by decide) (Nat.le_of_ble_eq_true rfl) rfl (fun h_100 => ?_)
      refine ev_iload_3 (q := 104) dX8_drop_103 rfl ?_
      refine ev_iadd (q := 105) dX8_drop_104 rfl ?_
      refine ev_iaload (q := 106) dX8_drop_105 (by first | assumption | rfl) (by omega) (by first | decide | omega) rfl (fun h_105 => ?_)
      rw [show (146 + 48 * ((r : Int) + 1) + 3 * 0 + (j : Int)).toNat = 146 + 48 * (r + 1) + j by omega] at h_105 ⊢
      refine ev_iastore (q := 107) dX8_drop_106 (by first | assumption | rfl) (by omega) (by first | decide | omega) (by constructor <;> omega) rfl ?_
      rw [show (146 + 48 * (r : Int) + 3 * 0 + (j : Int)).toNat = 146 + 48 * r + j by omega, setD_up]
      refine ev_iinc_3 (q := 110) dX8_drop_107 rfl (by decide) ?_
      refine ev_goto (q := 75) dX8_drop_110 (by decide) ?_
      refine Ev_M ?_ (ih (j + 1) _ rfl (by omega))
      rw [show 146 + 48 * r + (j + 1) = 146 + 48 * r + j + 1 by omega, ← dp_b (show 146 + 48 * r0 ≤ 146 + 48 * r + j by omega) (show 50 + 6 * (r + 1) ≤ 146 by omega), show 146 + 48 * r + j + 48 = 146 + 48 * (r + 1) + j by omega]
      rfl
set_option maxHeartbeats 1000000 in
theorem lp_dp {w1 : Int} {m : Nat} (hf : f 1 = (m : Int) + 1) (hm : m ≤ 15) (K : ∀ w2 w3, Ev l none 2 kX8_drop (0, 0) S0 (setD M (dpF f r0 (50 + 6 * m) (146 + 48 * m))) 119 [some (vr 100), some (vi w1), w2, w3] [] Q) : ∀ (n r : Nat) (x : Int) (w3 : Option ev_V), x = r → r + n = m → r0 ≤ r → Ev l none 2 kX8_drop (0, 0) S0 (setD M (dpF f r0 (50 + 6 * r) (146 + 48 * r))) 27 [some (vr 100), some (vi w1), some (vi x), w3] [] Q := by
  intro n
  induction n with
  | zero =>
    intro r x w3 hx hn h0
    have hz : setD M (dpF f r0 (50 + 6 * r) (146 + 48 * r)) 101 1 = (m : Int) := by rw [setD_101, dpF, if_pos rfl]; omega
    have hrm : r = m := by omega
    refine ev_iload_2 (q := 28) dX8_drop_27 rfl ?_
    refine ev_aload_0 (q := 29) dX8_drop_28 rfl ?_
    refine ev_getR (q := 32) dX8_drop_29 fl_RX8_7 (by first | assumption | rfl) (by rfl) rfl ?_
    refine ev_iconst (q := 33) dX8_drop_32 rfl ?_
    refine ev_iaload (q := 34) dX8_drop_33 (by first | assumption | rfl) (by omega) (by first | decide | omega) rfl (fun h_33 => ?_)
    rw [z1, hz] at h_33 ⊢
    refine ev_icmp_ge (t := 119) (q := 37) dX8_drop_34 (by decide) rfl (by constructor <;> omega) (by constructor <;> omega) (fun h_34 => ?_) (fun h_34 => ?_)
    · rw [hrm]
      exact K _ _
    · omega
  | succ n ih =>
    intro r x w3 hx hn h0
    have hz : setD M (dpF f r0 (50 + 6 * r) (146 + 48 * r)) 101 1 = (m : Int) := by rw [setD_101, dpF, if_pos rfl]; omega
    subst hx
    have K2 : Ev l none 2 kX8_drop (0, 0) S0 (setD M (dpF f r0 (50 + 6 * (r + 1)) (146 + 48 * (r + 1)))) 113 [some (vr 100), some (vi w1), some (vi (r : Int)), some (vi 48)] [] Q := by
      refine ev_iinc_2 (q := 116) dX8_drop_113 rfl (by decide) ?_
      refine ev_goto (q := 27) dX8_drop_116 (by decide) ?_
      exact ih (r + 1) _ _ (by omega) (by omega) (by omega)
    have K1 : Ev l none 2 kX8_drop (0, 0) S0 (setD M (dpF f r0 (50 + 6 * (r + 1)) (146 + 48 * r))) 73 [some (vr 100), some (vi w1), some (vi (r : Int)), some (vi 6)] [] Q := by
      refine ev_iconst (q := 74) dX8_drop_73 rfl ?_
      refine ev_istore_3 (q := 75) dX8_drop_74 rfl (by decide) ?_
      exact lp_dp2 h0 (by omega) K2 48 0 _ rfl rfl
    refine ev_iload_2 (q := 28) dX8_drop_27 rfl ?_
    refine ev_aload_0 (q := 29) dX8_drop_28 rfl ?_
    refine ev_getR (q := 32) dX8_drop_29 fl_RX8_7 (by first | assumption | rfl) (by rfl) rfl ?_
    refine ev_iconst (q := 33) dX8_drop_32 rfl ?_
    refine ev_iaload (q := 34) dX8_drop_33 (by first | assumption | rfl) (by omega) (by first | decide | omega) rfl (fun h_33 => ?_)
    rw [z1, hz] at h_33 ⊢
    refine ev_icmp_ge (t := 119) (q := 37) dX8_drop_34 (by decide) rfl (by constructor <;> omega) (by constructor <;> omega) (fun h_34 => ?_) (fun h_34 => ?_)
    · omega
    · refine ev_iconst (q := 38) dX8_drop_37 rfl ?_
      refine ev_istore_3 (q := 39) dX8_drop_38 rfl (by decide) ?_
      exact lp_dp1 h0 (by omega) K1 6 0 _ rfl rfl
set_option maxHeartbeats 1000000 in
theorem t_drop119 {r' m : Nat} (hr : (0 ≤ (r' : Int) ∧ (r' : Int) < vrn v) ∧ M 101 1 = vrn v ∧ vrn v ≤ 16) (hm : vrn v - 1 = (m : Int)) (w2 w3 : Option ev_V) : Ev l none 2 kX8_drop (0, 0) S0 (setD (mrec M) (dpF (M 101) r' (50 + 6 * m) (146 + 48 * m))) 119 [some (vr 100), some (vi (r' : Int)), w2, w3] [] (QI S0 (fun x M2 => (¬ (0 ≤ (r' : Int) ∧ (r' : Int) < vrn v) ∧ x = -11 ∧ M2 = M) ∨ ((0 ≤ (r' : Int) ∧ (r' : Int) < vrn v) ∧ x = vrn v - 1 ∧ Dm M (dpF (M 101) (r' : Int).toNat (50 + 6 * (vrn v - 1).toNat) (146 + 48 * (vrn v - 1).toNat)) M2))) := by
  have hz : setD (mrec M) (dpF (M 101) r' (50 + 6 * m) (146 + 48 * m)) 101 1 = (m : Int) := by rw [setD_101, dpF, if_pos rfl]; omega
  refine ev_aload_0 (q := 120) dX8_drop_119 rfl ?_
  refine ev_getR (q := 123) dX8_drop_120 fl_RX8_7 (by first | assumption | rfl) (by rfl) rfl ?_
  refine ev_iconst (q := 124) dX8_drop_123 rfl ?_
  refine ev_iaload (q := 125) dX8_drop_124 (by first | assumption | rfl) (by omega) (by first | decide | omega) rfl (fun h_124 => ?_)
  rw [z1, hz] at h_124 ⊢
  refine ev_ireturn dX8_drop_125 rfl rfl (by constructor <;> omega) ?_
  exact ⟨_, rfl, rfl, Or.inr ⟨hr.1, by omega, by rw [hm, Int.toNat_natCast, Int.toNat_natCast]; exact setD_Dm⟩⟩
set_option maxHeartbeats 1000000 in
theorem m_drop {r : Int} (hA : Ag (M 101) v) (hW : Wf v) (hH : 0 ≤ M 100 2 ∧ M 100 2 ≤ 5) (hr : inR r) : Ri l 2 kX8_drop yX8_drop S0 M [vr 100, vi r] (fun x M2 => (¬ (0 ≤ r ∧ r < vrn v) ∧ x = -11 ∧ M2 = M) ∨ ((0 ≤ r ∧ r < vrn v) ∧ x = vrn v - 1 ∧ Dm M (dpF (M 101) r.toNat (50 + 6 * (vrn v - 1).toNat) (146 + 48 * (vrn v - 1).toNat)) M2)) := by
  have h2 := hW.2.1
  have hn1 := hA.2.1
  refine Ri.of (by decide) rfl (by decide) (Nat.le_of_ble_eq_true rfl) ?_
  refine (show Ev _ none _ _ _ _ _ 0 [_, _, _, _] [] _ from ?_)
  refine ev_aload_0 (q := 1) dX8_drop_0 rfl ?_
  refine ev_iload_1 (q := 2) dX8_drop_1 rfl ?_
  refine ev_callV1i (q := 5) dX8_drop_2 vs_RX8_95 (by first | assumption | rfl) (c_X8_isRule (by constructor <;> omega) (by omega)) (by decide) (Nat.le_of_ble_eq_true rfl) rfl (fun h_2 => ?_)
  refine ev_b_ne (t := 11) (q := 8) dX8_drop_5 (by decide) rfl (fun h_5 => ?_) (fun h_5 => ?_)
  · refine ev_aload_0 (q := 12) dX8_drop_11 rfl ?_
    refine ev_callV0v (q := 15) dX8_drop_12 vs_RX8_55 (by first | assumption | rfl) (c_X8_records hH) (by decide) (Nat.le_of_ble_eq_true rfl) rfl ?_
    rw [mrec_s]
    obtain ⟨r', rfl⟩ : ∃ r' : Nat, r = r' := ⟨r.toNat, by omega⟩
    obtain ⟨m, hm⟩ : ∃ m : Nat, vrn v - 1 = m := ⟨(vrn v - 1).toNat, by omega⟩
    have hK := t_drop119 (l := l) (M := M) (v := v) (r' := r') (m := m) (by omega) hm
    refine ev_aload_0 (q := 16) dX8_drop_15 rfl ?_
    refine ev_getR (q := 19) dX8_drop_16 fl_RX8_7 (by first | assumption | rfl) (by rfl) rfl ?_
    refine ev_iconst (q := 20) dX8_drop_19 rfl ?_
    refine ev_dup2 (q := 21) dX8_drop_20 rfl ?_
    refine ev_iaload (q := 22) dX8_drop_21 (by first | assumption | rfl) (by omega) (by first | decide | omega) rfl (fun h_21 => ?_)
    rw [z1, show setD (mrec M) (M 101) 101 1 = M 101 1 from rfl] at h_21 ⊢
    refine ev_iconst (q := 23) dX8_drop_22 rfl ?_
    refine ev_isub (q := 24) dX8_drop_23 rfl ?_
    refine ev_iastore (q := 25) dX8_drop_24 (by first | assumption | rfl) (by omega) (by first | decide | omega) (by constructor <;> omega) rfl ?_
    rw [z1, setD_up, dp_0 (r0 := r')]
    refine ev_iload_1 (q := 26) dX8_drop_25 rfl ?_
    refine ev_istore_2 (q := 27) dX8_drop_26 rfl (by decide) ?_
    exact lp_dp (m := m) (by omega) (by omega) hK (m - r') r' _ _ rfl (by omega) (Nat.le_refl _)
  · refine ev_bipush (q := 10) dX8_drop_8 rfl (by decide) ?_
    refine ev_ireturn dX8_drop_10 rfl rfl (by constructor <;> omega) ?_
    exact ⟨_, rfl, rfl, Or.inl ⟨by omega, rfl, rfl⟩⟩
end Drp

