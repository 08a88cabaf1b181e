def zF (g : Nat → Int) (n j : Nat) : Nat → Int := fun i => if 146 + 48 * n ≤ i ∧ i < 146 + 48 * n + 3 * j ∧ (i - (146 + 48 * n)) % 3 = 0 then 0 else g i
theorem zF_s {g : Nat → Int} {n j : Nat} : (fun i => if i = 146 + 48 * n + 3 * j then 0 else zF g n j i) = zF g n (j + 1) := by
  funext i
  unfold zF
  by_cases q : i = 146 + 48 * n + 3 * j
  · rw [if_pos q, if_pos (by omega)]
  · rw [if_neg q]
    by_cases q1 : 146 + 48 * n ≤ i ∧ i < 146 + 48 * n + 3 * j ∧ (i - (146 + 48 * n)) % 3 = 0
    · rw [if_pos q1, if_pos (by omega)]
    · rw [if_neg q1, if_neg (by omega)]
theorem zF_0 {g : Nat → Int} {n : Nat} : zF g n 0 = g := by
  funext i
  unfold zF
  rw [if_neg (by omega)]
def paF (f : Nat → Int) (n : Nat) (k c a y s i : Int) : Nat → Int := fun j => if j = 55 + 6 * n then i else if j = 54 + 6 * n then s else if j = 53 + 6 * n then y else if j = 52 + 6 * n then a else if j = 51 + 6 * n then c else if j = 50 + 6 * n then k else f j
def apF (f : Nat → Int) (n : Nat) (k c a y s i : Int) : Nat → Int := fun j => if j = 1 then (n : Int) + 1 else zF (paF f n k c a y s i) n 16 j
section Apd
variable {l : Launch} {M : ev_M} {v : Vw} {f g : Nat → Int} {n : Nat} {Q : Option ev_V → List ev_Sh → ev_M → Prop}
set_option maxHeartbeats 1000000 in
theorem lp_ap {w1 w2 w3 w4 w5 w6 w7 : Option ev_V} (hn : n < 16) (hg : g 1 = (n : Int)) (K : Ev l none 1 kX8_appends (0, 0) S0 (setD M (zF g n 16)) 108 [some (vr 100), w1, w2, w3, w4, w5, w6, w7, some (vi 16)] [] Q) : ∀ (m j : Nat) (x : Int), x = j → j + m = 16 → Ev l none 1 kX8_appends (0, 0) S0 (setD M (zF g n j)) 78 [some (vr 100), w1, w2, w3, w4, w5, w6, w7, some (vi x)] [] Q := by
  intro m
  induction m with
  | zero =>
    intro j x hx hm
    have hj : j = 16 := by omega
    subst hj
    refine ev_iload_8 (q := 80) dX8_appends_78 rfl ?_
    refine ev_bipush (q := 82) dX8_appends_80 rfl (by decide) ?_
    refine ev_icmp_ge (t := 108) (q := 85) dX8_appends_82 (by decide) rfl (by constructor <;> omega) (by constructor <;> omega) (fun h_82 => ?_) (fun h_82 => ?_)
    · rw [hx]
      exact K
    · omega
  | succ m ih =>
    intro j x hx hm
    subst hx
    have hz : setD M (zF g n j) 101 1 = (n : Int) := by rw [setD_101, zF, if_neg (by omega)]; exact hg
    refine ev_iload_8 (q := 80) dX8_appends_78 rfl ?_
    refine ev_bipush (q := 82) dX8_appends_80 rfl (by decide) ?_
    refine ev_icmp_ge (t := 108) (q := 85) dX8_appends_82 (by decide) rfl (by constructor <;> omega) (by constructor <;> omega) (fun h_82 => ?_) (fun h_82 => ?_)
    · omega
    · refine ev_aload_0 (q := 86) dX8_appends_85 rfl ?_
      refine ev_getR (q := 89) dX8_appends_86 fl_RX8_7 (by first | assumption | rfl) (by rfl) rfl ?_
      refine ev_aload_0 (q := 90) dX8_appends_89 rfl ?_
      refine ev_getR (q := 93) dX8_appends_90 fl_RX8_7 (by first | assumption | rfl) (by rfl) rfl ?_
      refine ev_iconst (q := 94) dX8_appends_93 rfl ?_
      refine ev_iaload (q := 95) dX8_appends_94 (by first | assumption | rfl) (by omega) (by first | decide | omega) rfl (fun h_94 => ?_)
      rw [z1, hz] at h_94 ⊢
      refine ev_iload_8 (q := 97) dX8_appends_95 rfl ?_
      refine ev_callS2i (q := 100) dX8_appends_97 ss_RX8_78 (c_X8_says (by omega) (by omega)) (by decide) (Nat.le_of_ble_eq_true rfl) rfl (fun h_97 => ?_)
      refine ev_iconst (q := 101) dX8_appends_100 rfl ?_
      refine ev_iastore (q := 102) dX8_appends_101 (by first | assumption | rfl) (by omega) (by first | decide | omega) (by constructor <;> omega) rfl ?_
      rw [(sy_N n j).1, setD_up, zF_s]
      refine ev_iinc_8 (q := 105) dX8_appends_102 rfl (by decide) ?_
      refine ev_goto (q := 78) dX8_appends_105 (by decide) ?_
      exact ih (j + 1) _ (by omega) (by omega)
set_option maxHeartbeats 2000000 in
theorem c_X8_appends {k c a y s i : Int} (hn : n < 16) (hf : f 1 = (n : Int)) (hk : inR k) (hc : inR c) (ha : inR a) (hy : inR y) (hs : inR s) (hi : inR i) : Cx l 1 kX8_appends yX8_appends S0 (setD M f) [vr 100, vi k, vi c, vi a, vi y, vi s, vi i] (some (vi (n : Int))) (setD M (apF f n k c a y s i)) := by
  have h1 : setD M f 101 1 = (n : Int) := hf
  have ei : ∀ d : Int, 0 ≤ d → (50 + 6 * (n : Int) + d).toNat = 50 + d.toNat + 6 * n := fun d hd => by omega
  have hp1 : paF f n k c a y s i 1 = (n : Int) := by
    unfold paF
    rw [if_neg (by omega), if_neg (by omega), if_neg (by omega), if_neg (by omega), if_neg (by omega), if_neg (by omega)]
    exact hf
  have K : Ev l none 1 kX8_appends (0, 0) S0 (setD M (zF (paF f n k c a y s i) n 16)) 108 [some (vr 100), some (vi k), some (vi c), some (vi a), some (vi y), some (vi s), some (vi i), some (vi (50 + 6 * (n : Int))), some (vi 16)] [] (QX (some (vi (n : Int))) S0 (setD M (apF f n k c a y s i))) := by
    have hz : setD M (zF (paF f n k c a y s i) n 16) 101 1 = (n : Int) := by rw [setD_101, zF, if_neg (by omega)]; exact hp1
    have hz2 : setD M (apF f n k c a y s i) 101 1 = (n : Int) + 1 := by rw [setD_101, apF, if_pos rfl]
    refine ev_aload_0 (q := 109) dX8_appends_108 rfl ?_
    refine ev_getR (q := 112) dX8_appends_109 fl_RX8_7 (by first | assumption | rfl) (by rfl) rfl ?_
    refine ev_iconst (q := 113) dX8_appends_112 rfl ?_
    refine ev_dup2 (q := 114) dX8_appends_113 rfl ?_
    refine ev_iaload (q := 115) dX8_appends_114 (by first | assumption | rfl) (by omega) (by first | decide | omega) rfl (fun h_114 => ?_)
    rw [z1, hz] at h_114 ⊢
    refine ev_iconst (q := 116) dX8_appends_115 rfl ?_
    refine ev_iadd (q := 117) dX8_appends_116 rfl ?_
    refine ev_iastore (q := 118) dX8_appends_117 (by first | assumption | rfl) (by omega) (by first | decide | omega) (by constructor <;> omega) rfl ?_
    rw [z1, setD_up, show (fun j => if j = 1 then (n : Int) + 1 else zF (paF f n k c a y s i) n 16 j) = apF f n k c a y s i from rfl]
    refine ev_aload_0 (q := 119) dX8_appends_118 rfl ?_
    refine ev_getR (q := 122) dX8_appends_119 fl_RX8_7 (by first | assumption | rfl) (by rfl) rfl ?_
    refine ev_iconst (q := 123) dX8_appends_122 rfl ?_
    refine ev_iaload (q := 124) dX8_appends_123 (by first | assumption | rfl) (by omega) (by first | decide | omega) rfl (fun h_123 => ?_)
    rw [z1, hz2] at h_123 ⊢
    refine ev_iconst (q := 125) dX8_appends_124 rfl ?_
    refine ev_isub (q := 126) dX8_appends_125 rfl ?_
    refine ev_ireturn dX8_appends_126 rfl rfl (by constructor <;> omega) ?_
    exact ⟨by rw [show (n : Int) + 1 - 1 = n by omega], rfl, rfl⟩
  refine Cx.of (by decide) rfl (by decide) (Nat.le_of_ble_eq_true rfl) ?_
  refine (show Ev _ none _ _ _ _ _ 0 [_, _, _, _, _, _, _, _, _] [] _ from ?_)
  refine ev_bipush (q := 2) dX8_appends_0 rfl (by decide) ?_
  refine ev_bipush (q := 4) dX8_appends_2 rfl (by decide) ?_
  refine ev_aload_0 (q := 5) dX8_appends_4 rfl ?_
  refine ev_getR (q := 8) dX8_appends_5 fl_RX8_7 (by first | assumption | rfl) (by rfl) rfl ?_
  refine ev_iconst (q := 9) dX8_appends_8 rfl ?_
  refine ev_iaload (q := 10) dX8_appends_9 (by first | assumption | rfl) (by omega) (by first | decide | omega) rfl (fun h_9 => ?_)
  rw [z1, h1] at h_9 ⊢
  refine ev_imul (q := 11) dX8_appends_10 rfl ?_
  refine ev_iadd (q := 12) dX8_appends_11 rfl ?_
  refine ev_istore_7 (q := 14) dX8_appends_12 rfl (by decide) ?_
  refine ev_aload_0 (q := 15) dX8_appends_14 rfl ?_
  refine ev_getR (q := 18) dX8_appends_15 fl_RX8_7 (by first | assumption | rfl) (by rfl) rfl ?_
  refine ev_iload_7 (q := 20) dX8_appends_18 rfl ?_
  refine ev_iload_1 (q := 21) dX8_appends_20 rfl ?_
  refine ev_iastore (q := 22) dX8_appends_21 (by first | assumption | rfl) (by omega) (by first | decide | omega) (by constructor <;> omega) rfl ?_
  rw [show (50 + 6 * (n : Int)).toNat = 50 + 6 * n by omega, setD_up]
  refine ev_aload_0 (q := 23) dX8_appends_22 rfl ?_
  refine ev_getR (q := 26) dX8_appends_23 fl_RX8_7 (by first | assumption | rfl) (by rfl) rfl ?_
  refine ev_iload_7 (q := 28) dX8_appends_26 rfl ?_
  refine ev_iconst (q := 29) dX8_appends_28 rfl ?_
  refine ev_iadd (q := 30) dX8_appends_29 rfl ?_
  refine ev_iload_2 (q := 31) dX8_appends_30 rfl ?_
  refine ev_iastore (q := 32) dX8_appends_31 (by first | assumption | rfl) (by omega) (by first | decide | omega) (by constructor <;> omega) rfl ?_
  rw [show (50 + 6 * (n : Int) + 1).toNat = 51 + 6 * n by omega, setD_up]
  refine ev_aload_0 (q := 33) dX8_appends_32 rfl ?_
  refine ev_getR (q := 36) dX8_appends_33 fl_RX8_7 (by first | assumption | rfl) (by rfl) rfl ?_
  refine ev_iload_7 (q := 38) dX8_appends_36 rfl ?_
  refine ev_iconst (q := 39) dX8_appends_38 rfl ?_
  refine ev_iadd (q := 40) dX8_appends_39 rfl ?_
  refine ev_iload_3 (q := 41) dX8_appends_40 rfl ?_
  refine ev_iastore (q := 42) dX8_appends_41 (by first | assumption | rfl) (by omega) (by first | decide | omega) (by constructor <;> omega) rfl ?_
  rw [show (50 + 6 * (n : Int) + 2).toNat = 52 + 6 * n by omega, setD_up]
  refine ev_aload_0 (q := 43) dX8_appends_42 rfl ?_
  refine ev_getR (q := 46) dX8_appends_43 fl_RX8_7 (by first | assumption | rfl) (by rfl) rfl ?_
  refine ev_iload_7 (q := 48) dX8_appends_46 rfl ?_
  refine ev_iconst (q := 49) dX8_appends_48 rfl ?_
  refine ev_iadd (q := 50) dX8_appends_49 rfl ?_
  refine ev_iload_4 (q := 52) dX8_appends_50 rfl ?_
  refine ev_iastore (q := 53) dX8_appends_52 (by first | assumption | rfl) (by omega) (by first | decide | omega) (by constructor <;> omega) rfl ?_
  rw [show (50 + 6 * (n : Int) + 3).toNat = 53 + 6 * n by omega, setD_up]
  refine ev_aload_0 (q := 54) dX8_appends_53 rfl ?_
  refine ev_getR (q := 57) dX8_appends_54 fl_RX8_7 (by first | assumption | rfl) (by rfl) rfl ?_
  refine ev_iload_7 (q := 59) dX8_appends_57 rfl ?_
  refine ev_iconst (q := 60) dX8_appends_59 rfl ?_
  refine ev_iadd (q := 61) dX8_appends_60 rfl ?_
  refine ev_iload_5 (q := 63) dX8_appends_61 rfl ?_
  refine ev_iastore (q := 64) dX8_appends_63 (by first | assumption | rfl) (by omega) (by first | decide | omega) (by constructor <;> omega) rfl ?_
  rw [show (50 + 6 * (n : Int) + 4).toNat = 54 + 6 * n by omega, setD_up]
  refine ev_aload_0 (q := 65) dX8_appends_64 rfl ?_
  refine ev_getR (q := 68) dX8_appends_65 fl_RX8_7 (by first | assumption | rfl) (by rfl) rfl ?_
  refine ev_iload_7 (q := 70) dX8_appends_68 rfl ?_
  refine ev_iconst (q := 71) dX8_appends_70 rfl ?_
  refine ev_iadd (q := 72) dX8_appends_71 rfl ?_
  refine ev_iload_6 (q := 74) dX8_appends_72 rfl ?_
  refine ev_iastore (q := 75) dX8_appends_74 (by first | assumption | rfl) (by omega) (by first | decide | omega) (by constructor <;> omega) rfl ?_
  rw [show (50 + 6 * (n : Int) + 5).toNat = 55 + 6 * n by omega, setD_up]
  refine ev_iconst (q := 76) dX8_appends_75 rfl ?_
  refine ev_istore_8 (q := 78) dX8_appends_76 rfl (by decide) ?_
  refine Ev_M ?_ (lp_ap hn hp1 K 16 0 _ rfl rfl)
  rw [zF_0]
  rfl
set_option maxHeartbeats 2000000 in
theorem m_rule {k c a y s i : Int} (hA : Ag (M 101) v) (hW : Wf v) (hH : 0 ≤ M 100 2 ∧ M 100 2 ≤ 5) (hk : inR k) (hc : inR c) (ha : inR a) (hy : inR y) (hs : inR s) (hi : inR i) : Ri l 3 kX8_rule yX8_rule S0 M [vr 100, vi k, vi c, vi a, vi y, vi s, vi i] (fun x M2 => (¬ ((-1 ≤ k ∧ k ≤ 5) ∧ (0 ≤ c ∧ c ≤ 15) ∧ (-1 ≤ a ∧ a ≤ 5) ∧ (0 ≤ y ∧ y ≤ 3) ∧ (s = -1 ∨ 0 ≤ s ∧ s < vel v) ∧ (0 ≤ i ∧ i ≤ 1)) ∧ x = -11 ∧ M2 = M) ∨ (((-1 ≤ k ∧ k ≤ 5) ∧ (0 ≤ c ∧ c ≤ 15) ∧ (-1 ≤ a ∧ a ≤ 5) ∧ (0 ≤ y ∧ y ≤ 3) ∧ (s = -1 ∨ 0 ≤ s ∧ s < vel v) ∧ (0 ≤ i ∧ i ≤ 1)) ∧ vrn v ≥ 16 ∧ x = -13 ∧ M2 = M) ∨ (((-1 ≤ k ∧ k ≤ 5) ∧ (0 ≤ c ∧ c ≤ 15) ∧ (-1 ≤ a ∧ a ≤ 5) ∧ (0 ≤ y ∧ y ≤ 3) ∧ (s = -1 ∨ 0 ≤ s ∧ s < vel v) ∧ (0 ≤ i ∧ i ≤ 1)) ∧ vrn v < 16 ∧ x = vrn v ∧ Dm M (apF (M 101) (vrn v).toNat k c a y s i) M2)) := by
  have h1 := hW.1
  have h2 := hW.2.1
  have hn0 := hA.1
  have hn1 := hA.2.1
  refine Ri.of (by decide) rfl (by decide) (Nat.le_of_ble_eq_true rfl) ?_
  refine (show Ev _ none _ _ _ _ _ 0 [_, _, _, _, _, _, _] [] _ from ?_)
  refine ev_iload_1 (q := 1) dX8_rule_0 rfl ?_
  refine ev_iconst (q := 2) dX8_rule_1 rfl ?_
  refine ev_iconst (q := 3) dX8_rule_2 rfl ?_
  refine ev_callS3i (q := 6) dX8_rule_3 ss_RX8_39 (c_X8_in (by constructor <;> omega) (by constructor <;> omega) (by constructor <;> omega)) (by decide) (Nat.le_of_ble_eq_true rfl) rfl (fun h_3 => ?_)
  refine ev_b_eq (t := 57) (q := 9) dX8_rule_6 (by decide) rfl (fun h_6 => ?_) (fun h_6 => ?_)
  · refine ev_bipush (q := 59) dX8_rule_57 rfl (by decide) ?_
    refine ev_ireturn dX8_rule_59 rfl rfl (by constructor <;> omega) ?_
    exact ⟨_, rfl, rfl, Or.inl ⟨by omega, rfl, rfl⟩⟩
  · refine ev_iload_2 (q := 10) dX8_rule_9 rfl ?_
    refine ev_iconst (q := 11) dX8_rule_10 rfl ?_
    refine ev_bipush (q := 13) dX8_rule_11 rfl (by decide) ?_
    refine ev_callS3i (q := 16) dX8_rule_13 ss_RX8_39 (c_X8_in (by constructor <;> omega) (by constructor <;> omega) (by constructor <;> omega)) (by decide) (Nat.le_of_ble_eq_true rfl) rfl (fun h_13 => ?_)
    refine ev_b_eq (t := 57) (q := 19) dX8_rule_16 (by decide) rfl (fun h_16 => ?_) (fun h_16 => ?_)
    · refine ev_bipush (q := 59) dX8_rule_57 rfl (by decide) ?_
      refine ev_ireturn dX8_rule_59 rfl rfl (by constructor <;> omega) ?_
      exact ⟨_, rfl, rfl, Or.inl ⟨by omega, rfl, rfl⟩⟩
    · refine ev_iload_3 (q := 20) dX8_rule_19 rfl ?_
      refine ev_iconst (q := 21) dX8_rule_20 rfl ?_
      refine ev_iconst (q := 22) dX8_rule_21 rfl ?_
      refine ev_callS3i (q := 25) dX8_rule_22 ss_RX8_39 (c_X8_in (by constructor <;> omega) (by constructor <;> omega) (by constructor <;> omega)) (by decide) (Nat.le_of_ble_eq_true rfl) rfl (fun h_22 => ?_)
      refine ev_b_eq (t := 57) (q := 28) dX8_rule_25 (by decide) rfl (fun h_25 => ?_) (fun h_25 => ?_)
      · refine ev_bipush (q := 59) dX8_rule_57 rfl (by decide) ?_
        refine ev_ireturn dX8_rule_59 rfl rfl (by constructor <;> omega) ?_
        exact ⟨_, rfl, rfl, Or.inl ⟨by omega, rfl, rfl⟩⟩
      · refine ev_iload_4 (q := 30) dX8_rule_28 rfl ?_
        refine ev_iconst (q := 31) dX8_rule_30 rfl ?_
        refine ev_iconst (q := 32) dX8_rule_31 rfl ?_
        refine ev_callS3i (q := 35) dX8_rule_32 ss_RX8_39 (c_X8_in (by constructor <;> omega) (by constructor <;> omega) (by constructor <;> omega)) (by decide) (Nat.le_of_ble_eq_true rfl) rfl (fun h_32 => ?_)
        refine ev_b_eq (t := 57) (q := 38) dX8_rule_35 (by decide) rfl (fun h_35 => ?_) (fun h_35 => ?_)
        · refine ev_bipush (q := 59) dX8_rule_57 rfl (by decide) ?_
          refine ev_ireturn dX8_rule_59 rfl rfl (by constructor <;> omega) ?_
          exact ⟨_, rfl, rfl, Or.inl ⟨by omega, rfl, rfl⟩⟩
        · refine ev_aload_0 (q := 39) dX8_rule_38 rfl ?_
          refine ev_iload_5 (q := 41) dX8_rule_39 rfl ?_
          refine ev_callV1i (q := 44) dX8_rule_41 vs_RX8_88 (by first | assumption | rfl) (c_X8_isScope (by constructor <;> omega) (by omega)) (by decide) (Nat.le_of_ble_eq_true rfl) rfl (fun h_41 => ?_)
          refine ev_b_eq (t := 57) (q := 47) dX8_rule_44 (by decide) rfl (fun h_44 => ?_) (fun h_44 => ?_)
          · refine ev_bipush (q := 59) dX8_rule_57 rfl (by decide) ?_
            refine ev_ireturn dX8_rule_59 rfl rfl (by constructor <;> omega) ?_
            exact ⟨_, rfl, rfl, Or.inl ⟨by omega, rfl, rfl⟩⟩
          · refine ev_iload_6 (q := 49) dX8_rule_47 rfl ?_
            refine ev_iconst (q := 50) dX8_rule_49 rfl ?_
            refine ev_iconst (q := 51) dX8_rule_50 rfl ?_
            refine ev_callS3i (q := 54) dX8_rule_51 ss_RX8_39 (c_X8_in (by constructor <;> omega) (by constructor <;> omega) (by constructor <;> omega)) (by decide) (Nat.le_of_ble_eq_true rfl) rfl (fun h_51 => ?_)
            refine ev_b_ne (t := 60) (q := 57) dX8_rule_54 (by decide) rfl (fun h_54 => ?_) (fun h_54 => ?_)
            · refine ev_aload_0 (q := 61) dX8_rule_60 rfl ?_
              refine ev_getR (q := 64) dX8_rule_61 fl_RX8_7 (by first | assumption | rfl) (by rfl) rfl ?_
              refine ev_iconst (q := 65) dX8_rule_64 rfl ?_
              refine ev_iaload (q := 66) dX8_rule_65 (by first | assumption | rfl) (by omega) (by first | decide | omega) rfl (fun h_65 => ?_)
              rw [z1, hn1] at h_65 ⊢
              refine ev_bipush (q := 68) dX8_rule_66 rfl (by decide) ?_
              refine ev_icmp_ne (t := 74) (q := 71) dX8_rule_68 (by decide) rfl (by constructor <;> omega) (by constructor <;> omega) (fun h_68 => ?_) (fun h_68 => ?_)
              · refine ev_aload_0 (q := 75) dX8_rule_74 rfl ?_
                refine ev_callV0v (q := 78) dX8_rule_75 vs_RX8_55 (by first | assumption | rfl) (c_X8_records hH) (by decide) (Nat.le_of_ble_eq_true rfl) rfl ?_
                rw [mrec_s]
                refine ev_aload_0 (q := 79) dX8_rule_78 rfl ?_
                refine ev_iload_1 (q := 80) dX8_rule_79 rfl ?_
                refine ev_iload_2 (q := 81) dX8_rule_80 rfl ?_
                refine ev_iload_3 (q := 82) dX8_rule_81 rfl ?_
                refine ev_iload_4 (q := 84) dX8_rule_82 rfl ?_
                refine ev_iload_5 (q := 86) dX8_rule_84 rfl ?_
                refine ev_iload_6 (q := 88) dX8_rule_86 rfl ?_
                refine ev_callV6i (q := 91) dX8_rule_88 vs_RX8_91 (by first | assumption | rfl) (c_X8_appends (n := (vrn v).toNat) (by omega) (by omega) hk hc ha hy hs hi) (by decide) (Nat.le_of_ble_eq_true rfl) rfl (fun h_88 => ?_)
                refine ev_ireturn dX8_rule_91 rfl rfl (by constructor <;> omega) ?_
                exact ⟨_, rfl, rfl, Or.inr (Or.inr ⟨by omega, by omega, by omega, setD_Dm⟩)⟩
              · refine ev_bipush (q := 73) dX8_rule_71 rfl (by decide) ?_
                refine ev_ireturn dX8_rule_73 rfl rfl (by constructor <;> omega) ?_
                exact ⟨_, rfl, rfl, Or.inr (Or.inl ⟨by omega, by omega, rfl, rfl⟩)⟩
            · refine ev_bipush (q := 59) dX8_rule_57 rfl (by decide) ?_
              refine ev_ireturn dX8_rule_59 rfl rfl (by constructor <;> omega) ?_
              exact ⟨_, rfl, rfl, Or.inl ⟨by omega, rfl, rfl⟩⟩
end Apd

