/-- r refers for p -/
def rfs (M : ev_M) (ea : Nat) (r p : Int) : Bool := decide (M ea (r * 48 + p * 3 + 1).toNat ≠ -1)
set_option maxHeartbeats 1000000 in
theorem lp_X3_allReferences2 {l : Launch} {M : ev_M} {r y0 : Int} (hr : 0 ≤ r ∧ r < 16) (hy0 : 0 ≤ y0 ∧ y0 ≤ 100000) {Q : Option ev_V → List ev_Sh → ev_M → Prop} (K : Ev l none 3 kX3_allReferences (0, 0) S0 M 38 [some (vr 9), some (vi (y0 + cnt (fun p => rfs M 13 r p) 16)), some (vi r), some (vi 16)] [] Q) : ∀ (n j : Nat) (x y : Int), x = j → j + n = 16 → y = y0 + cnt (fun p => rfs M 13 r p) j → Ev l none 3 kX3_allReferences (0, 0) S0 M 14 [some (vr 9), some (vi y), some (vi r), some (vi x)] [] Q := by
  intro n
  induction n with
  | zero =>
    intro j x y hx hn hy
    have hj : j = 16 := by omega
    subst hj
    refine ev_iload_3 (q := 15) dX3_allReferences_14 rfl ?_
    refine ev_bipush (q := 17) dX3_allReferences_15 rfl (by decide) ?_
    refine ev_icmp_ge (t := 38) (q := 20) dX3_allReferences_17 (by decide) rfl (by constructor <;> omega) (by constructor <;> omega) (fun h_17 => ?_) (fun h_17 => ?_)
    · rw [hy, hx]; exact K
    · omega
  | succ n ih =>
    intro j x y hx hn hy
    have hc := cnt_rng (fun p => rfs M 13 r p) j
    refine ev_iload_3 (q := 15) dX3_allReferences_14 rfl ?_
    refine ev_bipush (q := 17) dX3_allReferences_15 rfl (by decide) ?_
    refine ev_icmp_ge (t := 38) (q := 20) dX3_allReferences_17 (by decide) rfl (by constructor <;> omega) (by constructor <;> omega) (fun h_17 => ?_) (fun h_17 => ?_)
    · omega
    · refine ev_aload_0 (q := 21) dX3_allReferences_20 rfl ?_
      refine ev_iload_2 (q := 22) dX3_allReferences_21 rfl ?_
      refine ev_iload_3 (q := 23) dX3_allReferences_22 rfl ?_
      refine ev_callV2i (q := 26) dX3_allReferences_23 vs_RX3_55 (by first | assumption | rfl) (c_X3_refers (by omega) (by omega)) (by decide) (Nat.le_of_ble_eq_true rfl) rfl (fun h_23 => ?_)
      refine ev_b_eq (t := 32) (q := 29) dX3_allReferences_26 (by decide) rfl (fun h_26 => ?_) (fun h_26 => ?_)
      · refine ev_iinc_3 (q := 35) dX3_allReferences_32 rfl (by decide) ?_
        refine ev_goto (q := 14) dX3_allReferences_35 (by decide) ?_
        refine ih (j + 1) _ _ (by omega) (by omega) ?_
        unfold cnt
        subst hx
        rw [hy]
        first | (rw [if_pos (by simpa [rfs] using h_26)]; omega) | (rw [if_neg (by simpa [rfs] using h_26)]; omega)
      · refine ev_iinc_1 (q := 32) dX3_allReferences_29 rfl (by decide) ?_
        refine ev_iinc_3 (q := 35) dX3_allReferences_32 rfl (by decide) ?_
        refine ev_goto (q := 14) dX3_allReferences_35 (by decide) ?_
        refine ih (j + 1) _ _ (by omega) (by omega) ?_
        unfold cnt
        subst hx
        rw [hy]
        first | (rw [if_pos (by simpa [rfs] using h_26)]; omega) | (rw [if_neg (by simpa [rfs] using h_26)]; omega)
set_option maxHeartbeats 1000000 in
theorem lp_X3_allReferences {l : Launch} {M : ev_M} (hs : 0 ≤ M 9 0 ∧ M 9 0 ≤ 16) : ∀ (n j : Nat) (x y z : Int) (w : Option ev_V), x = j → j + n = (M 9 0).toNat → y = sumN (fun r => cnt (fun p => rfs M 13 r p) 16) j → z = sumN (fun r => cnt (fun p => rfs M 13 r p) 16) (M 9 0).toNat → Ev l none 3 kX3_allReferences (0, 0) S0 M 4 [some (vr 9), some (vi y), some (vi x), w] [] (QX (some (vi z)) S0 M) := by
  intro n
  induction n with
  | zero =>
    intro j x y z w hx hn hy hz
    have hj : j = (M 9 0).toNat := by omega
    have hc := sumN_rng (f := fun r : Nat => cnt (fun p => rfs M 13 r p) 16) (K := 16) (by omega) j (fun i _ => by have := cnt_rng (fun p => rfs M 13 i p) 16; omega)
    refine ev_iload_2 (q := 5) dX3_allReferences_4 rfl ?_
    refine ev_aload_0 (q := 6) dX3_allReferences_5 rfl ?_
    refine ev_getI (q := 9) dX3_allReferences_6 fl_RX3_23 (by first | assumption | rfl) (by rfl) rfl (fun h_6 => ?_)
    refine ev_icmp_ge (t := 44) (q := 12) dX3_allReferences_9 (by decide) rfl (by constructor <;> omega) (by constructor <;> omega) (fun h_9 => ?_) (fun h_9 => ?_)
    · refine ev_iload_1 (q := 45) dX3_allReferences_44 rfl ?_
      refine ev_ireturn dX3_allReferences_45 rfl rfl (by constructor <;> omega) ?_
      exact ⟨by rw [hy, hz, hj], rfl, rfl⟩
    · omega
  | succ n ih =>
    intro j x y z w hx hn hy hz
    have hc := sumN_rng (f := fun r : Nat => cnt (fun p => rfs M 13 r p) 16) (K := 16) (by omega) j (fun i _ => by have := cnt_rng (fun p => rfs M 13 i p) 16; omega)
    have K : 0 ≤ x ∧ x < 16 → Ev l none 3 kX3_allReferences (0, 0) S0 M 38 [some (vr 9), some (vi (y + cnt (fun p => rfs M 13 x p) 16)), some (vi x), some (vi 16)] [] (QX (some (vi z)) S0 M) := by
      intro hx2
      refine ev_iinc_2 (q := 41) dX3_allReferences_38 rfl (by decide) ?_
      refine ev_goto (q := 4) dX3_allReferences_41 (by decide) ?_
      refine ih (j + 1) _ _ _ _ (by omega) (by omega) ?_ hz
      unfold sumN
      rw [hy, hx]
    refine ev_iload_2 (q := 5) dX3_allReferences_4 rfl ?_
    refine ev_aload_0 (q := 6) dX3_allReferences_5 rfl ?_
    refine ev_getI (q := 9) dX3_allReferences_6 fl_RX3_23 (by first | assumption | rfl) (by rfl) rfl (fun h_6 => ?_)
    refine ev_icmp_ge (t := 44) (q := 12) dX3_allReferences_9 (by decide) rfl (by constructor <;> omega) (by constructor <;> omega) (fun h_9 => ?_) (fun h_9 => ?_)
    · omega
    · refine ev_iconst (q := 13) dX3_allReferences_12 rfl ?_
      refine ev_istore_3 (q := 14) dX3_allReferences_13 rfl (by decide) ?_
      exact lp_X3_allReferences2 (by omega) (by omega) (K (by omega)) 16 0 _ _ rfl rfl (by simp [cnt])
set_option maxHeartbeats 1000000 in
theorem c_X3_allReferences {l : Launch} {M : ev_M} (hs : 0 ≤ M 9 0 ∧ M 9 0 ≤ 16) : Cx l 3 kX3_allReferences yX3_allReferences S0 M [vr 9] (some (vi (sumN (fun r => cnt (fun p => rfs M 13 r p) 16) (M 9 0).toNat))) M := by
  refine Cx.of (by decide) rfl (by decide) (Nat.le_of_ble_eq_true rfl) ?_
  refine (show Ev _ none _ _ _ _ _ 0 [_, _, _, _] [] _ from ?_)
  refine ev_iconst (q := 1) dX3_allReferences_0 rfl ?_
  refine ev_istore_1 (q := 2) dX3_allReferences_1 rfl (by decide) ?_
  refine ev_iconst (q := 3) dX3_allReferences_2 rfl ?_
  refine ev_istore_2 (q := 4) dX3_allReferences_3 rfl (by decide) ?_
  exact lp_X3_allReferences hs (M 9 0).toNat 0 0 0 _ none rfl (by omega) rfl rfl
set_option maxHeartbeats 1000000 in
theorem lp_X3_takeOut1 {l : Launch} {M : ev_M} {r : Int} {lo hi : Nat} (hs : 0 ≤ M 9 0 ∧ M 9 0 < 16) (hhi : (hi : Int) = M 9 0 * 6) {Q : Option ev_V → List ev_Sh → ev_M → Prop} (K : Ev l none 1 kX3_takeOut (0, 0) S0 (shf M 11 lo hi 6) 51 [some (vr 9), some (vi r), some (vi hi)] [] Q) : ∀ (m j : Nat) (x : Int), x = j → j + m = hi → lo ≤ j → Ev l none 1 kX3_takeOut (0, 0) S0 (shf M 11 lo j 6) 15 [some (vr 9), some (vi r), some (vi x)] [] Q := by
  have e9 : ∀ j, (shf M 11 lo j 6) 9 0 = M 9 0 := fun j => rfl
  intro m
  induction m with
  | zero =>
    intro j x hx hj hl
    have : j = hi := by omega
    subst this
    refine ev_iload_2 (q := 16) dX3_takeOut_15 rfl ?_
    refine ev_aload_0 (q := 17) dX3_takeOut_16 rfl ?_
    refine ev_getI (q := 20) dX3_takeOut_17 fl_RX3_23 (by first | assumption | rfl) (by rfl) rfl (fun h_17 => ?_)
    simp only [up_at, shf_at, fil_at, blk_at, cp_at, Nat.reduceEqDiff, Nat.succ_ne_self, reduceCtorEq, false_and, and_false, and_true, true_and, and_self, if_false, if_true, reduceIte, eq_self] at h_17 ⊢
    refine ev_bipush (q := 22) dX3_takeOut_20 rfl (by decide) ?_
    refine ev_imul (q := 23) dX3_takeOut_22 rfl ?_
    refine ev_icmp_ge (t := 51) (q := 26) dX3_takeOut_23 (by decide) rfl (by constructor <;> omega) (by constructor <;> omega) (fun h_23 => ?_) (fun h_23 => ?_)
    · rw [hx]; exact K
    · omega
  | succ m ih =>
    intro j x hx hj hl
    refine ev_iload_2 (q := 16) dX3_takeOut_15 rfl ?_
    refine ev_aload_0 (q := 17) dX3_takeOut_16 rfl ?_
    refine ev_getI (q := 20) dX3_takeOut_17 fl_RX3_23 (by first | assumption | rfl) (by rfl) rfl (fun h_17 => ?_)
    simp only [up_at, shf_at, fil_at, blk_at, cp_at, Nat.reduceEqDiff, Nat.succ_ne_self, reduceCtorEq, false_and, and_false, and_true, true_and, and_self, if_false, if_true, reduceIte, eq_self] at h_17 ⊢
    refine ev_bipush (q := 22) dX3_takeOut_20 rfl (by decide) ?_
    refine ev_imul (q := 23) dX3_takeOut_22 rfl ?_
    refine ev_icmp_ge (t := 51) (q := 26) dX3_takeOut_23 (by decide) rfl (by constructor <;> omega) (by constructor <;> omega) (fun h_23 => ?_) (fun h_23 => ?_)
    · omega
    · refine ev_aload_0 (q := 27) dX3_takeOut_26 rfl ?_
      refine ev_getR (q := 30) dX3_takeOut_27 fl_RX3_14 (by first | assumption | rfl) (by rfl) rfl ?_
      refine ev_iload_2 (q := 31) dX3_takeOut_30 rfl ?_
      refine ev_aload_0 (q := 32) dX3_takeOut_31 rfl ?_
      refine ev_getR (q := 35) dX3_takeOut_32 fl_RX3_14 (by first | assumption | rfl) (by rfl) rfl ?_
      refine ev_iload_2 (q := 36) dX3_takeOut_35 rfl ?_
      refine ev_bipush (q := 38) dX3_takeOut_36 rfl (by decide) ?_
      refine ev_iadd (q := 39) dX3_takeOut_38 rfl ?_
      refine ev_callV1i (q := 42) dX3_takeOut_39 vs_RX3_31 (by first | assumption | rfl) (c_X2_atR (by first | assumption | rfl) (by first | assumption | rfl) (by first | decide | omega) (by omega)) (by decide) (Nat.le_of_ble_eq_true rfl) rfl (fun h_39 => ?_)
      refine ev_callV2v (q := 45) dX3_takeOut_42 vs_RX3_58 (by first | assumption | rfl) (c_X2_putR (by first | assumption | rfl) (by first | assumption | rfl) (by first | decide | omega) (by omega) (by constructor <;> omega)) (by decide) (Nat.le_of_ble_eq_true rfl) rfl ?_
      refine ev_iinc_2 (q := 48) dX3_takeOut_45 rfl (by decide) ?_
      refine ev_goto (q := 15) dX3_takeOut_48 (by decide) ?_
      refine Ev_M ?_ (ih (j + 1) _ (by omega) (by omega) (by omega))
      rw [show x.toNat = j by omega, show (x + 6).toNat = j + 6 by omega]
      exact shf_s hl
set_option maxHeartbeats 1000000 in
theorem lp_X3_takeOut2 {l : Launch} {M : ev_M} {r : Int} {lo hi : Nat} (hs : 0 ≤ M 9 0 ∧ M 9 0 < 16) (hhi : (hi : Int) = M 9 0 * 48) {Q : Option ev_V → List ev_Sh → ev_M → Prop} (K : Ev l none 1 kX3_takeOut (0, 0) S0 (shf M 13 lo hi 48) 92 [some (vr 9), some (vi r), some (vi hi)] [] Q) : ∀ (m j : Nat) (x : Int), x = j → j + m = hi → lo ≤ j → Ev l none 1 kX3_takeOut (0, 0) S0 (shf M 13 lo j 48) 56 [some (vr 9), some (vi r), some (vi x)] [] Q := by
  intro m
  induction m with
  | zero =>
    intro j x hx hj hl
    have : j = hi := by omega
    subst this
    refine ev_iload_2 (q := 57) dX3_takeOut_56 rfl ?_
    refine ev_aload_0 (q := 58) dX3_takeOut_57 rfl ?_
    refine ev_getI (q := 61) dX3_takeOut_58 fl_RX3_23 (by first | assumption | rfl) (by rfl) rfl (fun h_58 => ?_)
    simp only [up_at, shf_at, fil_at, blk_at, cp_at, Nat.reduceEqDiff, Nat.succ_ne_self, reduceCtorEq, false_and, and_false, and_true, true_and, and_self, if_false, if_true, reduceIte, eq_self] at h_58 ⊢
    refine ev_bipush (q := 63) dX3_takeOut_61 rfl (by decide) ?_
    refine ev_imul (q := 64) dX3_takeOut_63 rfl ?_
    refine ev_icmp_ge (t := 92) (q := 67) dX3_takeOut_64 (by decide) rfl (by constructor <;> omega) (by constructor <;> omega) (fun h_64 => ?_) (fun h_64 => ?_)
    · rw [hx]; exact K
    · omega
  | succ m ih =>
    intro j x hx hj hl
    refine ev_iload_2 (q := 57) dX3_takeOut_56 rfl ?_
    refine ev_aload_0 (q := 58) dX3_takeOut_57 rfl ?_
    refine ev_getI (q := 61) dX3_takeOut_58 fl_RX3_23 (by first | assumption | rfl) (by rfl) rfl (fun h_58 => ?_)
    simp only [up_at, shf_at, fil_at, blk_at, cp_at, Nat.reduceEqDiff, Nat.succ_ne_self, reduceCtorEq, false_and, and_false, and_true, true_and, and_self, if_false, if_true, reduceIte, eq_self] at h_58 ⊢
    refine ev_bipush (q := 63) dX3_takeOut_61 rfl (by decide) ?_
    refine ev_imul (q := 64) dX3_takeOut_63 rfl ?_
    refine ev_icmp_ge (t := 92) (q := 67) dX3_takeOut_64 (by decide) rfl (by constructor <;> omega) (by constructor <;> omega) (fun h_64 => ?_) (fun h_64 => ?_)
    · omega
    · refine ev_aload_0 (q := 68) dX3_takeOut_67 rfl ?_
      refine ev_getR (q := 71) dX3_takeOut_68 fl_RX3_20 (by first | assumption | rfl) (by rfl) rfl ?_
      refine ev_iload_2 (q := 72) dX3_takeOut_71 rfl ?_
      refine ev_aload_0 (q := 73) dX3_takeOut_72 rfl ?_
      refine ev_getR (q := 76) dX3_takeOut_73 fl_RX3_20 (by first | assumption | rfl) (by rfl) rfl ?_
      refine ev_iload_2 (q := 77) dX3_takeOut_76 rfl ?_
      refine ev_bipush (q := 79) dX3_takeOut_77 rfl (by decide) ?_
      refine ev_iadd (q := 80) dX3_takeOut_79 rfl ?_
      refine ev_callV1i (q := 83) dX3_takeOut_80 vs_RX3_31 (by first | assumption | rfl) (c_X2_atR (by first | assumption | rfl) (by first | assumption | rfl) (by first | decide | omega) (by omega)) (by decide) (Nat.le_of_ble_eq_true rfl) rfl (fun h_80 => ?_)
      refine ev_callV2v (q := 86) dX3_takeOut_83 vs_RX3_58 (by first | assumption | rfl) (c_X2_putR (by first | assumption | rfl) (by first | assumption | rfl) (by first | decide | omega) (by omega) (by constructor <;> omega)) (by decide) (Nat.le_of_ble_eq_true rfl) rfl ?_
      refine ev_iinc_2 (q := 89) dX3_takeOut_86 rfl (by decide) ?_
      refine ev_goto (q := 56) dX3_takeOut_89 (by decide) ?_
      refine Ev_M ?_ (ih (j + 1) _ (by omega) (by omega) (by omega))
      rw [show x.toNat = j by omega, show (x + 48).toNat = j + 48 by omega]
      exact shf_s hl
/-- the numbers behind takeOut -/
def toM (M : ev_M) (r : Nat) : ev_M := shf (shf (up M 9 0 (M 9 0 - 1)) 11 (6 * r) (6 * (M 9 0 - 1).toNat) 6) 13 (48 * r) (48 * (M 9 0 - 1).toNat) 48
set_option maxHeartbeats 1000000 in
theorem c_X3_takeOut {l : Launch} {M : ev_M} {r : Nat} {x : Int} (hx : x = r) (hr : (r : Int) < M 9 0) (hs : M 9 0 ≤ 16) : Cx l 1 kX3_takeOut yX3_takeOut S0 M [vr 9, vi x] (some (vi (M 9 0 - 1))) (toM M r) := by
  have K2 : Ev l none 1 kX3_takeOut (0, 0) S0 (toM M r) 92 [some (vr 9), some (vi x), some (vi ((48 * (M 9 0 - 1).toNat : Nat) : Int))] [] (QX (some (vi (M 9 0 - 1))) S0 (toM M r)) := by
    refine ev_aload_0 (q := 93) dX3_takeOut_92 rfl ?_
    refine ev_getI (q := 96) dX3_takeOut_93 fl_RX3_23 (by first | assumption | rfl) (by rfl) rfl (fun h_93 => ?_)
    unfold toM at h_93 ⊢
    simp only [up_at, shf_at, Nat.reduceEqDiff, false_and, and_false, and_self, if_false, if_true, reduceIte] at h_93 ⊢
    refine ev_ireturn dX3_takeOut_96 rfl rfl (by constructor <;> omega) ?_
    exact ⟨rfl, rfl, rfl⟩
  have K1 : Ev l none 1 kX3_takeOut (0, 0) S0 (shf (up M 9 0 (M 9 0 - 1)) 11 (6 * r) (6 * (M 9 0 - 1).toNat) 6) 51 [some (vr 9), some (vi x), some (vi ((6 * (M 9 0 - 1).toNat : Nat) : Int))] [] (QX (some (vi (M 9 0 - 1))) S0 (toM M r)) := by
    refine ev_iload_1 (q := 52) dX3_takeOut_51 rfl ?_
    refine ev_bipush (q := 54) dX3_takeOut_52 rfl (by decide) ?_
    refine ev_imul (q := 55) dX3_takeOut_54 rfl ?_
    refine ev_istore_2 (q := 56) dX3_takeOut_55 rfl (by decide) ?_
    refine Ev_M (shf_0 _ 13 (48 * r) 48).symm ?_
    exact lp_X3_takeOut2 (M := shf (up M 9 0 (M 9 0 - 1)) 11 (6 * r) (6 * (M 9 0 - 1).toNat) 6) (lo := 48 * r) (hi := 48 * (M 9 0 - 1).toNat) (by show 0 ≤ M 9 0 - 1 ∧ M 9 0 - 1 < 16; omega) (by show _ = (M 9 0 - 1) * 48; omega) K2 (48 * (M 9 0 - 1).toNat - 48 * r) (48 * r) _ (by omega) (by omega) (Nat.le_refl _)
  refine Cx.of (by decide) rfl (by decide) (Nat.le_of_ble_eq_true rfl) ?_
  refine (show Ev _ none _ _ _ _ _ 0 [_, _, _] [] _ from ?_)
  refine ev_aload_0 (q := 1) dX3_takeOut_0 rfl ?_
  refine ev_dup (q := 2) dX3_takeOut_1 rfl ?_
  refine ev_getI (q := 5) dX3_takeOut_2 fl_RX3_23 (by first | assumption | rfl) (by rfl) rfl (fun h_2 => ?_)
  refine ev_iconst (q := 6) dX3_takeOut_5 rfl ?_
  refine ev_isub (q := 7) dX3_takeOut_6 rfl ?_
  refine ev_putI (q := 10) dX3_takeOut_7 fl_RX3_23 (by first | assumption | rfl) (by rfl) rfl (by constructor <;> omega) ?_
  refine ev_iload_1 (q := 11) dX3_takeOut_10 rfl ?_
  refine ev_bipush (q := 13) dX3_takeOut_11 rfl (by decide) ?_
  refine ev_imul (q := 14) dX3_takeOut_13 rfl ?_
  refine ev_istore_2 (q := 15) dX3_takeOut_14 rfl (by decide) ?_
  refine Ev_M (shf_0 _ 11 (6 * r) 6).symm ?_
  exact lp_X3_takeOut1 (M := up M 9 0 (M 9 0 - 1)) (lo := 6 * r) (hi := 6 * (M 9 0 - 1).toNat) (by show 0 ≤ M 9 0 - 1 ∧ M 9 0 - 1 < 16; omega) (by show _ = (M 9 0 - 1) * 6; omega) K1 (6 * (M 9 0 - 1).toNat - 6 * r) (6 * r) _ (by omega) (by omega) (Nat.le_refl _)
/-- the numbers behind appendFirstOf -/
def afM (M : ev_M) : ev_M := up (blk (blk M 11 (6 * (M 9 0).toNat) 6 97) 13 (48 * (M 9 0).toNat) 48 99) 9 0 (M 9 0 + 1)
set_option maxHeartbeats 1000000 in
theorem c_X2_copy {l : Launch} {M : ev_M} {r a r2 a2 n : Nat} (hr : S0[r]? = some (oRow a)) (ha : S0[a]? = some (ia n)) (hr2 : S0[r2]? = some (oRow a2)) (ha2 : S0[a2]? = some (ia n)) (hn : n ≤ 10000) : Cx l 1 kX2_copy yX2_copy S0 M [vr r, vr r2] none (cp M a a2 n) := by
  refine Cx.of (by decide) rfl (by decide) (Nat.le_of_ble_eq_true rfl) ?_
  refine (show Ev _ none _ _ _ _ _ 0 [_, _] [] _ from ?_)
  refine ev_aload_1 (q := 1) dX2_copy_0 rfl ?_
  refine ev_ifnull (q := 4) dX2_copy_1 rfl ?_
  refine ev_aload_1 (q := 5) dX2_copy_4 rfl ?_
  refine ev_getR (q := 8) dX2_copy_5 fl_RX2_15 (by first | assumption | rfl) (by rfl) rfl ?_
  refine ev_iconst (q := 9) dX2_copy_8 rfl ?_
  refine ev_aload_0 (q := 10) dX2_copy_9 rfl ?_
  refine ev_getR (q := 13) dX2_copy_10 fl_RX2_15 (by first | assumption | rfl) (by rfl) rfl ?_
  refine ev_iconst (q := 14) dX2_copy_13 rfl ?_
  refine ev_aload_1 (q := 15) dX2_copy_14 rfl ?_
  refine ev_getR (q := 18) dX2_copy_15 fl_RX2_15 (by first | assumption | rfl) (by rfl) rfl ?_
  refine ev_alen (q := 19) dX2_copy_18 (by first | assumption | rfl) (by decide) rfl ?_
  refine ev_aload_0 (q := 20) dX2_copy_19 rfl ?_
  refine ev_getR (q := 23) dX2_copy_20 fl_RX2_15 (by first | assumption | rfl) (by rfl) rfl ?_
  refine ev_alen (q := 24) dX2_copy_23 (by first | assumption | rfl) (by decide) rfl ?_
  refine ev_mmin (q := 27) dX2_copy_24 mm_RX2_25 (by decide) (Nat.le_of_ble_eq_true rfl) (by constructor <;> omega) (by constructor <;> omega) rfl ?_
  refine ev_copy (q := 30) dX2_copy_27 ac_RX2_28 (by decide) (Nat.le_of_ble_eq_true rfl) (by first | assumption | rfl) (by first | assumption | rfl) (by omega) (by first | decide | omega) rfl ?_
  rw [show (min (n : Int) (n : Int)).toNat = n by omega]
  refine ev_return dX2_copy_30 rfl ?_
  refine ⟨?_, rfl, ?_⟩
  · first | rfl | (refine congrArg (fun z => some (Sum.inl z)) ?_; first | rfl | omega | (split <;> omega) | (simp [*]; done))
  · first | rfl | (simp [*]; done)
def isSt (s : Nat) : Prop := S0[s]? = some (oState (s + 1) (s + 8)) ∧ S0[s + 1]? = some (oTree (s + 2) (s + 4) (s + 6)) ∧ S0[s + 2]? = some (oRow (s + 3)) ∧ S0[s + 3]? = some (ia 16) ∧ S0[s + 4]? = some (oRow (s + 5)) ∧ S0[s + 5]? = some (ia 16) ∧ S0[s + 6]? = some (oRow (s + 7)) ∧ S0[s + 7]? = some (ia 16) ∧ S0[s + 8]? = some (oRules (s + 9) (s + 11)) ∧ S0[s + 9]? = some (oRow (s + 10)) ∧ S0[s + 10]? = some (ia 96) ∧ S0[s + 11]? = some (oRow (s + 12)) ∧ S0[s + 12]? = some (ia 768)
theorem st1 : isSt 1 := ⟨rfl, rfl, rfl, rfl, rfl, rfl, rfl, rfl, rfl, rfl, rfl, rfl, rfl⟩
theorem st_k : ∀ k, k < 5 → isSt (16 + 13 * k) := by
  intro k hk
  match k, hk with
  | 0, _ => exact ⟨rfl, rfl, rfl, rfl, rfl, rfl, rfl, rfl, rfl, rfl, rfl, rfl, rfl⟩
  | 1, _ => exact ⟨rfl, rfl, rfl, rfl, rfl, rfl, rfl, rfl, rfl, rfl, rfl, rfl, rfl⟩
  | 2, _ => exact ⟨rfl, rfl, rfl, rfl, rfl, rfl, rfl, rfl, rfl, rfl, rfl, rfl, rfl⟩
  | 3, _ => exact ⟨rfl, rfl, rfl, rfl, rfl, rfl, rfl, rfl, rfl, rfl, rfl, rfl, rfl⟩
  | 4, _ => exact ⟨rfl, rfl, rfl, rfl, rfl, rfl, rfl, rfl, rfl, rfl, rfl, rfl, rfl⟩
/-- the numbers behind a state's copy: of s2 into s -/
def tcM (M : ev_M) (s s2 : Nat) : ev_M := cp (cp (cp (up M (s + 1) 0 (M (s2 + 1) 0)) (s + 3) (s2 + 3) 16) (s + 5) (s2 + 5) 16) (s + 7) (s2 + 7) 16
def rcM (M : ev_M) (s s2 : Nat) : ev_M := cp (cp (up M (s + 8) 0 (M (s2 + 8) 0)) (s + 10) (s2 + 10) 96) (s + 12) (s2 + 12) 768
def scM (M : ev_M) (s s2 : Nat) : ev_M := rcM (tcM M s s2) s s2
set_option maxHeartbeats 1000000 in
theorem c_X6_copy {l : Launch} {M : ev_M} {s s2 : Nat} (h1 : isSt s) (h2 : isSt s2) : Cx l 2 kX6_copy yX6_copy S0 M [vr (s + 1), vr (s2 + 1)] none (tcM M s s2) := by
  obtain ⟨a0, a1, a2, a3, a4, a5, a6, a7, a8, a9, a10, a11, a12⟩ := h1
  obtain ⟨b0, b1, b2, b3, b4, b5, b6, b7, b8, b9, b10, b11, b12⟩ := h2
  refine Cx.of (by decide) rfl (by decide) (Nat.le_of_ble_eq_true rfl) ?_
  refine (show Ev _ none _ _ _ _ _ 0 [_, _] [] _ from ?_)
  refine ev_aload_1 (q := 1) dX6_copy_0 rfl ?_
  refine ev_ifnull (q := 4) dX6_copy_1 rfl ?_
  refine ev_aload_0 (q := 5) dX6_copy_4 rfl ?_
  refine ev_aload_1 (q := 6) dX6_copy_5 rfl ?_
  refine ev_getI (q := 9) dX6_copy_6 fl_RX6_30 (by first | assumption | rfl) (by rfl) rfl (fun h_6 => ?_)
  refine ev_putI (q := 12) dX6_copy_9 fl_RX6_30 (by first | assumption | rfl) (by rfl) rfl (by constructor <;> omega) ?_
  refine ev_aload_0 (q := 13) dX6_copy_12 rfl ?_
  refine ev_getR (q := 16) dX6_copy_13 fl_RX6_14 (by first | assumption | rfl) (by rfl) rfl ?_
  refine ev_aload_1 (q := 17) dX6_copy_16 rfl ?_
  refine ev_getR (q := 20) dX6_copy_17 fl_RX6_14 (by first | assumption | rfl) (by rfl) rfl ?_
  refine ev_callV1v (q := 23) dX6_copy_20 vs_RX6_46 (by first | assumption | rfl) (c_X2_copy (by first | assumption | rfl) (by first | assumption | rfl) (by first | assumption | rfl) (by first | assumption | rfl) (by decide)) (by decide) (Nat.le_of_ble_eq_true rfl) rfl ?_
  refine ev_aload_0 (q := 24) dX6_copy_23 rfl ?_
  refine ev_getR (q := 27) dX6_copy_24 fl_RX6_20 (by first | assumption | rfl) (by rfl) rfl ?_
  refine ev_aload_1 (q := 28) dX6_copy_27 rfl ?_
  refine ev_getR (q := 31) dX6_copy_28 fl_RX6_20 (by first | assumption | rfl) (by rfl) rfl ?_
  refine ev_callV1v (q := 34) dX6_copy_31 vs_RX6_46 (by first | assumption | rfl) (c_X2_copy (by first | assumption | rfl) (by first | assumption | rfl) (by first | assumption | rfl) (by first | assumption | rfl) (by decide)) (by decide) (Nat.le_of_ble_eq_true rfl) rfl ?_
  refine ev_aload_0 (q := 35) dX6_copy_34 rfl ?_
  refine ev_getR (q := 38) dX6_copy_35 fl_RX6_23 (by first | assumption | rfl) (by rfl) rfl ?_
  refine ev_aload_1 (q := 39) dX6_copy_38 rfl ?_
  refine ev_getR (q := 42) dX6_copy_39 fl_RX6_23 (by first | assumption | rfl) (by rfl) rfl ?_
  refine ev_callV1v (q := 45) dX6_copy_42 vs_RX6_46 (by first | assumption | rfl) (c_X2_copy (by first | assumption | rfl) (by first | assumption | rfl) (by first | assumption | rfl) (by first | assumption | rfl) (by decide)) (by decide) (Nat.le_of_ble_eq_true rfl) rfl ?_
  refine ev_return dX6_copy_45 rfl ?_
  exact ⟨rfl, rfl, rfl⟩
set_option maxHeartbeats 1000000 in
theorem c_X3_copy {l : Launch} {M : ev_M} {s s2 : Nat} (h1 : isSt s) (h2 : isSt s2) : Cx l 2 kX3_copy yX3_copy S0 M [vr (s + 8), vr (s2 + 8)] none (rcM M s s2) := by
  obtain ⟨a0, a1, a2, a3, a4, a5, a6, a7, a8, a9, a10, a11, a12⟩ := h1
  obtain ⟨b0, b1, b2, b3, b4, b5, b6, b7, b8, b9, b10, b11, b12⟩ := h2
  refine Cx.of (by decide) rfl (by decide) (Nat.le_of_ble_eq_true rfl) ?_
  refine (show Ev _ none _ _ _ _ _ 0 [_, _] [] _ from ?_)
  refine ev_aload_1 (q := 1) dX3_copy_0 rfl ?_
  refine ev_ifnull (q := 4) dX3_copy_1 rfl ?_
  refine ev_aload_0 (q := 5) dX3_copy_4 rfl ?_
  refine ev_aload_1 (q := 6) dX3_copy_5 rfl ?_
  refine ev_getI (q := 9) dX3_copy_6 fl_RX3_23 (by first | assumption | rfl) (by rfl) rfl (fun h_6 => ?_)
  refine ev_putI (q := 12) dX3_copy_9 fl_RX3_23 (by first | assumption | rfl) (by rfl) rfl (by constructor <;> omega) ?_
  refine ev_aload_0 (q := 13) dX3_copy_12 rfl ?_
  refine ev_getR (q := 16) dX3_copy_13 fl_RX3_14 (by first | assumption | rfl) (by rfl) rfl ?_
  refine ev_aload_1 (q := 17) dX3_copy_16 rfl ?_
  refine ev_getR (q := 20) dX3_copy_17 fl_RX3_14 (by first | assumption | rfl) (by rfl) rfl ?_
  refine ev_callV1v (q := 23) dX3_copy_20 vs_RX3_66 (by first | assumption | rfl) (c_X2_copy (by first | assumption | rfl) (by first | assumption | rfl) (by first | assumption | rfl) (by first | assumption | rfl) (by decide)) (by decide) (Nat.le_of_ble_eq_true rfl) rfl ?_
  refine ev_aload_0 (q := 24) dX3_copy_23 rfl ?_
  refine ev_getR (q := 27) dX3_copy_24 fl_RX3_20 (by first | assumption | rfl) (by rfl) rfl ?_
  refine ev_aload_1 (q := 28) dX3_copy_27 rfl ?_
  refine ev_getR (q := 31) dX3_copy_28 fl_RX3_20 (by first | assumption | rfl) (by rfl) rfl ?_
  refine ev_callV1v (q := 34) dX3_copy_31 vs_RX3_66 (by first | assumption | rfl) (c_X2_copy (by first | assumption | rfl) (by first | assumption | rfl) (by first | assumption | rfl) (by first | assumption | rfl) (by decide)) (by decide) (Nat.le_of_ble_eq_true rfl) rfl ?_
  refine ev_return dX3_copy_34 rfl ?_
  exact ⟨rfl, rfl, rfl⟩
set_option maxHeartbeats 1000000 in
theorem c_X4_copy {l : Launch} {M : ev_M} {s s2 : Nat} (h1 : isSt s) (h2 : isSt s2) : Cx l 3 kX4_copy yX4_copy S0 M [vr s, vr s2] none (scM M s s2) := by
  obtain ⟨a0, a1, a2, a3, a4, a5, a6, a7, a8, a9, a10, a11, a12⟩ := id h1
  obtain ⟨b0, b1, b2, b3, b4, b5, b6, b7, b8, b9, b10, b11, b12⟩ := id h2
  refine Cx.of (by decide) rfl (by decide) (Nat.le_of_ble_eq_true rfl) ?_
  refine (show Ev _ none _ _ _ _ _ 0 [_, _] [] _ from ?_)
  refine ev_aload_1 (q := 1) dX4_copy_0 rfl ?_
  refine ev_ifnull (q := 4) dX4_copy_1 rfl ?_
  refine ev_aload_0 (q := 5) dX4_copy_4 rfl ?_
  refine ev_getR (q := 8) dX4_copy_5 fl_RX4_12 (by first | assumption | rfl) (by rfl) rfl ?_
  refine ev_aload_1 (q := 9) dX4_copy_8 rfl ?_
  refine ev_getR (q := 12) dX4_copy_9 fl_RX4_12 (by first | assumption | rfl) (by rfl) rfl ?_
  refine ev_callV1v (q := 15) dX4_copy_12 vs_RX4_55 (by first | assumption | rfl) (c_X6_copy (by assumption) (by assumption)) (by decide) (Nat.le_of_ble_eq_true rfl) rfl ?_
  refine ev_aload_0 (q := 16) dX4_copy_15 rfl ?_
  refine ev_getR (q := 19) dX4_copy_16 fl_RX4_23 (by first | assumption | rfl) (by rfl) rfl ?_
  refine ev_aload_1 (q := 20) dX4_copy_19 rfl ?_
  refine ev_getR (q := 23) dX4_copy_20 fl_RX4_23 (by first | assumption | rfl) (by rfl) rfl ?_
  refine ev_callV1v (q := 26) dX4_copy_23 vs_RX4_59 (by first | assumption | rfl) (c_X3_copy (by assumption) (by assumption)) (by decide) (Nat.le_of_ble_eq_true rfl) rfl ?_
  refine ev_return dX4_copy_26 rfl ?_
  exact ⟨rfl, rfl, rfl⟩

