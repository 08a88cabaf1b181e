set_option maxHeartbeats 2000000 in
theorem lp_X1_rulesOn {l : Launch} {M : ev_M} {e : Nat} (he : e < 16) (hs : 0 ≤ M 81 2 ∧ M 81 2 ≤ 16) : ∀ (n j : Nat) (x y z : Int), x = j → j + n = (M 81 2).toNat → y = cnt (fun r => decide (M 83 (16 * e + r) ≠ -1)) j → z = cnt (fun r => decide (M 83 (16 * e + r) ≠ -1)) (M 81 2).toNat → Ev l none 3 kX1_rulesOn (0, 0) S0 M 4 [some (vr 81), some (vi (e : Int)), some (vi y), some (vi x)] [] (QX (some (vi z)) S0 M) := by
  intro n
  induction n with
  | zero =>
    intro j x y z hx hn hy hz
    have hj : j = (M 81 2).toNat := by omega
    have hc := cnt_rng (fun r => decide (M 83 (16 * e + r) ≠ -1)) j
    refine ev_iload_3 (q := 5) dX1_rulesOn_4 rfl ?_
    refine ev_aload_0 (q := 6) dX1_rulesOn_5 rfl ?_
    refine ev_getI (q := 9) dX1_rulesOn_6 fl_RX1_59 (by first | assumption | rfl) (by rfl) rfl (fun h_6 => ?_)
    refine ev_icmp_ge (t := 35) (q := 12) dX1_rulesOn_9 (by decide) rfl (by constructor <;> omega) (by constructor <;> omega) (fun h_9 => ?_) (fun h_9 => ?_)
    · refine ev_iload_2 (q := 36) dX1_rulesOn_35 rfl ?_
      refine ev_ireturn dX1_rulesOn_36 rfl rfl (by constructor <;> omega) ?_
      exact ⟨by rw [hy, hz, hj], rfl, rfl⟩
    · omega
  | succ n ih =>
    intro j x y z hx hn hy hz
    subst hx
    have ei : ((e : Int) * 16 + (j : Int)).toNat = 16 * e + j := by omega
    refine ev_iload_3 (q := 5) dX1_rulesOn_4 rfl ?_
    refine ev_aload_0 (q := 6) dX1_rulesOn_5 rfl ?_
    refine ev_getI (q := 9) dX1_rulesOn_6 fl_RX1_59 (by first | assumption | rfl) (by rfl) rfl (fun h_6 => ?_)
    refine ev_icmp_ge (t := 35) (q := 12) dX1_rulesOn_9 (by decide) rfl (by constructor <;> omega) (by constructor <;> omega) (fun h_9 => ?_) (fun h_9 => ?_)
    · omega
    · refine ev_iload_2 (q := 13) dX1_rulesOn_12 rfl ?_
      refine ev_aload_0 (q := 14) dX1_rulesOn_13 rfl ?_
      refine ev_iload_3 (q := 15) dX1_rulesOn_14 rfl ?_
      refine ev_iload_1 (q := 16) dX1_rulesOn_15 rfl ?_
      refine ev_callV2i (q := 19) dX1_rulesOn_16 vs_RX1_136 (by first | assumption | rfl) (c_X1_isMatch (by omega) (by omega)) (by decide) (Nat.le_of_ble_eq_true rfl) rfl (fun h_16 => ?_)
      refine ev_b_eq (t := 26) (q := 22) dX1_rulesOn_19 (by decide) rfl (fun h_19 => ?_) (fun h_19 => ?_)
      · refine ev_iconst (q := 27) dX1_rulesOn_26 rfl ?_
        refine ev_iadd (q := 28) dX1_rulesOn_27 rfl ?_
        refine ev_istore_2 (q := 29) dX1_rulesOn_28 rfl (by decide) ?_
        refine ev_iinc_3 (q := 32) dX1_rulesOn_29 rfl (by decide) ?_
        refine ev_goto (q := 4) dX1_rulesOn_32 (by decide) ?_
        refine ih (j + 1) _ _ _ rfl (by omega) ?_ hz
        rw [ei] at h_19
        unfold cnt
        rw [hy]
        first | (rw [if_pos (decide_eq_true h_19)]; done) | (rw [if_neg (fun q => h_19 (of_decide_eq_true q))])
      · refine ev_iconst (q := 23) dX1_rulesOn_22 rfl ?_
        refine ev_goto (q := 27) dX1_rulesOn_23 (by decide) ?_
        refine ev_iadd (q := 28) dX1_rulesOn_27 rfl ?_
        refine ev_istore_2 (q := 29) dX1_rulesOn_28 rfl (by decide) ?_
        refine ev_iinc_3 (q := 32) dX1_rulesOn_29 rfl (by decide) ?_
        refine ev_goto (q := 4) dX1_rulesOn_32 (by decide) ?_
        refine ih (j + 1) _ _ _ rfl (by omega) ?_ hz
        rw [ei] at h_19
        unfold cnt
        rw [hy]
        first | (rw [if_pos (decide_eq_true h_19)]; done) | (rw [if_neg (fun q => h_19 (of_decide_eq_true q))])
set_option maxHeartbeats 2000000 in
theorem c_X1_rulesOn {l : Launch} {M : ev_M} {e : Nat} (he : e < 16) (hs : 0 ≤ M 81 2 ∧ M 81 2 ≤ 16) : Cx l 3 kX1_rulesOn yX1_rulesOn S0 M [vr 81, vi (e : Int)] (some (vi (cnt (fun r => decide (M 83 (16 * e + r) ≠ -1)) (M 81 2).toNat))) M := by
  refine Cx.of (by decide) rfl (by decide) (Nat.le_of_ble_eq_true rfl) ?_
  refine (show Ev _ none _ _ _ _ _ 0 [_, _, _, _] [] _ from ?_)
  refine ev_iconst (q := 1) dX1_rulesOn_0 rfl ?_
  refine ev_istore_2 (q := 2) dX1_rulesOn_1 rfl (by decide) ?_
  refine ev_iconst (q := 3) dX1_rulesOn_2 rfl ?_
  refine ev_istore_3 (q := 4) dX1_rulesOn_3 rfl (by decide) ?_
  exact lp_X1_rulesOn he hs (M 81 2).toNat 0 0 0 _ rfl (by omega) rfl rfl
set_option maxHeartbeats 2000000 in
theorem lp_X1_elementsOf {l : Launch} {M : ev_M} {r : Nat} (hr : r < 16) (hs : 0 ≤ M 81 1 ∧ M 81 1 ≤ 16) : ∀ (n j : Nat) (x y z : Int), x = j → j + n = (M 81 1).toNat → y = cnt (fun e => decide (M 83 (16 * e + r) ≠ -1)) j → z = cnt (fun e => decide (M 83 (16 * e + r) ≠ -1)) (M 81 1).toNat → Ev l none 3 kX1_elementsOf (0, 0) S0 M 4 [some (vr 81), some (vi (r : Int)), some (vi y), some (vi x)] [] (QX (some (vi z)) S0 M) := by
  intro n
  induction n with
  | zero =>
    intro j x y z hx hn hy hz
    have hj : j = (M 81 1).toNat := by omega
    have hc := cnt_rng (fun e => decide (M 83 (16 * e + r) ≠ -1)) j
    refine ev_iload_3 (q := 5) dX1_elementsOf_4 rfl ?_
    refine ev_aload_0 (q := 6) dX1_elementsOf_5 rfl ?_
    refine ev_getI (q := 9) dX1_elementsOf_6 fl_RX1_48 (by first | assumption | rfl) (by rfl) rfl (fun h_6 => ?_)
    refine ev_icmp_ge (t := 35) (q := 12) dX1_elementsOf_9 (by decide) rfl (by constructor <;> omega) (by constructor <;> omega) (fun h_9 => ?_) (fun h_9 => ?_)
    · refine ev_iload_2 (q := 36) dX1_elementsOf_35 rfl ?_
      refine ev_ireturn dX1_elementsOf_36 rfl rfl (by constructor <;> omega) ?_
      exact ⟨by rw [hy, hz, hj], rfl, rfl⟩
    · omega
  | succ n ih =>
    intro j x y z hx hn hy hz
    subst hx
    have ei : ((j : Int) * 16 + (r : Int)).toNat = 16 * j + r := by omega
    refine ev_iload_3 (q := 5) dX1_elementsOf_4 rfl ?_
    refine ev_aload_0 (q := 6) dX1_elementsOf_5 rfl ?_
    refine ev_getI (q := 9) dX1_elementsOf_6 fl_RX1_48 (by first | assumption | rfl) (by rfl) rfl (fun h_6 => ?_)
    refine ev_icmp_ge (t := 35) (q := 12) dX1_elementsOf_9 (by decide) rfl (by constructor <;> omega) (by constructor <;> omega) (fun h_9 => ?_) (fun h_9 => ?_)
    · omega
    · refine ev_iload_2 (q := 13) dX1_elementsOf_12 rfl ?_
      refine ev_aload_0 (q := 14) dX1_elementsOf_13 rfl ?_
      refine ev_iload_1 (q := 15) dX1_elementsOf_14 rfl ?_
      refine ev_iload_3 (q := 16) dX1_elementsOf_15 rfl ?_
      refine ev_callV2i (q := 19) dX1_elementsOf_16 vs_RX1_136 (by first | assumption | rfl) (c_X1_isMatch (by omega) (by omega)) (by decide) (Nat.le_of_ble_eq_true rfl) rfl (fun h_16 => ?_)
      refine ev_b_eq (t := 26) (q := 22) dX1_elementsOf_19 (by decide) rfl (fun h_19 => ?_) (fun h_19 => ?_)
      · refine ev_iconst (q := 27) dX1_elementsOf_26 rfl ?_
        refine ev_iadd (q := 28) dX1_elementsOf_27 rfl ?_
        refine ev_istore_2 (q := 29) dX1_elementsOf_28 rfl (by decide) ?_
        refine ev_iinc_3 (q := 32) dX1_elementsOf_29 rfl (by decide) ?_
        refine ev_goto (q := 4) dX1_elementsOf_32 (by decide) ?_
        refine ih (j + 1) _ _ _ rfl (by omega) ?_ hz
        rw [ei] at h_19
        unfold cnt
        rw [hy]
        first | (rw [if_pos (decide_eq_true h_19)]; done) | (rw [if_neg (fun q => h_19 (of_decide_eq_true q))])
      · refine ev_iconst (q := 23) dX1_elementsOf_22 rfl ?_
        refine ev_goto (q := 27) dX1_elementsOf_23 (by decide) ?_
        refine ev_iadd (q := 28) dX1_elementsOf_27 rfl ?_
        refine ev_istore_2 (q := 29) dX1_elementsOf_28 rfl (by decide) ?_
        refine ev_iinc_3 (q := 32) dX1_elementsOf_29 rfl (by decide) ?_
        refine ev_goto (q := 4) dX1_elementsOf_32 (by decide) ?_
        refine ih (j + 1) _ _ _ rfl (by omega) ?_ hz
        rw [ei] at h_19
        unfold cnt
        rw [hy]
        first | (rw [if_pos (decide_eq_true h_19)]; done) | (rw [if_neg (fun q => h_19 (of_decide_eq_true q))])
set_option maxHeartbeats 2000000 in
theorem c_X1_elementsOf {l : Launch} {M : ev_M} {r : Nat} (hr : r < 16) (hs : 0 ≤ M 81 1 ∧ M 81 1 ≤ 16) : Cx l 3 kX1_elementsOf yX1_elementsOf S0 M [vr 81, vi (r : Int)] (some (vi (cnt (fun e => decide (M 83 (16 * e + r) ≠ -1)) (M 81 1).toNat))) M := by
  refine Cx.of (by decide) rfl (by decide) (Nat.le_of_ble_eq_true rfl) ?_
  refine (show Ev _ none _ _ _ _ _ 0 [_, _, _, _] [] _ from ?_)
  refine ev_iconst (q := 1) dX1_elementsOf_0 rfl ?_
  refine ev_istore_2 (q := 2) dX1_elementsOf_1 rfl (by decide) ?_
  refine ev_iconst (q := 3) dX1_elementsOf_2 rfl ?_
  refine ev_istore_3 (q := 4) dX1_elementsOf_3 rfl (by decide) ?_
  exact lp_X1_elementsOf hr hs (M 81 1).toNat 0 0 0 _ rfl (by omega) rfl rfl
set_option maxHeartbeats 2000000 in
theorem lp_X1_cyclicOn {l : Launch} {M : ev_M} {e : Int} (he : 0 ≤ e ∧ e < 16) : ∀ (n j : Nat) (x y z : Int), x = 8 + (j : Int) → j + n = 8 → y = cnt (fun q => decide (M 87 (16 * e.toNat + (8 + q)) > 0)) j → z = cnt (fun q => decide (M 87 (16 * e.toNat + (8 + q)) > 0)) 8 → Ev l none 2 kX1_cyclicOn (0, 0) S0 M 5 [some (vr 81), some (vi e), some (vi y), some (vi x)] [] (QX (some (vi z)) S0 M) := by
  intro n
  induction n with
  | zero =>
    intro j x y z hx hn hy hz
    have hj : j = 8 := by omega
    subst hj
    have hc := cnt_rng (fun q => decide (M 87 (16 * e.toNat + (8 + q)) > 0)) 8
    refine ev_iload_3 (q := 6) dX1_cyclicOn_5 rfl ?_
    refine ev_bipush (q := 8) dX1_cyclicOn_6 rfl (by decide) ?_
    refine ev_icmp_ge (t := 34) (q := 11) dX1_cyclicOn_8 (by decide) rfl (by constructor <;> omega) (by constructor <;> omega) (fun h_8 => ?_) (fun h_8 => ?_)
    · refine ev_iload_2 (q := 35) dX1_cyclicOn_34 rfl ?_
      refine ev_ireturn dX1_cyclicOn_35 rfl rfl (by constructor <;> omega) ?_
      exact ⟨by rw [hy, hz], rfl, rfl⟩
    · omega
  | succ n ih =>
    intro j x y z hx hn hy hz
    have ei : (e * 16 + x).toNat = 16 * e.toNat + (8 + j) := by omega
    refine ev_iload_3 (q := 6) dX1_cyclicOn_5 rfl ?_
    refine ev_bipush (q := 8) dX1_cyclicOn_6 rfl (by decide) ?_
    refine ev_icmp_ge (t := 34) (q := 11) dX1_cyclicOn_8 (by decide) rfl (by constructor <;> omega) (by constructor <;> omega) (fun h_8 => ?_) (fun h_8 => ?_)
    · omega
    · refine ev_iload_2 (q := 12) dX1_cyclicOn_11 rfl ?_
      refine ev_aload_0 (q := 13) dX1_cyclicOn_12 rfl ?_
      refine ev_iload_1 (q := 14) dX1_cyclicOn_13 rfl ?_
      refine ev_iload_3 (q := 15) dX1_cyclicOn_14 rfl ?_
      refine ev_callV2i (q := 18) dX1_cyclicOn_15 vs_RX1_117 (by first | assumption | rfl) (c_X1_cycleOn (by omega) (by omega)) (by decide) (Nat.le_of_ble_eq_true rfl) rfl (fun h_15 => ?_)
      refine ev_if_le (t := 25) (q := 21) dX1_cyclicOn_18 (by decide) rfl (by constructor <;> omega) (fun h_18 => ?_) (fun h_18 => ?_)
      · refine ev_iconst (q := 26) dX1_cyclicOn_25 rfl ?_
        refine ev_iadd (q := 27) dX1_cyclicOn_26 rfl ?_
        refine ev_istore_2 (q := 28) dX1_cyclicOn_27 rfl (by decide) ?_
        refine ev_iinc_3 (q := 31) dX1_cyclicOn_28 rfl (by decide) ?_
        refine ev_goto (q := 5) dX1_cyclicOn_31 (by decide) ?_
        refine ih (j + 1) _ _ _ (by omega) (by omega) ?_ hz
        rw [ei] at h_18
        unfold cnt
        rw [hy]
        first | (rw [if_pos (decide_eq_true (by omega))]; done) | (rw [if_neg (fun q => absurd (of_decide_eq_true q) (by omega))])
      · refine ev_iconst (q := 22) dX1_cyclicOn_21 rfl ?_
        refine ev_goto (q := 26) dX1_cyclicOn_22 (by decide) ?_
        refine ev_iadd (q := 27) dX1_cyclicOn_26 rfl ?_
        refine ev_istore_2 (q := 28) dX1_cyclicOn_27 rfl (by decide) ?_
        refine ev_iinc_3 (q := 31) dX1_cyclicOn_28 rfl (by decide) ?_
        refine ev_goto (q := 5) dX1_cyclicOn_31 (by decide) ?_
        refine ih (j + 1) _ _ _ (by omega) (by omega) ?_ hz
        rw [ei] at h_18
        unfold cnt
        rw [hy]
        first | (rw [if_pos (decide_eq_true (by omega))]; done) | (rw [if_neg (fun q => absurd (of_decide_eq_true q) (by omega))])
set_option maxHeartbeats 2000000 in
theorem c_X1_cyclicOn {l : Launch} {M : ev_M} {e : Int} (he : 0 ≤ e ∧ e < 16) : Cx l 2 kX1_cyclicOn yX1_cyclicOn S0 M [vr 81, vi e] (some (vi (cnt (fun q => decide (M 87 (16 * e.toNat + (8 + q)) > 0)) 8))) M := by
  refine Cx.of (by decide) rfl (by decide) (Nat.le_of_ble_eq_true rfl) ?_
  refine (show Ev _ none _ _ _ _ _ 0 [_, _, _, _] [] _ from ?_)
  refine ev_iconst (q := 1) dX1_cyclicOn_0 rfl ?_
  refine ev_istore_2 (q := 2) dX1_cyclicOn_1 rfl (by decide) ?_
  refine ev_bipush (q := 4) dX1_cyclicOn_2 rfl (by decide) ?_
  refine ev_istore_3 (q := 5) dX1_cyclicOn_4 rfl (by decide) ?_
  exact lp_X1_cyclicOn he 8 0 _ 0 _ (by omega) rfl rfl rfl
set_option maxHeartbeats 2000000 in
theorem lp_X1_allCyclic {l : Launch} {M : ev_M} (hs : 0 ≤ M 81 1 ∧ M 81 1 ≤ 16) : ∀ (n j : Nat) (x y z : Int), x = j → j + n = (M 81 1).toNat → y = sumN (fun e => cnt (fun q => decide (M 87 (16 * e + (8 + q)) > 0)) 8) j → z = sumN (fun e => cnt (fun q => decide (M 87 (16 * e + (8 + q)) > 0)) 8) (M 81 1).toNat → Ev l none 3 kX1_allCyclic (0, 0) S0 M 4 [some (vr 81), some (vi y), some (vi x)] [] (QX (some (vi z)) S0 M) := by
  intro n
  induction n with
  | zero =>
    intro j x y z hx hn hy hz
    have hj : j = (M 81 1).toNat := by omega
    have hc := sumN_rng (f := fun e : Nat => cnt (fun q => decide (M 87 (16 * e + (8 + q)) > 0)) 8) (K := 8) (by omega) j (fun i _ => cnt_rng _ 8)
    refine ev_iload_2 (q := 5) dX1_allCyclic_4 rfl ?_
    refine ev_aload_0 (q := 6) dX1_allCyclic_5 rfl ?_
    refine ev_getI (q := 9) dX1_allCyclic_6 fl_RX1_48 (by first | assumption | rfl) (by rfl) rfl (fun h_6 => ?_)
    refine ev_icmp_ge (t := 26) (q := 12) dX1_allCyclic_9 (by decide) rfl (by constructor <;> omega) (by constructor <;> omega) (fun h_9 => ?_) (fun h_9 => ?_)
    · refine ev_iload_1 (q := 27) dX1_allCyclic_26 rfl ?_
      refine ev_ireturn dX1_allCyclic_27 rfl rfl (by constructor <;> omega) ?_
      exact ⟨by rw [hy, hz, hj], rfl, rfl⟩
    · omega
  | succ n ih =>
    intro j x y z hx hn hy hz
    subst hx
    refine ev_iload_2 (q := 5) dX1_allCyclic_4 rfl ?_
    refine ev_aload_0 (q := 6) dX1_allCyclic_5 rfl ?_
    refine ev_getI (q := 9) dX1_allCyclic_6 fl_RX1_48 (by first | assumption | rfl) (by rfl) rfl (fun h_6 => ?_)
    refine ev_icmp_ge (t := 26) (q := 12) dX1_allCyclic_9 (by decide) rfl (by constructor <;> omega) (by constructor <;> omega) (fun h_9 => ?_) (fun h_9 => ?_)
    · omega
    · refine ev_iload_1 (q := 13) dX1_allCyclic_12 rfl ?_
      refine ev_aload_0 (q := 14) dX1_allCyclic_13 rfl ?_
      refine ev_iload_2 (q := 15) dX1_allCyclic_14 rfl ?_
      refine ev_callV1i (q := 18) dX1_allCyclic_15 vs_RX1_139 (by first | assumption | rfl) (c_X1_cyclicOn (by omega)) (by decide) (Nat.le_of_ble_eq_true rfl) rfl (fun h_15 => ?_)
      refine ev_iadd (q := 19) dX1_allCyclic_18 rfl ?_
      refine ev_istore_1 (q := 20) dX1_allCyclic_19 rfl (by decide) ?_
      refine ev_iinc_2 (q := 23) dX1_allCyclic_20 rfl (by decide) ?_
      refine ev_goto (q := 4) dX1_allCyclic_23 (by decide) ?_
      refine ih (j + 1) _ _ _ rfl (by omega) ?_ hz
      unfold sumN
      rw [hy]
      simp only [Int.toNat_natCast]
set_option maxHeartbeats 2000000 in
theorem c_X1_allCyclic {l : Launch} {M : ev_M} (hs : 0 ≤ M 81 1 ∧ M 81 1 ≤ 16) : Cx l 3 kX1_allCyclic yX1_allCyclic S0 M [vr 81] (some (vi (sumN (fun e => cnt (fun q => decide (M 87 (16 * e + (8 + q)) > 0)) 8) (M 81 1).toNat))) M := by
  refine Cx.of (by decide) rfl (by decide) (Nat.le_of_ble_eq_true rfl) ?_
  refine (show Ev _ none _ _ _ _ _ 0 [_, _, _] [] _ from ?_)
  refine ev_iconst (q := 1) dX1_allCyclic_0 rfl ?_
  refine ev_istore_1 (q := 2) dX1_allCyclic_1 rfl (by decide) ?_
  refine ev_iconst (q := 3) dX1_allCyclic_2 rfl ?_
  refine ev_istore_2 (q := 4) dX1_allCyclic_3 rfl (by decide) ?_
  exact lp_X1_allCyclic hs (M 81 1).toNat 0 0 0 _ rfl (by omega) rfl rfl
/-- the rule in the k-th place -/
def nth (v : Vw) (e p : Nat) : Nat → Int
  | 0 => winV v e p
  | k + 1 => if nth v e p k = -1 then -1 else stV v e p (strV v (nth v e p k).toNat e)
theorem nth_rng {v : Vw} (h : Wf v) (e p : Nat) : ∀ k, -1 ≤ nth v e p k ∧ nth v e p k < vrn v ∧ nth v e p k < 16
  | 0 => winV_rng h e p
  | k + 1 => by
    have h2 := h.2.1
    have := stV_rng h e p (strV v (nth v e p k).toNat e)
    unfold nth
    split <;> omega
theorem nth_none {v : Vw} {e p k : Nat} (h : nth v e p k = -1) : ∀ m, k ≤ m → nth v e p m = -1 := by
  intro m hm
  induction hm with
  | refl => exact h
  | step _ ih => unfold nth; rw [if_pos ih]

