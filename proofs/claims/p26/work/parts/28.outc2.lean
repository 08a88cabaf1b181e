set_option maxHeartbeats 1000000 in
theorem c_X1_cell {l : Launch} {M : ev_M} {x y : Int} (hx : 0 ≤ x ∧ x < 16) (hy : 0 ≤ y ∧ y < 16) : Cx l 0 kX1_cell yX1_cell S0 M [vi x, vi y] (some (vi (x * 16 + y))) M := by
  refine Cx.of (by decide) rfl (by decide) (Nat.le_of_ble_eq_true rfl) ?_
  refine (show Ev _ none _ _ _ _ _ 0 [_, _] [] _ from ?_)
  refine ev_iload_0 (q := 1) dX1_cell_0 rfl ?_
  refine ev_bipush (q := 3) dX1_cell_1 rfl (by decide) ?_
  refine ev_imul (q := 4) dX1_cell_3 rfl ?_
  refine ev_iload_1 (q := 5) dX1_cell_4 rfl ?_
  refine ev_iadd (q := 6) dX1_cell_5 rfl ?_
  refine ev_ireturn dX1_cell_6 rfl rfl (by constructor <;> omega) ?_
  refine ⟨?_, rfl, ?_⟩
  · first | rfl | (refine congrArg (fun z => some (Sum.inl z)) ?_; first | rfl | omega | (split <;> omega) | (simp [*]; done))
  · first | rfl | (simp [*]; done)
set_option maxHeartbeats 1000000 in
theorem c_X1_strengthOn {l : Launch} {M : ev_M} {x y : Int} (hx : 0 ≤ x ∧ x < 16) (hy : 0 ≤ y ∧ y < 16) : Cx l 1 kX1_strengthOn yX1_strengthOn S0 M [vr 81, vi x, vi y] (some (vi (M 83 (x * 16 + y).toNat))) M := by
  refine Cx.of (by decide) rfl (by decide) (Nat.le_of_ble_eq_true rfl) ?_
  refine (show Ev _ none _ _ _ _ _ 0 [_, _, _] [] _ from ?_)
  refine ev_aload_0 (q := 1) dX1_strengthOn_0 rfl ?_
  refine ev_getR (q := 4) dX1_strengthOn_1 fl_RX1_14 (by first | assumption | rfl) (by rfl) rfl ?_
  refine ev_iload_1 (q := 5) dX1_strengthOn_4 rfl ?_
  refine ev_bipush (q := 7) dX1_strengthOn_5 rfl (by decide) ?_
  refine ev_imul (q := 8) dX1_strengthOn_7 rfl ?_
  refine ev_iload_2 (q := 9) dX1_strengthOn_8 rfl ?_
  refine ev_iadd (q := 10) dX1_strengthOn_9 rfl ?_
  refine ev_callV1i (q := 13) dX1_strengthOn_10 vs_RX1_142 (by first | assumption | rfl) (c_X2_atR (by first | assumption | rfl) (by first | assumption | rfl) (by first | decide | omega) (by omega)) (by decide) (Nat.le_of_ble_eq_true rfl) rfl (fun h_10 => ?_)
  refine ev_ireturn dX1_strengthOn_13 rfl rfl (by constructor <;> omega) ?_
  refine ⟨?_, rfl, ?_⟩
  · first | rfl | (refine congrArg (fun z => some (Sum.inl z)) ?_; first | rfl | omega | (split <;> omega) | (simp [*]; done))
  · first | rfl | (simp [*]; done)
set_option maxHeartbeats 1000000 in
theorem c_X1_winnerOn {l : Launch} {M : ev_M} {x y : Int} (hx : 0 ≤ x ∧ x < 16) (hy : 0 ≤ y ∧ y < 16) : Cx l 1 kX1_winnerOn yX1_winnerOn S0 M [vr 81, vi x, vi y] (some (vi (M 85 (x * 16 + y).toNat))) M := by
  refine Cx.of (by decide) rfl (by decide) (Nat.le_of_ble_eq_true rfl) ?_
  refine (show Ev _ none _ _ _ _ _ 0 [_, _, _] [] _ from ?_)
  refine ev_aload_0 (q := 1) dX1_winnerOn_0 rfl ?_
  refine ev_getR (q := 4) dX1_winnerOn_1 fl_RX1_20 (by first | assumption | rfl) (by rfl) rfl ?_
  refine ev_iload_1 (q := 5) dX1_winnerOn_4 rfl ?_
  refine ev_iload_2 (q := 6) dX1_winnerOn_5 rfl ?_
  refine ev_callS2i (q := 9) dX1_winnerOn_6 ss_RX1_83 (c_X1_cell (by omega) (by omega)) (by decide) (Nat.le_of_ble_eq_true rfl) rfl (fun h_6 => ?_)
  refine ev_callV1i (q := 12) dX1_winnerOn_9 vs_RX1_142 (by first | assumption | rfl) (c_X2_atR (by first | assumption | rfl) (by first | assumption | rfl) (by first | decide | omega) (by omega)) (by decide) (Nat.le_of_ble_eq_true rfl) rfl (fun h_9 => ?_)
  refine ev_ireturn dX1_winnerOn_12 rfl rfl (by constructor <;> omega) ?_
  refine ⟨?_, rfl, ?_⟩
  · first | rfl | (refine congrArg (fun z => some (Sum.inl z)) ?_; first | rfl | omega | (split <;> omega) | (simp [*]; done))
  · first | rfl | (simp [*]; done)
set_option maxHeartbeats 1000000 in
theorem c_X1_cycleOn {l : Launch} {M : ev_M} {x y : Int} (hx : 0 ≤ x ∧ x < 16) (hy : 0 ≤ y ∧ y < 16) : Cx l 1 kX1_cycleOn yX1_cycleOn S0 M [vr 81, vi x, vi y] (some (vi (M 87 (x * 16 + y).toNat))) M := by
  refine Cx.of (by decide) rfl (by decide) (Nat.le_of_ble_eq_true rfl) ?_
  refine (show Ev _ none _ _ _ _ _ 0 [_, _, _] [] _ from ?_)
  refine ev_aload_0 (q := 1) dX1_cycleOn_0 rfl ?_
  refine ev_getR (q := 4) dX1_cycleOn_1 fl_RX1_23 (by first | assumption | rfl) (by rfl) rfl ?_
  refine ev_iload_1 (q := 5) dX1_cycleOn_4 rfl ?_
  refine ev_iload_2 (q := 6) dX1_cycleOn_5 rfl ?_
  refine ev_callS2i (q := 9) dX1_cycleOn_6 ss_RX1_83 (c_X1_cell (by omega) (by omega)) (by decide) (Nat.le_of_ble_eq_true rfl) rfl (fun h_6 => ?_)
  refine ev_callV1i (q := 12) dX1_cycleOn_9 vs_RX1_142 (by first | assumption | rfl) (c_X2_atR (by first | assumption | rfl) (by first | assumption | rfl) (by first | decide | omega) (by omega)) (by decide) (Nat.le_of_ble_eq_true rfl) rfl (fun h_9 => ?_)
  refine ev_ireturn dX1_cycleOn_12 rfl rfl (by constructor <;> omega) ?_
  refine ⟨?_, rfl, ?_⟩
  · first | rfl | (refine congrArg (fun z => some (Sum.inl z)) ?_; first | rfl | omega | (split <;> omega) | (simp [*]; done))
  · first | rfl | (simp [*]; done)
set_option maxHeartbeats 1000000 in
theorem c_X1_valueOn {l : Launch} {M : ev_M} {x y : Int} (hx : 0 ≤ x ∧ x < 16) (hy : 0 ≤ y ∧ y < 16) : Cx l 1 kX1_valueOn yX1_valueOn S0 M [vr 81, vi x, vi y] (some (vi (M 89 (x * 16 + y).toNat))) M := by
  refine Cx.of (by decide) rfl (by decide) (Nat.le_of_ble_eq_true rfl) ?_
  refine (show Ev _ none _ _ _ _ _ 0 [_, _, _] [] _ from ?_)
  refine ev_aload_0 (q := 1) dX1_valueOn_0 rfl ?_
  refine ev_getR (q := 4) dX1_valueOn_1 fl_RX1_26 (by first | assumption | rfl) (by rfl) rfl ?_
  refine ev_iload_1 (q := 5) dX1_valueOn_4 rfl ?_
  refine ev_iload_2 (q := 6) dX1_valueOn_5 rfl ?_
  refine ev_callS2i (q := 9) dX1_valueOn_6 ss_RX1_83 (c_X1_cell (by omega) (by omega)) (by decide) (Nat.le_of_ble_eq_true rfl) rfl (fun h_6 => ?_)
  refine ev_callV1i (q := 12) dX1_valueOn_9 vs_RX1_142 (by first | assumption | rfl) (c_X2_atR (by first | assumption | rfl) (by first | assumption | rfl) (by first | decide | omega) (by omega)) (by decide) (Nat.le_of_ble_eq_true rfl) rfl (fun h_9 => ?_)
  refine ev_ireturn dX1_valueOn_12 rfl rfl (by constructor <;> omega) ?_
  refine ⟨?_, rfl, ?_⟩
  · first | rfl | (refine congrArg (fun z => some (Sum.inl z)) ?_; first | rfl | omega | (split <;> omega) | (simp [*]; done))
  · first | rfl | (simp [*]; done)
set_option maxHeartbeats 1000000 in
theorem c_X1_sourceOn {l : Launch} {M : ev_M} {x y : Int} (hx : 0 ≤ x ∧ x < 16) (hy : 0 ≤ y ∧ y < 16) : Cx l 1 kX1_sourceOn yX1_sourceOn S0 M [vr 81, vi x, vi y] (some (vi (M 91 (x * 16 + y).toNat))) M := by
  refine Cx.of (by decide) rfl (by decide) (Nat.le_of_ble_eq_true rfl) ?_
  refine (show Ev _ none _ _ _ _ _ 0 [_, _, _] [] _ from ?_)
  refine ev_aload_0 (q := 1) dX1_sourceOn_0 rfl ?_
  refine ev_getR (q := 4) dX1_sourceOn_1 fl_RX1_29 (by first | assumption | rfl) (by rfl) rfl ?_
  refine ev_iload_1 (q := 5) dX1_sourceOn_4 rfl ?_
  refine ev_iload_2 (q := 6) dX1_sourceOn_5 rfl ?_
  refine ev_callS2i (q := 9) dX1_sourceOn_6 ss_RX1_83 (c_X1_cell (by omega) (by omega)) (by decide) (Nat.le_of_ble_eq_true rfl) rfl (fun h_6 => ?_)
  refine ev_callV1i (q := 12) dX1_sourceOn_9 vs_RX1_142 (by first | assumption | rfl) (c_X2_atR (by first | assumption | rfl) (by first | assumption | rfl) (by first | decide | omega) (by omega)) (by decide) (Nat.le_of_ble_eq_true rfl) rfl (fun h_9 => ?_)
  refine ev_ireturn dX1_sourceOn_12 rfl rfl (by constructor <;> omega) ?_
  refine ⟨?_, rfl, ?_⟩
  · first | rfl | (refine congrArg (fun z => some (Sum.inl z)) ?_; first | rfl | omega | (split <;> omega) | (simp [*]; done))
  · first | rfl | (simp [*]; done)
set_option maxHeartbeats 1000000 in
theorem c_X1_isMatch {l : Launch} {M : ev_M} {x y : Int} (hx : 0 ≤ x ∧ x < 16) (hy : 0 ≤ y ∧ y < 16) : Cx l 2 kX1_isMatch yX1_isMatch S0 M [vr 81, vi y, vi x] (some (vi (if M 83 (x * 16 + y).toNat ≠ -1 then 1 else 0))) M := by
  refine Cx.of (by decide) rfl (by decide) (Nat.le_of_ble_eq_true rfl) ?_
  refine (show Ev _ none _ _ _ _ _ 0 [_, _, _] [] _ from ?_)
  refine ev_aload_0 (q := 1) dX1_isMatch_0 rfl ?_
  refine ev_iload_2 (q := 2) dX1_isMatch_1 rfl ?_
  refine ev_iload_1 (q := 3) dX1_isMatch_2 rfl ?_
  refine ev_callV2i (q := 6) dX1_isMatch_3 vs_RX1_95 (by first | assumption | rfl) (c_X1_strengthOn (by omega) (by omega)) (by decide) (Nat.le_of_ble_eq_true rfl) rfl (fun h_3 => ?_)
  refine ev_iconst (q := 7) dX1_isMatch_6 rfl ?_
  refine ev_icmp_eq (t := 14) (q := 10) dX1_isMatch_7 (by decide) rfl (by constructor <;> omega) (by constructor <;> omega) (fun h_7 => ?_) (fun h_7 => ?_)
  · refine ev_iconst (q := 15) dX1_isMatch_14 rfl ?_
    refine ev_ireturn dX1_isMatch_15 rfl (by first | rfl | decide | (split <;> rfl) | (split <;> decide)) (by constructor <;> omega) ?_
    refine ⟨congrArg (fun z => some (Sum.inl z)) ?_, rfl, rfl⟩
    split <;> omega
  · refine ev_iconst (q := 11) dX1_isMatch_10 rfl ?_
    refine ev_goto (q := 15) dX1_isMatch_11 (by decide) ?_
    refine ev_ireturn dX1_isMatch_15 rfl (by first | rfl | decide | (split <;> rfl) | (split <;> decide)) (by constructor <;> omega) ?_
    refine ⟨congrArg (fun z => some (Sum.inl z)) ?_, rfl, rfl⟩
    split <;> omega
/-- of the first n: the place of the greatest number below lim among those that P holds of, and it; -1 -/
def bst (P : Nat → Bool) (s : Nat → Int) (lim : Int) : Nat → Int × Int
  | 0 => (-1, -1)
  | n + 1 => if (if P n = true then s n else -1) > (bst P s lim n).2 ∧ (if P n = true then s n else -1) < lim then ((n : Int), if P n = true then s n else -1) else bst P s lim n
theorem bst_rng (P : Nat → Bool) (s : Nat → Int) (lim : Int) : ∀ n, (-1 ≤ (bst P s lim n).1 ∧ (bst P s lim n).1 < n ∨ (bst P s lim n).1 = -1) ∧ ((bst P s lim n).2 = -1 ∨ (bst P s lim n).2 < lim) ∧ -1 ≤ (bst P s lim n).2
  | 0 => by simp [bst]
  | n + 1 => by
    have := bst_rng P s lim n
    unfold bst
    generalize (if P n = true then s n else -1) = q
    by_cases h : q > (bst P s lim n).2 ∧ q < lim
    · rw [if_pos h]; dsimp only; omega
    · rw [if_neg h]; omega
set_option maxHeartbeats 2000000 in
theorem lp_X1_strongest {l : Launch} {M : ev_M} {x y lim : Int} (hR : RM M) (hx : 0 ≤ x ∧ x < 16) (hy : 0 ≤ y ∧ y < 16) (hlim : inR lim) (hs : 0 ≤ M 81 2 ∧ M 81 2 ≤ 16) : ∀ (n j : Nat) (a b c : Int) (w : Option ev_V), c = j → j + n = (M 81 2).toNat → a = (bst (fun r => dcl M 13 r y) (fun r => M 83 (x * 16 + r).toNat) lim j).1 → b = (bst (fun r => dcl M 13 r y) (fun r => M 83 (x * 16 + r).toNat) lim j).2 → Ev l none 3 kX1_strongest (0, 0) S0 M 9 [some (vr 81), some (vr 9), some (vi x), some (vi y), some (vi lim), some (vi a), some (vi b), some (vi c), w] [] (QX (some (vi (bst (fun r => dcl M 13 r y) (fun r => M 83 (x * 16 + r).toNat) lim (M 81 2).toNat).1)) S0 M) := by
  intro n
  induction n with
  | zero =>
    intro j a b c w hc hj ha hb
    have hj2 : j = (M 81 2).toNat := by omega
    have hrng := bst_rng (fun r => dcl M 13 r y) (fun r => M 83 (x * 16 + r).toNat) lim j
    refine ev_iload_7 (q := 11) dX1_strongest_9 rfl ?_
    refine ev_aload_0 (q := 12) dX1_strongest_11 rfl ?_
    refine ev_getI (q := 15) dX1_strongest_12 fl_RX1_59 (by first | assumption | rfl) (by rfl) rfl (fun h_12 => ?_)
    refine ev_icmp_ge (t := 69) (q := 18) dX1_strongest_15 (by decide) rfl (by constructor <;> omega) (by constructor <;> omega) (fun h_15 => ?_) (fun h_15 => ?_)
    · refine ev_iload_5 (q := 71) dX1_strongest_69 rfl ?_
      refine ev_ireturn dX1_strongest_71 rfl rfl (by constructor <;> omega) ?_
      exact ⟨by rw [ha, hj2], rfl, rfl⟩
    · omega
  | succ n ih =>
    intro j a b c w hc hj ha hb
    have hrng := bst_rng (fun r => dcl M 13 r y) (fun r => M 83 (x * 16 + r).toNat) lim j
    have hRs := hR 83 (x * 16 + c).toNat
    subst hc
    have hstep : ∀ t : Int, t = (if dcl M 13 j y = true then M 83 (x * 16 + j).toNat else -1) → inR t → Ev l none 3 kX1_strongest (0, 0) S0 M 39 [some (vr 81), some (vr 9), some (vi x), some (vi y), some (vi lim), some (vi a), some (vi b), some (vi (j : Int)), w] [vi t] (QX (some (vi (bst (fun r => dcl M 13 r y) (fun r => M 83 (x * 16 + r).toNat) lim (M 81 2).toNat).1)) S0 M) := by
      intro t ht hti
      refine ev_istore_8 (q := 41) dX1_strongest_39 rfl (by decide) ?_
      refine ev_iload_8 (q := 43) dX1_strongest_41 rfl ?_
      refine ev_iload_6 (q := 45) dX1_strongest_43 rfl ?_
      refine ev_icmp_le (t := 63) (q := 48) dX1_strongest_45 (by decide) rfl (by constructor <;> omega) (by constructor <;> omega) (fun h_45 => ?_) (fun h_45 => ?_)
      · refine ev_iinc_7 (q := 66) dX1_strongest_63 rfl (by decide) ?_
        refine ev_goto (q := 9) dX1_strongest_66 (by decide) ?_
        refine ih (j + 1) _ _ _ _ rfl (by omega) ?_ ?_
        · rw [bst, ← ht]
          first | (rw [if_pos (by omega)]; done) | (rw [if_neg (by omega)]; exact ha)
        · rw [bst, ← ht]
          first | (rw [if_pos (by omega)]; done) | (rw [if_neg (by omega)]; exact hb)
      · refine ev_iload_8 (q := 50) dX1_strongest_48 rfl ?_
        refine ev_iload_4 (q := 52) dX1_strongest_50 rfl ?_
        refine ev_icmp_ge (t := 63) (q := 55) dX1_strongest_52 (by decide) rfl (by constructor <;> omega) (by constructor <;> omega) (fun h_52 => ?_) (fun h_52 => ?_)
        · refine ev_iinc_7 (q := 66) dX1_strongest_63 rfl (by decide) ?_
          refine ev_goto (q := 9) dX1_strongest_66 (by decide) ?_
          refine ih (j + 1) _ _ _ _ rfl (by omega) ?_ ?_
          · rw [bst, ← ht]
            first | (rw [if_pos (by omega)]; done) | (rw [if_neg (by omega)]; exact ha)
          · rw [bst, ← ht]
            first | (rw [if_pos (by omega)]; done) | (rw [if_neg (by omega)]; exact hb)
        · refine ev_iload_8 (q := 57) dX1_strongest_55 rfl ?_
          refine ev_istore_6 (q := 59) dX1_strongest_57 rfl (by decide) ?_
          refine ev_iload_7 (q := 61) dX1_strongest_59 rfl ?_
          refine ev_istore_5 (q := 63) dX1_strongest_61 rfl (by decide) ?_
          refine ev_iinc_7 (q := 66) dX1_strongest_63 rfl (by decide) ?_
          refine ev_goto (q := 9) dX1_strongest_66 (by decide) ?_
          refine ih (j + 1) _ _ _ _ rfl (by omega) ?_ ?_
          · rw [bst, ← ht]
            first | (rw [if_pos (by omega)]; done) | (rw [if_neg (by omega)]; exact ha)
          · rw [bst, ← ht]
            first | (rw [if_pos (by omega)]; done) | (rw [if_neg (by omega)]; exact hb)
    refine ev_iload_7 (q := 11) dX1_strongest_9 rfl ?_
    refine ev_aload_0 (q := 12) dX1_strongest_11 rfl ?_
    refine ev_getI (q := 15) dX1_strongest_12 fl_RX1_59 (by first | assumption | rfl) (by rfl) rfl (fun h_12 => ?_)
    refine ev_icmp_ge (t := 69) (q := 18) dX1_strongest_15 (by decide) rfl (by constructor <;> omega) (by constructor <;> omega) (fun h_15 => ?_) (fun h_15 => ?_)
    · omega
    · refine ev_aload_1 (q := 19) dX1_strongest_18 rfl ?_
      refine ev_iload_7 (q := 21) dX1_strongest_19 rfl ?_
      refine ev_iload_3 (q := 22) dX1_strongest_21 rfl ?_
      refine ev_callV2i (q := 25) dX1_strongest_22 vs_RX1_91 (by first | assumption | rfl) (c_X3_declares (by omega) (by omega)) (by decide) (Nat.le_of_ble_eq_true rfl) rfl (fun h_22 => ?_)
      refine ev_b_eq (t := 38) (q := 28) dX1_strongest_25 (by decide) rfl (fun h_25 => ?_) (fun h_25 => ?_)
      · refine ev_iconst (q := 39) dX1_strongest_38 rfl ?_
        first | exact hstep _ (by rw [if_pos (by simpa [dcl] using h_25)]) hRs | exact hstep _ (by rw [if_neg (by simpa [dcl] using h_25)]) (by constructor <;> omega)
      · refine ev_aload_0 (q := 29) dX1_strongest_28 rfl ?_
        refine ev_iload_2 (q := 30) dX1_strongest_29 rfl ?_
        refine ev_iload_7 (q := 32) dX1_strongest_30 rfl ?_
        refine ev_callV2i (q := 35) dX1_strongest_32 vs_RX1_95 (by first | assumption | rfl) (c_X1_strengthOn (by omega) (by omega)) (by decide) (Nat.le_of_ble_eq_true rfl) rfl (fun h_32 => ?_)
        refine ev_goto (q := 39) dX1_strongest_35 (by decide) ?_
        first | exact hstep _ (by rw [if_pos (by simpa [dcl] using h_25)]) hRs | exact hstep _ (by rw [if_neg (by simpa [dcl] using h_25)]) (by constructor <;> omega)
set_option maxHeartbeats 2000000 in
theorem c_X1_strongest {l : Launch} {M : ev_M} {x y lim : Int} (hR : RM M) (hx : 0 ≤ x ∧ x < 16) (hy : 0 ≤ y ∧ y < 16) (hlim : inR lim) (hs : 0 ≤ M 81 2 ∧ M 81 2 ≤ 16) : Cx l 3 kX1_strongest yX1_strongest S0 M [vr 81, vr 9, vi x, vi y, vi lim] (some (vi (bst (fun r => dcl M 13 r y) (fun r => M 83 (x * 16 + r).toNat) lim (M 81 2).toNat).1)) M := by
  refine Cx.of (by decide) rfl (by decide) (Nat.le_of_ble_eq_true rfl) ?_
  refine (show Ev _ none _ _ _ _ _ 0 [_, _, _, _, _, _, _, _, _] [] _ from ?_)
  refine ev_iconst (q := 1) dX1_strongest_0 rfl ?_
  refine ev_istore_5 (q := 3) dX1_strongest_1 rfl (by decide) ?_
  refine ev_iconst (q := 4) dX1_strongest_3 rfl ?_
  refine ev_istore_6 (q := 6) dX1_strongest_4 rfl (by decide) ?_
  refine ev_iconst (q := 7) dX1_strongest_6 rfl ?_
  refine ev_istore_7 (q := 9) dX1_strongest_7 rfl (by decide) ?_
  exact lp_X1_strongest hR hx hy hlim hs (M 81 2).toNat 0 _ _ _ none rfl (by omega) rfl rfl

