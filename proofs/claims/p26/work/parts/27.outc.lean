/-- n places of cell a from lo on hold f 0, f 1 .. -/
def wr (M : ev_M) (a lo n : Nat) (f : Nat → Int) : ev_M := fun i c => if i = a ∧ lo ≤ c ∧ c < lo + n then f (c - lo) else M i c
theorem wr_at (M : ev_M) (a lo n : Nat) (f : Nat → Int) (i c : Nat) : wr M a lo n f i c = if i = a ∧ lo ≤ c ∧ c < lo + n then f (c - lo) else M i c := rfl
theorem wr_0 (M : ev_M) (a lo : Nat) (f : Nat → Int) : wr M a lo 0 f = M := by
  funext i c
  simp only [wr]
  rw [if_neg (by omega)]
theorem wr_s {M : ev_M} {a lo j : Nat} {f : Nat → Int} : up (wr M a lo j f) a (lo + j) (f j) = wr M a lo (j + 1) f := by
  funext i c
  simp only [up_at, wr_at]
  by_cases hi : i = a
  · subst hi
    by_cases hc : c = lo + j
    · subst hc
      simp only [true_and, and_self, if_true]
      rw [if_pos (by omega)]
      congr 1; omega
    · simp only [hc, and_false, if_false, true_and]
      by_cases h1 : lo ≤ c ∧ c < lo + j
      · rw [if_pos h1, if_pos (by omega)]
      · rw [if_neg h1, if_neg (by omega)]
  · simp [hi]
theorem wr_ne {M : ev_M} {a lo n : Nat} {f : Nat → Int} {i : Nat} (h : i ≠ a) : wr M a lo n f i = M i := by
  funext c
  simp [wr, h]
theorem up_ne {M : ev_M} {a k : Nat} {x : Int} {i : Nat} (h : i ≠ a) : up M a k x i = M i := by
  funext c
  simp [up, h]
theorem cV_eq {M M' : ev_M} (h : ∀ i, i ≤ 13 → M' i = M i) : cV M' 1 = cV M 1 := by
  simp [cV, h]
set_option maxHeartbeats 1000000 in
theorem lp_X4_strength {l : Launch} {M : ev_M} {r e : Nat} (h : Wf (cV M 1)) (hr : (r : Int) < M 9 0) (he : (e : Int) < M 2 0) : ∀ (m j : Nat) (x y : Int), x = j → j + m = 6 → 1 ≤ j → y = accV (cV M 1) r e j → Ev l none 3 kX4_strength (0, 0) S0 M 16 [some (vr 1), some (vi r), some (vi e), some (vi y), some (vi x)] [] (QX (some (vi (accV (cV M 1) r e 6))) S0 M) := by
  intro m
  induction m with
  | zero =>
    intro j x y hx hj h1 hy
    have hj6 : j = 6 := by omega
    subst hj6
    have ha := accV_rng h (e := e) hr 6 (by omega)
    refine ev_iload_4 (q := 18) dX4_strength_16 rfl ?_
    refine ev_iconst (q := 19) dX4_strength_18 rfl ?_
    refine ev_icmp_gt (t := 42) (q := 22) dX4_strength_19 (by decide) rfl (by constructor <;> omega) (by constructor <;> omega) (fun h_19 => ?_) (fun h_19 => ?_)
    · refine ev_iload_3 (q := 43) dX4_strength_42 rfl ?_
      refine ev_ireturn dX4_strength_43 rfl rfl (by constructor <;> omega) ?_
      exact ⟨by rw [hy], rfl, rfl⟩
    · omega
  | succ m ih =>
    intro j x y hx hj h1 hy
    have ha := accV_rng h (e := e) hr j (by omega)
    have hk := rkV_rng h (e := e) (c := j) hr
    subst hx
    refine ev_iload_4 (q := 18) dX4_strength_16 rfl ?_
    refine ev_iconst (q := 19) dX4_strength_18 rfl ?_
    refine ev_icmp_gt (t := 42) (q := 22) dX4_strength_19 (by decide) rfl (by constructor <;> omega) (by constructor <;> omega) (fun h_19 => ?_) (fun h_19 => ?_)
    · omega
    · refine ev_iload_3 (q := 23) dX4_strength_22 rfl ?_
      refine ev_bipush (q := 25) dX4_strength_23 rfl (by decide) ?_
      refine ev_imul (q := 26) dX4_strength_25 rfl ?_
      refine ev_aload_0 (q := 27) dX4_strength_26 rfl ?_
      refine ev_iload_1 (q := 28) dX4_strength_27 rfl ?_
      refine ev_iload_2 (q := 29) dX4_strength_28 rfl ?_
      refine ev_iload_4 (q := 31) dX4_strength_29 rfl ?_
      refine ev_callV3i (q := 34) dX4_strength_31 vs_RX4_51 (by first | assumption | rfl) (c_X4_rank h hr he (by omega)) (by decide) (Nat.le_of_ble_eq_true rfl) rfl (fun h_31 => ?_)
      refine ev_iadd (q := 35) dX4_strength_34 rfl ?_
      refine ev_istore_3 (q := 36) dX4_strength_35 rfl (by decide) ?_
      refine ev_iinc_4 (q := 39) dX4_strength_36 rfl (by decide) ?_
      refine ev_goto (q := 16) dX4_strength_39 (by decide) ?_
      refine ih (j + 1) _ _ rfl (by omega) (by omega) ?_
      rw [hy]
      rw [accV, if_neg (by omega)]
set_option maxHeartbeats 1000000 in
theorem c_X4_strength {l : Launch} {M : ev_M} {r e : Nat} (h : Wf (cV M 1)) (hr : (r : Int) < M 9 0) (he : (e : Int) < M 2 0) : Cx l 3 kX4_strength yX4_strength S0 M [vr 1, vi (r : Int), vi (e : Int)] (some (vi (strV (cV M 1) r e))) M := by
  unfold strV
  refine Cx.of (by decide) rfl (by decide) (Nat.le_of_ble_eq_true rfl) ?_
  refine (show Ev _ none _ _ _ _ _ 0 [_, _, _, _, _] [] _ from ?_)
  refine ev_aload_0 (q := 1) dX4_strength_0 rfl ?_
  refine ev_iload_1 (q := 2) dX4_strength_1 rfl ?_
  refine ev_iload_2 (q := 3) dX4_strength_2 rfl ?_
  refine ev_callV2i (q := 6) dX4_strength_3 vs_RX4_48 (by first | assumption | rfl) (c_X4_fits h hr he) (by decide) (Nat.le_of_ble_eq_true rfl) rfl (fun h_3 => ?_)
  refine ev_b_ne (t := 11) (q := 9) dX4_strength_6 (by decide) rfl (fun h_6 => ?_) (fun h_6 => ?_)
  · refine ev_iconst (q := 12) dX4_strength_11 rfl ?_
    refine ev_istore_3 (q := 13) dX4_strength_12 rfl (by decide) ?_
    refine ev_iconst (q := 14) dX4_strength_13 rfl ?_
    refine ev_istore_4 (q := 16) dX4_strength_14 rfl (by decide) ?_
    rw [if_pos h_6]
    exact lp_X4_strength h hr he 5 1 _ _ rfl rfl (by omega) (by simp [accV])
  · refine ev_iconst (q := 10) dX4_strength_9 rfl ?_
    refine ev_ireturn dX4_strength_10 rfl rfl (by constructor <;> omega) ?_
    exact ⟨by rw [if_neg h_6], rfl, rfl⟩

