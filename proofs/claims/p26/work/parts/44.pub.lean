theorem recM_o {M : ev_M} (ho : 0 ≤ M 14 1 ∧ M 14 1 < 5) (hk : 0 ≤ M 14 2) {i : Nat} (hi : i ≤ 13 ∨ 81 ≤ i) : recM M i = M i := by
  have hr := slo_rng (M := M) ho hk
  unfold recM
  split
  · rw [up_ne (by omega), scM_o (by omega)]
  · rw [up_ne (by omega), scM_o (by omega)]
theorem begM_o {M : ev_M} (ho : 0 ≤ M 14 1 ∧ M 14 1 < 5) (hk : 0 ≤ M 14 2) {i : Nat} (hi : i ≤ 13 ∨ 82 ≤ i) : begM M i = M i := by
  unfold begM
  rw [up_ne (by omega), recM_o ho hk (by omega)]
theorem begM_V {M : ev_M} (h : IC M) : cV (begM M) 1 = cV M 1 := cV_eq (fun i hi => begM_o h.2.1 h.2.2.1.1 (by omega))
/-- the numbers behind a rule's end on the way of append, of the rules that stand -/
def adM (M : ev_M) (p k c : Int) : ev_M := up (up (up (up M 4 (M 2 0).toNat p) 6 (M 2 0).toNat k) 8 (M 2 0).toNat c) 2 0 (M 2 0 + 1)
set_option maxHeartbeats 2000000 in
theorem p_add {l : Launch} {M : ev_M} {p k c : Int} (hp : inR p) (hk : inR k) (hc : inR c) (h : IC M) : Ri l 6 kX7_add yX7_add S0 M [vr 0, vi p, vi k, vi c] (fun x M2 => (¬ ((0 ≤ p ∧ p < M 2 0) ∧ (0 ≤ k ∧ k ≤ 5) ∧ (0 ≤ c ∧ c ≤ 15)) ∧ x = -11 ∧ M2 = M) ∨ (((0 ≤ p ∧ p < M 2 0) ∧ (0 ≤ k ∧ k ≤ 5) ∧ (0 ≤ c ∧ c ≤ 15)) ∧ M 2 0 ≥ 16 ∧ x = -13 ∧ M2 = M) ∨ (((0 ≤ p ∧ p < M 2 0) ∧ (0 ≤ k ∧ k ≤ 5) ∧ (0 ≤ c ∧ c ≤ 15)) ∧ M 2 0 < 16 ∧ x = M 2 0 ∧ M2 = adM (begM M) p k c)) := by
  have hn : 1 ≤ M 2 0 ∧ M 2 0 ≤ 16 := h.1.1
  have ho := h.2.1; have hk2 := h.2.2.1
  have e2 : begM M 2 = M 2 := begM_o ho hk2.1 (by omega)
  refine Ri.of (by decide) rfl (by decide) (Nat.le_of_ble_eq_true rfl) ?_
  refine (show Ev _ none _ _ _ _ _ 0 [_, _, _, _] [] _ from ?_)
  refine ev_aload_0 (q := 1) dX7_add_0 rfl ?_
  refine ev_getR (q := 4) dX7_add_1 fl_RX7_10 (by first | assumption | rfl) (by rfl) rfl ?_
  refine ev_getR (q := 7) dX7_add_4 fl_RX7_37 (by first | assumption | rfl) (by rfl) rfl ?_
  refine ev_iload_1 (q := 8) dX7_add_7 rfl ?_
  refine ev_callV1i (q := 11) dX7_add_8 vs_RX7_41 (by first | assumption | rfl) (c_X6_has (by constructor <;> omega) (by omega)) (by decide) (Nat.le_of_ble_eq_true rfl) rfl (fun h_8 => ?_)
  refine ev_b_eq (t := 33) (q := 14) dX7_add_11 (by decide) rfl (fun h_11 => ?_) (fun h_11 => ?_)
  · refine ev_bipush (q := 35) dX7_add_33 rfl (by decide) ?_
    refine ev_ireturn dX7_add_35 rfl rfl (by constructor <;> omega) ?_
    exact ⟨_, rfl, rfl, Or.inl ⟨by omega, rfl, rfl⟩⟩
  · refine ev_iload_2 (q := 15) dX7_add_14 rfl ?_
    refine ev_iconst (q := 16) dX7_add_15 rfl ?_
    refine ev_iconst (q := 17) dX7_add_16 rfl ?_
    refine ev_callS3i (q := 20) dX7_add_17 ss_RX7_47 (c_X7_isWithin (by constructor <;> omega) (by constructor <;> omega) (by constructor <;> omega)) (by decide) (Nat.le_of_ble_eq_true rfl) rfl (fun h_17 => ?_)
    refine ev_b_eq (t := 33) (q := 23) dX7_add_20 (by decide) rfl (fun h_20 => ?_) (fun h_20 => ?_)
    · refine ev_bipush (q := 35) dX7_add_33 rfl (by decide) ?_
      refine ev_ireturn dX7_add_35 rfl rfl (by constructor <;> omega) ?_
      exact ⟨_, rfl, rfl, Or.inl ⟨by omega, rfl, rfl⟩⟩
    · refine ev_iload_3 (q := 24) dX7_add_23 rfl ?_
      refine ev_iconst (q := 25) dX7_add_24 rfl ?_
      refine ev_bipush (q := 27) dX7_add_25 rfl (by decide) ?_
      refine ev_callS3i (q := 30) dX7_add_27 ss_RX7_47 (c_X7_isWithin (by constructor <;> omega) (by constructor <;> omega) (by constructor <;> omega)) (by decide) (Nat.le_of_ble_eq_true rfl) rfl (fun h_27 => ?_)
      refine ev_b_ne (t := 36) (q := 33) dX7_add_30 (by decide) rfl (fun h_30 => ?_) (fun h_30 => ?_)
      · refine ev_aload_0 (q := 37) dX7_add_36 rfl ?_
        refine ev_getR (q := 40) dX7_add_37 fl_RX7_10 (by first | assumption | rfl) (by rfl) rfl ?_
        refine ev_getR (q := 43) dX7_add_40 fl_RX7_37 (by first | assumption | rfl) (by rfl) rfl ?_
        refine ev_callV0i (q := 46) dX7_add_43 vs_RX7_51 (by first | assumption | rfl) c_X6_size (by decide) (Nat.le_of_ble_eq_true rfl) rfl (fun h_43 => ?_)
        refine ev_bipush (q := 48) dX7_add_46 rfl (by decide) ?_
        refine ev_icmp_lt (t := 54) (q := 51) dX7_add_48 (by decide) rfl (by constructor <;> omega) (by constructor <;> omega) (fun h_48 => ?_) (fun h_48 => ?_)
        · refine ev_aload_0 (q := 55) dX7_add_54 rfl ?_
          refine ev_callV0v (q := 58) dX7_add_55 vs_RX7_55 (by first | assumption | rfl) (c_X7_beginChange (by assumption) (by assumption)) (by decide) (Nat.le_of_ble_eq_true rfl) rfl ?_
          refine ev_aload_0 (q := 59) dX7_add_58 rfl ?_
          refine ev_getR (q := 62) dX7_add_59 fl_RX7_10 (by first | assumption | rfl) (by rfl) rfl ?_
          refine ev_getR (q := 65) dX7_add_62 fl_RX7_37 (by first | assumption | rfl) (by rfl) rfl ?_
          refine ev_iload_1 (q := 66) dX7_add_65 rfl ?_
          refine ev_iload_2 (q := 67) dX7_add_66 rfl ?_
          refine ev_iload_3 (q := 68) dX7_add_67 rfl ?_
          refine ev_callV3i (q := 71) dX7_add_68 vs_RX7_58 (by first | assumption | rfl) (c_X6_append (by rw [e2]; omega) (by constructor <;> omega) (by constructor <;> omega) (by constructor <;> omega)) (by decide) (Nat.le_of_ble_eq_true rfl) rfl (fun h_68 => ?_)
          rw [e2] at h_68 ⊢
          refine ev_ireturn dX7_add_71 rfl rfl (by constructor <;> omega) ?_
          exact ⟨_, rfl, rfl, Or.inr (Or.inr ⟨by omega, by omega, rfl, by unfold adM; rw [e2]⟩)⟩
        · refine ev_bipush (q := 53) dX7_add_51 rfl (by decide) ?_
          refine ev_ireturn dX7_add_53 rfl rfl (by constructor <;> omega) ?_
          exact ⟨_, rfl, rfl, Or.inr (Or.inl ⟨by omega, by omega, rfl, rfl⟩)⟩
      · refine ev_bipush (q := 35) dX7_add_33 rfl (by decide) ?_
        refine ev_ireturn dX7_add_35 rfl rfl (by constructor <;> omega) ?_
        exact ⟨_, rfl, rfl, Or.inl ⟨by omega, rfl, rfl⟩⟩
set_option maxHeartbeats 2000000 in
theorem p_dress {l : Launch} {M : ev_M} {e k c : Int} (he : inR e) (hk : inR k) (hc : inR c) (h : IC M) : Ri l 6 kX7_dress yX7_dress S0 M [vr 0, vi e, vi k, vi c] (fun x M2 => (¬ ((0 ≤ e ∧ e < M 2 0) ∧ (0 ≤ k ∧ k ≤ 5) ∧ (0 ≤ c ∧ c ≤ 15)) ∧ x = -11 ∧ M2 = M) ∨ (((0 ≤ e ∧ e < M 2 0) ∧ (0 ≤ k ∧ k ≤ 5) ∧ (0 ≤ c ∧ c ≤ 15)) ∧ x = 16 * M 6 e.toNat + M 8 e.toNat ∧ M2 = up (up (begM M) 6 e.toNat k) 8 e.toNat c)) := by
  have hn : 1 ≤ M 2 0 ∧ M 2 0 ≤ 16 := h.1.1
  have ho := h.2.1; have hk2 := h.2.2.1
  have hw := h.1.2.2.1 e.toNat
  have hw2 : 0 ≤ e ∧ e < M 2 0 → (0 ≤ M 6 e.toNat ∧ M 6 e.toNat ≤ 5) ∧ 0 ≤ M 8 e.toNat ∧ M 8 e.toNat ≤ 15 := fun q => (hw (by show (e.toNat : Int) < M 2 0; omega)).2
  refine Ri.of (by decide) rfl (by decide) (Nat.le_of_ble_eq_true rfl) ?_
  refine (show Ev _ none _ _ _ _ _ 0 [_, _, _, _, _] [] _ from ?_)
  refine ev_aload_0 (q := 1) dX7_dress_0 rfl ?_
  refine ev_getR (q := 4) dX7_dress_1 fl_RX7_10 (by first | assumption | rfl) (by rfl) rfl ?_
  refine ev_getR (q := 7) dX7_dress_4 fl_RX7_37 (by first | assumption | rfl) (by rfl) rfl ?_
  refine ev_iload_1 (q := 8) dX7_dress_7 rfl ?_
  refine ev_callV1i (q := 11) dX7_dress_8 vs_RX7_41 (by first | assumption | rfl) (c_X6_has (by constructor <;> omega) (by omega)) (by decide) (Nat.le_of_ble_eq_true rfl) rfl (fun h_8 => ?_)
  refine ev_b_eq (t := 33) (q := 14) dX7_dress_11 (by decide) rfl (fun h_11 => ?_) (fun h_11 => ?_)
  · refine ev_bipush (q := 35) dX7_dress_33 rfl (by decide) ?_
    refine ev_ireturn dX7_dress_35 rfl rfl (by constructor <;> omega) ?_
    exact ⟨_, rfl, rfl, Or.inl ⟨by omega, rfl, rfl⟩⟩
  · refine ev_iload_2 (q := 15) dX7_dress_14 rfl ?_
    refine ev_iconst (q := 16) dX7_dress_15 rfl ?_
    refine ev_iconst (q := 17) dX7_dress_16 rfl ?_
    refine ev_callS3i (q := 20) dX7_dress_17 ss_RX7_47 (c_X7_isWithin (by constructor <;> omega) (by constructor <;> omega) (by constructor <;> omega)) (by decide) (Nat.le_of_ble_eq_true rfl) rfl (fun h_17 => ?_)
    refine ev_b_eq (t := 33) (q := 23) dX7_dress_20 (by decide) rfl (fun h_20 => ?_) (fun h_20 => ?_)
    · refine ev_bipush (q := 35) dX7_dress_33 rfl (by decide) ?_
      refine ev_ireturn dX7_dress_35 rfl rfl (by constructor <;> omega) ?_
      exact ⟨_, rfl, rfl, Or.inl ⟨by omega, rfl, rfl⟩⟩
    · refine ev_iload_3 (q := 24) dX7_dress_23 rfl ?_
      refine ev_iconst (q := 25) dX7_dress_24 rfl ?_
      refine ev_bipush (q := 27) dX7_dress_25 rfl (by decide) ?_
      refine ev_callS3i (q := 30) dX7_dress_27 ss_RX7_47 (c_X7_isWithin (by constructor <;> omega) (by constructor <;> omega) (by constructor <;> omega)) (by decide) (Nat.le_of_ble_eq_true rfl) rfl (fun h_27 => ?_)
      refine ev_b_ne (t := 36) (q := 33) dX7_dress_30 (by decide) rfl (fun h_30 => ?_) (fun h_30 => ?_)
      · refine ev_bipush (q := 38) dX7_dress_36 rfl (by decide) ?_
        refine ev_aload_0 (q := 39) dX7_dress_38 rfl ?_
        refine ev_getR (q := 42) dX7_dress_39 fl_RX7_10 (by first | assumption | rfl) (by rfl) rfl ?_
        refine ev_getR (q := 45) dX7_dress_42 fl_RX7_37 (by first | assumption | rfl) (by rfl) rfl ?_
        refine ev_iload_1 (q := 46) dX7_dress_45 rfl ?_
        refine ev_callV1i (q := 49) dX7_dress_46 vs_RX7_74 (by first | assumption | rfl) (c_X6_kindOf (by omega)) (by decide) (Nat.le_of_ble_eq_true rfl) rfl (fun h_46 => ?_)
        have hw3 := hw2 (by omega)
        refine ev_imul (q := 50) dX7_dress_49 rfl ?_
        refine ev_aload_0 (q := 51) dX7_dress_50 rfl ?_
        refine ev_getR (q := 54) dX7_dress_51 fl_RX7_10 (by first | assumption | rfl) (by rfl) rfl ?_
        refine ev_getR (q := 57) dX7_dress_54 fl_RX7_37 (by first | assumption | rfl) (by rfl) rfl ?_
        refine ev_iload_1 (q := 58) dX7_dress_57 rfl ?_
        refine ev_callV1i (q := 61) dX7_dress_58 vs_RX7_78 (by first | assumption | rfl) (c_X6_classesOf (by omega)) (by decide) (Nat.le_of_ble_eq_true rfl) rfl (fun h_58 => ?_)
        refine ev_iadd (q := 62) dX7_dress_61 rfl ?_
        refine ev_istore_4 (q := 64) dX7_dress_62 rfl (by decide) ?_
        refine ev_aload_0 (q := 65) dX7_dress_64 rfl ?_
        refine ev_callV0v (q := 68) dX7_dress_65 vs_RX7_55 (by first | assumption | rfl) (c_X7_beginChange (by assumption) (by assumption)) (by decide) (Nat.le_of_ble_eq_true rfl) rfl ?_
        refine ev_aload_0 (q := 69) dX7_dress_68 rfl ?_
        refine ev_getR (q := 72) dX7_dress_69 fl_RX7_10 (by first | assumption | rfl) (by rfl) rfl ?_
        refine ev_getR (q := 75) dX7_dress_72 fl_RX7_37 (by first | assumption | rfl) (by rfl) rfl ?_
        refine ev_iload_1 (q := 76) dX7_dress_75 rfl ?_
        refine ev_iload_2 (q := 77) dX7_dress_76 rfl ?_
        refine ev_iload_3 (q := 78) dX7_dress_77 rfl ?_
        refine ev_callV3v (q := 81) dX7_dress_78 vs_RX7_81 (by first | assumption | rfl) (c_X6_setLook (by omega) (by constructor <;> omega) (by constructor <;> omega)) (by decide) (Nat.le_of_ble_eq_true rfl) rfl ?_
        refine ev_iload_4 (q := 83) dX7_dress_81 rfl ?_
        refine ev_ireturn dX7_dress_83 rfl rfl (by constructor <;> omega) ?_
        exact ⟨_, rfl, rfl, Or.inr ⟨by omega, rfl, rfl⟩⟩
      · refine ev_bipush (q := 35) dX7_dress_33 rfl (by decide) ?_
        refine ev_ireturn dX7_dress_35 rfl rfl (by constructor <;> omega) ?_
        exact ⟨_, rfl, rfl, Or.inl ⟨by omega, rfl, rfl⟩⟩
set_option maxHeartbeats 2000000 in
theorem p_undo {l : Launch} {M : ev_M} (h : IC M) : Ri l 5 kX7_undo yX7_undo S0 M [vr 0] (fun x M2 => (M 14 2 ≤ 0 ∧ x = -12 ∧ M2 = M) ∨ (M 14 2 > 0 ∧ x = M 14 2 - 1 ∧ M2 = up (resM M) 81 0 0)) := by
  have ho := h.2.1; have hk2 := h.2.2.1
  have e1 : (up (resM M) 81 0 0) 14 2 = M 14 2 - 1 := by
    rw [up_ne (by decide)]
    unfold resM
    rw [up_at, if_pos ⟨rfl, rfl⟩]
  refine Ri.of (by decide) rfl (by decide) (Nat.le_of_ble_eq_true rfl) ?_
  refine (show Ev _ none _ _ _ _ _ 0 [_] [] _ from ?_)
  refine ev_aload_0 (q := 1) dX7_undo_0 rfl ?_
  refine ev_getR (q := 4) dX7_undo_1 fl_RX7_19 (by first | assumption | rfl) (by rfl) rfl ?_
  refine ev_callV0i (q := 7) dX7_undo_4 vs_RX7_112 (by first | assumption | rfl) c_X0_size (by decide) (Nat.le_of_ble_eq_true rfl) rfl (fun h_4 => ?_)
  refine ev_if_gt (t := 13) (q := 10) dX7_undo_7 (by decide) rfl (by constructor <;> omega) (fun h_7 => ?_) (fun h_7 => ?_)
  · refine ev_aload_0 (q := 14) dX7_undo_13 rfl ?_
    refine ev_getR (q := 17) dX7_undo_14 fl_RX7_19 (by first | assumption | rfl) (by rfl) rfl ?_
    refine ev_aload_0 (q := 18) dX7_undo_17 rfl ?_
    refine ev_getR (q := 21) dX7_undo_18 fl_RX7_10 (by first | assumption | rfl) (by rfl) rfl ?_
    refine ev_callV1v (q := 24) dX7_undo_21 vs_RX7_116 (by first | assumption | rfl) (c_X0_restore ho (by omega)) (by decide) (Nat.le_of_ble_eq_true rfl) rfl ?_
    refine ev_aload_0 (q := 25) dX7_undo_24 rfl ?_
    refine ev_getR (q := 28) dX7_undo_25 fl_RX7_26 (by first | assumption | rfl) (by rfl) rfl ?_
    refine ev_callV0v (q := 31) dX7_undo_28 vs_RX7_120 (by first | assumption | rfl) c_X1_spoil (by decide) (Nat.le_of_ble_eq_true rfl) rfl ?_
    refine ev_aload_0 (q := 32) dX7_undo_31 rfl ?_
    refine ev_getR (q := 35) dX7_undo_32 fl_RX7_19 (by first | assumption | rfl) (by rfl) rfl ?_
    refine ev_callV0i (q := 38) dX7_undo_35 vs_RX7_112 (by first | assumption | rfl) c_X0_size (by decide) (Nat.le_of_ble_eq_true rfl) rfl (fun h_35 => ?_)
    rw [e1] at h_35 ⊢
    refine ev_ireturn dX7_undo_38 rfl rfl (by constructor <;> omega) ?_
    exact ⟨_, rfl, rfl, Or.inr ⟨by omega, rfl, rfl⟩⟩
  · refine ev_bipush (q := 12) dX7_undo_10 rfl (by decide) ?_
    refine ev_ireturn dX7_undo_12 rfl rfl (by constructor <;> omega) ?_
    exact ⟨_, rfl, rfl, Or.inl ⟨by omega, rfl, rfl⟩⟩
set_option maxHeartbeats 2000000 in
theorem p_drop {l : Launch} {M : ev_M} {r : Int} (hr : inR r) (h : IC M) : Ri l 6 kX7_drop yX7_drop S0 M [vr 0, vi r] (fun x M2 => (¬ (0 ≤ r ∧ r < M 9 0) ∧ x = -11 ∧ M2 = M) ∨ ((0 ≤ r ∧ r < M 9 0) ∧ x = M 9 0 - 1 ∧ M2 = toM (begM M) r.toNat)) := by
  have hrn : 0 ≤ M 9 0 ∧ M 9 0 ≤ 16 := h.1.2.1
  have ho := h.2.1; have hk2 := h.2.2.1
  have e9 : begM M 9 = M 9 := begM_o ho hk2.1 (by omega)
  refine Ri.of (by decide) rfl (by decide) (Nat.le_of_ble_eq_true rfl) ?_
  refine (show Ev _ none _ _ _ _ _ 0 [_, _] [] _ from ?_)
  refine ev_aload_0 (q := 1) dX7_drop_0 rfl ?_
  refine ev_getR (q := 4) dX7_drop_1 fl_RX7_10 (by first | assumption | rfl) (by rfl) rfl ?_
  refine ev_getR (q := 7) dX7_drop_4 fl_RX7_62 (by first | assumption | rfl) (by rfl) rfl ?_
  refine ev_iload_1 (q := 8) dX7_drop_7 rfl ?_
  refine ev_callV1i (q := 11) dX7_drop_8 vs_RX7_126 (by first | assumption | rfl) (c_X3_has (by constructor <;> omega) (by omega)) (by decide) (Nat.le_of_ble_eq_true rfl) rfl (fun h_8 => ?_)
  refine ev_b_ne (t := 17) (q := 14) dX7_drop_11 (by decide) rfl (fun h_11 => ?_) (fun h_11 => ?_)
  · refine ev_aload_0 (q := 18) dX7_drop_17 rfl ?_
    refine ev_callV0v (q := 21) dX7_drop_18 vs_RX7_55 (by first | assumption | rfl) (c_X7_beginChange (by assumption) (by assumption)) (by decide) (Nat.le_of_ble_eq_true rfl) rfl ?_
    refine ev_aload_0 (q := 22) dX7_drop_21 rfl ?_
    refine ev_getR (q := 25) dX7_drop_22 fl_RX7_10 (by first | assumption | rfl) (by rfl) rfl ?_
    refine ev_getR (q := 28) dX7_drop_25 fl_RX7_62 (by first | assumption | rfl) (by rfl) rfl ?_
    refine ev_iload_1 (q := 29) dX7_drop_28 rfl ?_
    refine ev_callV1i (q := 32) dX7_drop_29 vs_RX7_127 (by first | assumption | rfl) (c_X3_takeOut (r := r.toNat) (by omega) (by rw [e9]; omega) (by rw [e9]; omega)) (by decide) (Nat.le_of_ble_eq_true rfl) rfl (fun h_29 => ?_)
    rw [e9] at h_29 ⊢
    refine ev_ireturn dX7_drop_32 rfl rfl (by constructor <;> omega) ?_
    exact ⟨_, rfl, rfl, Or.inr ⟨by omega, rfl, rfl⟩⟩
  · refine ev_bipush (q := 16) dX7_drop_14 rfl (by decide) ?_
    refine ev_ireturn dX7_drop_16 rfl rfl (by constructor <;> omega) ?_
    exact ⟨_, rfl, rfl, Or.inl ⟨by omega, rfl, rfl⟩⟩
/-- one declaration laid into the rules that stand -/
def lyM (M : ev_M) (r p : Nat) (n c f : Int) : ev_M := up (up (up M 13 (48 * r + 3 * p) n) 13 (48 * r + 3 * p + 1) c) 13 (48 * r + 3 * p + 2) f
theorem lyM_eq {M : ev_M} {r p n c f : Int} (hr : 0 ≤ r) (hp : 0 ≤ p) : up (up (up M 13 (r * 48 + p * 3 + 0).toNat n) 13 (r * 48 + p * 3 + 1).toNat c) 13 (r * 48 + p * 3 + 2).toNat f = lyM M r.toNat p.toNat n c f := by
  unfold lyM
  rw [show (r * 48 + p * 3 + 0).toNat = 48 * r.toNat + 3 * p.toNat by omega, show (r * 48 + p * 3 + 1).toNat = 48 * r.toNat + 3 * p.toNat + 1 by omega, show (r * 48 + p * 3 + 2).toNat = 48 * r.toNat + 3 * p.toNat + 2 by omega]
set_option maxHeartbeats 2000000 in
theorem p_declare {l : Launch} {M : ev_M} {r p n : Int} (hr : inR r) (hp : inR p) (hn : inR n) (h : IC M) : Ri l 6 kX7_declare yX7_declare S0 M [vr 0, vi r, vi p, vi n] (fun x M2 => (¬ ((0 ≤ r ∧ r < M 9 0) ∧ (0 ≤ p ∧ p ≤ 15) ∧ (0 ≤ n ∧ n ≤ 999)) ∧ x = -11 ∧ M2 = M) ∨ (((0 ≤ r ∧ r < M 9 0) ∧ (0 ≤ p ∧ p ≤ 15) ∧ (0 ≤ n ∧ n ≤ 999)) ∧ M2 = lyM (begM M) r.toNat p.toNat n (-1) (-1) ∧ x = cnt (fun p => dcl M2 13 r p) 16)) := by
  have hrn : 0 ≤ M 9 0 ∧ M 9 0 ≤ 16 := h.1.2.1
  have ho := h.2.1; have hk2 := h.2.2.1
  refine Ri.of (by decide) rfl (by decide) (Nat.le_of_ble_eq_true rfl) ?_
  refine (show Ev _ none _ _ _ _ _ 0 [_, _, _, _] [] _ from ?_)
  refine ev_aload_0 (q := 1) dX7_declare_0 rfl ?_
  refine ev_getR (q := 4) dX7_declare_1 fl_RX7_10 (by first | assumption | rfl) (by rfl) rfl ?_
  refine ev_getR (q := 7) dX7_declare_4 fl_RX7_62 (by first | assumption | rfl) (by rfl) rfl ?_
  refine ev_iload_1 (q := 8) dX7_declare_7 rfl ?_
  refine ev_callV1i (q := 11) dX7_declare_8 vs_RX7_126 (by first | assumption | rfl) (c_X3_has (by constructor <;> omega) (by omega)) (by decide) (Nat.le_of_ble_eq_true rfl) rfl (fun h_8 => ?_)
  refine ev_b_eq (t := 32) (q := 14) dX7_declare_11 (by decide) rfl (fun h_11 => ?_) (fun h_11 => ?_)
  · refine ev_bipush (q := 34) dX7_declare_32 rfl (by decide) ?_
    refine ev_ireturn dX7_declare_34 rfl rfl (by constructor <;> omega) ?_
    exact ⟨_, rfl, rfl, Or.inl ⟨by omega, rfl, rfl⟩⟩
  · refine ev_iload_2 (q := 15) dX7_declare_14 rfl ?_
    refine ev_callS1i (q := 18) dX7_declare_15 ss_RX7_130 (c_X7_isProperty (by constructor <;> omega)) (by decide) (Nat.le_of_ble_eq_true rfl) rfl (fun h_15 => ?_)
    refine ev_b_eq (t := 32) (q := 21) dX7_declare_18 (by decide) rfl (fun h_18 => ?_) (fun h_18 => ?_)
    · refine ev_bipush (q := 34) dX7_declare_32 rfl (by decide) ?_
      refine ev_ireturn dX7_declare_34 rfl rfl (by constructor <;> omega) ?_
      exact ⟨_, rfl, rfl, Or.inl ⟨by omega, rfl, rfl⟩⟩
    · refine ev_iload_3 (q := 22) dX7_declare_21 rfl ?_
      refine ev_iconst (q := 23) dX7_declare_22 rfl ?_
      refine ev_sipush (q := 26) dX7_declare_23 rfl (by decide) ?_
      refine ev_callS3i (q := 29) dX7_declare_26 ss_RX7_47 (c_X7_isWithin (by constructor <;> omega) (by constructor <;> omega) (by constructor <;> omega)) (by decide) (Nat.le_of_ble_eq_true rfl) rfl (fun h_26 => ?_)
      refine ev_b_ne (t := 35) (q := 32) dX7_declare_29 (by decide) rfl (fun h_29 => ?_) (fun h_29 => ?_)
      · refine ev_aload_0 (q := 36) dX7_declare_35 rfl ?_
        refine ev_callV0v (q := 39) dX7_declare_36 vs_RX7_55 (by first | assumption | rfl) (c_X7_beginChange (by assumption) (by assumption)) (by decide) (Nat.le_of_ble_eq_true rfl) rfl ?_
        refine ev_aload_0 (q := 40) dX7_declare_39 rfl ?_
        refine ev_getR (q := 43) dX7_declare_40 fl_RX7_10 (by first | assumption | rfl) (by rfl) rfl ?_
        refine ev_getR (q := 46) dX7_declare_43 fl_RX7_62 (by first | assumption | rfl) (by rfl) rfl ?_
        refine ev_iload_1 (q := 47) dX7_declare_46 rfl ?_
        refine ev_iload_2 (q := 48) dX7_declare_47 rfl ?_
        refine ev_iload_3 (q := 49) dX7_declare_48 rfl ?_
        refine ev_iconst (q := 50) dX7_declare_49 rfl ?_
        refine ev_iconst (q := 51) dX7_declare_50 rfl ?_
        refine ev_callV5v (q := 54) dX7_declare_51 vs_RX7_133 (by first | assumption | rfl) (c_X3_setDeclaration (by omega) (by omega) (by constructor <;> omega) (by constructor <;> omega) (by constructor <;> omega)) (by decide) (Nat.le_of_ble_eq_true rfl) rfl ?_
        rw [lyM_eq (by omega) (by omega)]
        refine ev_aload_0 (q := 55) dX7_declare_54 rfl ?_
        refine ev_getR (q := 58) dX7_declare_55 fl_RX7_10 (by first | assumption | rfl) (by rfl) rfl ?_
        refine ev_getR (q := 61) dX7_declare_58 fl_RX7_62 (by first | assumption | rfl) (by rfl) rfl ?_
        refine ev_iload_1 (q := 62) dX7_declare_61 rfl ?_
        refine ev_callV1i (q := 65) dX7_declare_62 vs_RX7_137 (by first | assumption | rfl) (c_X3_declarationsOf (by omega)) (by decide) (Nat.le_of_ble_eq_true rfl) rfl (fun h_62 => ?_)
        refine ev_ireturn dX7_declare_65 rfl rfl (by constructor <;> omega) ?_
        exact ⟨_, rfl, rfl, Or.inr ⟨by omega, rfl, rfl⟩⟩
      · refine ev_bipush (q := 34) dX7_declare_32 rfl (by decide) ?_
        refine ev_ireturn dX7_declare_34 rfl rfl (by constructor <;> omega) ?_
        exact ⟨_, rfl, rfl, Or.inl ⟨by omega, rfl, rfl⟩⟩
set_option maxHeartbeats 2000000 in
theorem p_refer {l : Launch} {M : ev_M} {r p c f : Int} (hr : inR r) (hp : inR p) (hc : inR c) (hf : inR f) (h : IC M) : Ri l 6 kX7_refer yX7_refer S0 M [vr 0, vi r, vi p, vi c, vi f] (fun x M2 => (¬ ((0 ≤ r ∧ r < M 9 0) ∧ (0 ≤ p ∧ p ≤ 15) ∧ (8 ≤ c ∧ c ≤ 15) ∧ (-1 ≤ f ∧ f ≤ 999)) ∧ x = -11 ∧ M2 = M) ∨ (((0 ≤ r ∧ r < M 9 0) ∧ (0 ≤ p ∧ p ≤ 15) ∧ (8 ≤ c ∧ c ≤ 15) ∧ (-1 ≤ f ∧ f ≤ 999)) ∧ M2 = lyM (begM M) r.toNat p.toNat (-1) c f ∧ x = cnt (fun p => dcl M2 13 r p) 16)) := by
  have hrn : 0 ≤ M 9 0 ∧ M 9 0 ≤ 16 := h.1.2.1
  have ho := h.2.1; have hk2 := h.2.2.1
  refine Ri.of (by decide) rfl (by decide) (Nat.le_of_ble_eq_true rfl) ?_
  refine (show Ev _ none _ _ _ _ _ 0 [_, _, _, _, _] [] _ from ?_)
  refine ev_aload_0 (q := 1) dX7_refer_0 rfl ?_
  refine ev_getR (q := 4) dX7_refer_1 fl_RX7_10 (by first | assumption | rfl) (by rfl) rfl ?_
  refine ev_getR (q := 7) dX7_refer_4 fl_RX7_62 (by first | assumption | rfl) (by rfl) rfl ?_
  refine ev_iload_1 (q := 8) dX7_refer_7 rfl ?_
  refine ev_callV1i (q := 11) dX7_refer_8 vs_RX7_126 (by first | assumption | rfl) (c_X3_has (by constructor <;> omega) (by omega)) (by decide) (Nat.le_of_ble_eq_true rfl) rfl (fun h_8 => ?_)
  refine ev_b_eq (t := 40) (q := 14) dX7_refer_11 (by decide) rfl (fun h_11 => ?_) (fun h_11 => ?_)
  · refine ev_bipush (q := 42) dX7_refer_40 rfl (by decide) ?_
    refine ev_ireturn dX7_refer_42 rfl rfl (by constructor <;> omega) ?_
    exact ⟨_, rfl, rfl, Or.inl ⟨by omega, rfl, rfl⟩⟩
  · refine ev_iload_2 (q := 15) dX7_refer_14 rfl ?_
    refine ev_callS1i (q := 18) dX7_refer_15 ss_RX7_130 (c_X7_isProperty (by constructor <;> omega)) (by decide) (Nat.le_of_ble_eq_true rfl) rfl (fun h_15 => ?_)
    refine ev_b_eq (t := 40) (q := 21) dX7_refer_18 (by decide) rfl (fun h_18 => ?_) (fun h_18 => ?_)
    · refine ev_bipush (q := 42) dX7_refer_40 rfl (by decide) ?_
      refine ev_ireturn dX7_refer_42 rfl rfl (by constructor <;> omega) ?_
      exact ⟨_, rfl, rfl, Or.inl ⟨by omega, rfl, rfl⟩⟩
    · refine ev_iload_3 (q := 22) dX7_refer_21 rfl ?_
      refine ev_callS1i (q := 25) dX7_refer_22 ss_RX7_140 (c_X7_isCustom (by constructor <;> omega)) (by decide) (Nat.le_of_ble_eq_true rfl) rfl (fun h_22 => ?_)
      refine ev_b_eq (t := 40) (q := 28) dX7_refer_25 (by decide) rfl (fun h_25 => ?_) (fun h_25 => ?_)
      · refine ev_bipush (q := 42) dX7_refer_40 rfl (by decide) ?_
        refine ev_ireturn dX7_refer_42 rfl rfl (by constructor <;> omega) ?_
        exact ⟨_, rfl, rfl, Or.inl ⟨by omega, rfl, rfl⟩⟩
      · refine ev_iload_4 (q := 30) dX7_refer_28 rfl ?_
        refine ev_iconst (q := 31) dX7_refer_30 rfl ?_
        refine ev_sipush (q := 34) dX7_refer_31 rfl (by decide) ?_
        refine ev_callS3i (q := 37) dX7_refer_34 ss_RX7_47 (c_X7_isWithin (by constructor <;> omega) (by constructor <;> omega) (by constructor <;> omega)) (by decide) (Nat.le_of_ble_eq_true rfl) rfl (fun h_34 => ?_)
        refine ev_b_ne (t := 43) (q := 40) dX7_refer_37 (by decide) rfl (fun h_37 => ?_) (fun h_37 => ?_)
        · refine ev_aload_0 (q := 44) dX7_refer_43 rfl ?_
          refine ev_callV0v (q := 47) dX7_refer_44 vs_RX7_55 (by first | assumption | rfl) (c_X7_beginChange (by assumption) (by assumption)) (by decide) (Nat.le_of_ble_eq_true rfl) rfl ?_
          refine ev_aload_0 (q := 48) dX7_refer_47 rfl ?_
          refine ev_getR (q := 51) dX7_refer_48 fl_RX7_10 (by first | assumption | rfl) (by rfl) rfl ?_
          refine ev_getR (q := 54) dX7_refer_51 fl_RX7_62 (by first | assumption | rfl) (by rfl) rfl ?_
          refine ev_iload_1 (q := 55) dX7_refer_54 rfl ?_
          refine ev_iload_2 (q := 56) dX7_refer_55 rfl ?_
          refine ev_iconst (q := 57) dX7_refer_56 rfl ?_
          refine ev_iload_3 (q := 58) dX7_refer_57 rfl ?_
          refine ev_iload_4 (q := 60) dX7_refer_58 rfl ?_
          refine ev_callV5v (q := 63) dX7_refer_60 vs_RX7_133 (by first | assumption | rfl) (c_X3_setDeclaration (by omega) (by omega) (by constructor <;> omega) (by constructor <;> omega) (by constructor <;> omega)) (by decide) (Nat.le_of_ble_eq_true rfl) rfl ?_
          rw [lyM_eq (by omega) (by omega)]
          refine ev_aload_0 (q := 64) dX7_refer_63 rfl ?_
          refine ev_getR (q := 67) dX7_refer_64 fl_RX7_10 (by first | assumption | rfl) (by rfl) rfl ?_
          refine ev_getR (q := 70) dX7_refer_67 fl_RX7_62 (by first | assumption | rfl) (by rfl) rfl ?_
          refine ev_iload_1 (q := 71) dX7_refer_70 rfl ?_
          refine ev_callV1i (q := 74) dX7_refer_71 vs_RX7_137 (by first | assumption | rfl) (c_X3_declarationsOf (by omega)) (by decide) (Nat.le_of_ble_eq_true rfl) rfl (fun h_71 => ?_)
          refine ev_ireturn dX7_refer_74 rfl rfl (by constructor <;> omega) ?_
          exact ⟨_, rfl, rfl, Or.inr ⟨by omega, rfl, rfl⟩⟩
        · refine ev_bipush (q := 42) dX7_refer_40 rfl (by decide) ?_
          refine ev_ireturn dX7_refer_42 rfl rfl (by constructor <;> omega) ?_
          exact ⟨_, rfl, rfl, Or.inl ⟨by omega, rfl, rfl⟩⟩

