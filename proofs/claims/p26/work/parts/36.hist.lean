theorem ringG_k : ∀ k : Nat, k < 5 → ringG k = some (16 + 13 * k) := by decide
set_option maxHeartbeats 2000000 in
theorem c_X0_slot {l : Launch} {M : ev_M} {k : Int} (ho : 0 ≤ M 14 1 ∧ M 14 1 < 5) (hk : 0 ≤ k ∧ k ≤ 5) : Cx l 0 kX0_slot yX0_slot S0 M [vr 14, vi k] (some (vr (16 + 13 * ((M 14 1 + k) % 5).toNat))) M := by
  have hg := ringG_k ((M 14 1 + k) % 5).toNat (by omega)
  refine Cx.of (by decide) rfl (by decide) (Nat.le_of_ble_eq_true rfl) ?_
  refine (show Ev _ none _ _ _ _ _ 0 [_, _, _] [] _ from ?_)
  refine ev_aload_0 (q := 1) dX0_slot_0 rfl ?_
  refine ev_getI (q := 4) dX0_slot_1 fl_RX0_30 (by first | assumption | rfl) (by rfl) rfl (fun h_1 => ?_)
  refine ev_iload_1 (q := 5) dX0_slot_4 rfl ?_
  refine ev_iadd (q := 6) dX0_slot_5 rfl ?_
  refine ev_iconst (q := 7) dX0_slot_6 rfl ?_
  refine ev_irem (q := 8) dX0_slot_7 rfl ⟨by constructor <;> omega, by constructor <;> omega, by omega, by omega⟩ ?_
  refine ev_istore_2 (q := 9) dX0_slot_8 rfl (by decide) ?_
  refine ev_iload_1 (q := 10) dX0_slot_9 rfl ?_
  refine ev_if_lt (t := 35) (q := 13) dX0_slot_10 (by decide) rfl (by constructor <;> omega) (fun h_10 => ?_) (fun h_10 => ?_)
  · refine ev_null (q := 36) dX0_slot_35 rfl ?_
    refine ev_areturn dX0_slot_36 rfl ?_
    first | omega | exact ⟨rfl, rfl, rfl⟩
  · refine ev_iload_2 (q := 14) dX0_slot_13 rfl ?_
    refine ev_if_lt (t := 35) (q := 17) dX0_slot_14 (by decide) rfl (by constructor <;> omega) (fun h_14 => ?_) (fun h_14 => ?_)
    · refine ev_null (q := 36) dX0_slot_35 rfl ?_
      refine ev_areturn dX0_slot_36 rfl ?_
      first | omega | exact ⟨rfl, rfl, rfl⟩
    · refine ev_iload_2 (q := 18) dX0_slot_17 rfl ?_
      refine ev_aload_0 (q := 19) dX0_slot_18 rfl ?_
      refine ev_getR (q := 22) dX0_slot_19 fl_RX0_11 (by first | assumption | rfl) (by rfl) rfl ?_
      refine ev_alenR (q := 23) dX0_slot_22 (by first | assumption | rfl) rfl ?_
      refine ev_icmp_ge (t := 35) (q := 26) dX0_slot_23 (by decide) rfl (by constructor <;> omega) (by constructor <;> omega) (fun h_23 => ?_) (fun h_23 => ?_)
      · refine ev_null (q := 36) dX0_slot_35 rfl ?_
        refine ev_areturn dX0_slot_36 rfl ?_
        first | omega | exact ⟨rfl, rfl, rfl⟩
      · refine ev_aload_0 (q := 27) dX0_slot_26 rfl ?_
        refine ev_getR (q := 30) dX0_slot_27 fl_RX0_11 (by first | assumption | rfl) (by rfl) rfl ?_
        refine ev_iload_2 (q := 31) dX0_slot_30 rfl ?_
        refine ev_aaload (q := 32) dX0_slot_31 (by first | assumption | rfl) (by omega) (by decide) hg rfl ?_
        refine ev_goto (q := 36) dX0_slot_32 (by decide) ?_
        refine ev_areturn dX0_slot_36 rfl ?_
        first | omega | exact ⟨rfl, rfl, rfl⟩
theorem cp_ne {M : ev_M} {a b n i : Nat} (h : i ≠ a) : cp M a b n i = M i := by
  funext c
  simp [cp, h]
theorem scM_o {M : ev_M} {s s2 i : Nat} (h : i < s + 1 ∨ s + 12 < i) : scM M s s2 i = M i := by
  unfold scM rcM tcM
  rw [cp_ne (by omega), cp_ne (by omega), up_ne (by omega), cp_ne (by omega), cp_ne (by omega), cp_ne (by omega), up_ne (by omega)]
set_option maxHeartbeats 1000000 in
theorem c_X0_size {l : Launch} {M : ev_M} : Cx l 0 kX0_size yX0_size S0 M [vr 14] (some (vi (M 14 2))) M := by
  refine Cx.of (by decide) rfl (by decide) (Nat.le_of_ble_eq_true rfl) ?_
  refine (show Ev _ none _ _ _ _ _ 0 [_] [] _ from ?_)
  refine ev_aload_0 (q := 1) dX0_size_0 rfl ?_
  refine ev_getI (q := 4) dX0_size_1 fl_RX0_18 (by first | assumption | rfl) (by rfl) rfl (fun h_1 => ?_)
  refine ev_ireturn dX0_size_4 rfl rfl (by constructor <;> omega) ?_
  refine ⟨?_, rfl, ?_⟩
  · first | rfl | (refine congrArg (fun z => some (Sum.inl z)) ?_; first | rfl | omega | (split <;> omega) | (simp [*]; done))
  · first | rfl | (simp [*]; done)
/-- the slot of the k-th state -/
def slo (M : ev_M) (k : Int) : Nat := 16 + 13 * ((M 14 1 + k) % 5).toNat
def recM (M : ev_M) : ev_M := if M 14 2 < 5 then up (scM M (slo M (M 14 2)) 1) 14 2 (M 14 2 + 1) else up (scM M (slo M (M 14 2)) 1) 14 1 ((M 14 1 + 1) % 5)
theorem slo_rng {M : ev_M} {k : Int} (ho : 0 ≤ M 14 1 ∧ M 14 1 < 5) (hk : 0 ≤ k) : 16 ≤ slo M k ∧ slo M k ≤ 68 := by unfold slo; omega
set_option maxHeartbeats 2000000 in
theorem c_X0_record {l : Launch} {M : ev_M} (ho : 0 ≤ M 14 1 ∧ M 14 1 < 5) (hk : 0 ≤ M 14 2 ∧ M 14 2 ≤ 5) : Cx l 4 kX0_record yX0_record S0 M [vr 14, vr 1] none (recM M) := by
  have hs : isSt (slo M (M 14 2)) := st_k _ (by omega)
  have hr := slo_rng (M := M) (k := M 14 2) ho hk.1
  have h14 : ∀ i, scM M (slo M (M 14 2)) 1 14 i = M 14 i := fun i => by rw [scM_o (by omega)]
  have hsl := c_X0_slot (l := l) (M := M) ho hk
  change Cx l 0 kX0_slot yX0_slot S0 M [vr 14, vi (M 14 2)] (some (vr (slo M (M 14 2)))) M at hsl
  unfold recM
  generalize slo M (M 14 2) = s at *
  have hs0 := hs.1
  refine Cx.of (by decide) rfl (by decide) (Nat.le_of_ble_eq_true rfl) ?_
  refine (show Ev _ none _ _ _ _ _ 0 [_, _, _] [] _ from ?_)
  refine ev_aload_0 (q := 1) dX0_record_0 rfl ?_
  refine ev_aload_0 (q := 2) dX0_record_1 rfl ?_
  refine ev_getI (q := 5) dX0_record_2 fl_RX0_18 (by first | assumption | rfl) (by rfl) rfl (fun h_2 => ?_)
  refine ev_callV1r (q := 8) dX0_record_5 vs_RX0_22 (by first | assumption | rfl) hsl (by decide) (Nat.le_of_ble_eq_true rfl) rfl ?_
  refine ev_astore_2 (q := 9) dX0_record_8 rfl (by decide) ?_
  refine ev_aload_2 (q := 10) dX0_record_9 rfl ?_
  refine ev_ifnull (q := 13) dX0_record_10 rfl ?_
  refine ev_aload_1 (q := 14) dX0_record_13 rfl ?_
  refine ev_ifnonnull (t := 18) dX0_record_14 (by decide) ?_
  refine ev_aload_2 (q := 19) dX0_record_18 rfl ?_
  refine ev_aload_1 (q := 20) dX0_record_19 rfl ?_
  refine ev_callV1v (q := 23) dX0_record_20 vs_RX0_26 (by first | assumption | rfl) (c_X4_copy hs st1) (by decide) (Nat.le_of_ble_eq_true rfl) rfl ?_
  refine ev_aload_0 (q := 24) dX0_record_23 rfl ?_
  refine ev_getI (q := 27) dX0_record_24 fl_RX0_18 (by first | assumption | rfl) (by rfl) rfl (fun h_24 => ?_)
  rw [h14] at h_24 ⊢
  refine ev_iconst (q := 28) dX0_record_27 rfl ?_
  refine ev_icmp_ge (t := 44) (q := 31) dX0_record_28 (by decide) rfl (by constructor <;> omega) (by constructor <;> omega) (fun h_28 => ?_) (fun h_28 => ?_)
  · refine ev_aload_0 (q := 45) dX0_record_44 rfl ?_
    refine ev_aload_0 (q := 46) dX0_record_45 rfl ?_
    refine ev_getI (q := 49) dX0_record_46 fl_RX0_30 (by first | assumption | rfl) (by rfl) rfl (fun h_46 => ?_)
    rw [h14] at h_46 ⊢
    refine ev_iconst (q := 50) dX0_record_49 rfl ?_
    refine ev_iadd (q := 51) dX0_record_50 rfl ?_
    refine ev_iconst (q := 52) dX0_record_51 rfl ?_
    refine ev_irem (q := 53) dX0_record_52 rfl ⟨by constructor <;> omega, by constructor <;> omega, by omega, by omega⟩ ?_
    refine ev_putI (q := 56) dX0_record_53 fl_RX0_30 (by first | assumption | rfl) (by rfl) rfl (by constructor <;> omega) ?_
    refine ev_return dX0_record_56 rfl ?_
    first | exact ⟨rfl, rfl, by rw [if_pos (by omega)]⟩ | exact ⟨rfl, rfl, by rw [if_neg (by omega)]⟩
  · refine ev_aload_0 (q := 32) dX0_record_31 rfl ?_
    refine ev_dup (q := 33) dX0_record_32 rfl ?_
    refine ev_getI (q := 36) dX0_record_33 fl_RX0_18 (by first | assumption | rfl) (by rfl) rfl (fun h_33 => ?_)
    rw [h14] at h_33 ⊢
    refine ev_iconst (q := 37) dX0_record_36 rfl ?_
    refine ev_iadd (q := 38) dX0_record_37 rfl ?_
    refine ev_putI (q := 41) dX0_record_38 fl_RX0_18 (by first | assumption | rfl) (by rfl) rfl (by constructor <;> omega) ?_
    refine ev_goto (q := 56) dX0_record_41 (by decide) ?_
    refine ev_return dX0_record_56 rfl ?_
    first | exact ⟨rfl, rfl, by rw [if_pos (by omega)]⟩ | exact ⟨rfl, rfl, by rw [if_neg (by omega)]⟩
def resM (M : ev_M) : ev_M := up (scM M 1 (slo M (M 14 2 - 1))) 14 2 (M 14 2 - 1)
set_option maxHeartbeats 2000000 in
theorem c_X0_restore {l : Launch} {M : ev_M} (ho : 0 ≤ M 14 1 ∧ M 14 1 < 5) (hk : 1 ≤ M 14 2 ∧ M 14 2 ≤ 5) : Cx l 4 kX0_restore yX0_restore S0 M [vr 14, vr 1] none (resM M) := by
  have hs : isSt (slo M (M 14 2 - 1)) := st_k _ (by omega)
  have h14 : ∀ i, scM M 1 (slo M (M 14 2 - 1)) 14 i = M 14 i := fun i => by rw [scM_o (by omega)]
  have hsl := c_X0_slot (l := l) (M := M) (k := M 14 2 - 1) ho (by omega)
  change Cx l 0 kX0_slot yX0_slot S0 M [vr 14, vi (M 14 2 - 1)] (some (vr (slo M (M 14 2 - 1)))) M at hsl
  unfold resM
  generalize slo M (M 14 2 - 1) = s at *
  have hs0 := hs.1
  refine Cx.of (by decide) rfl (by decide) (Nat.le_of_ble_eq_true rfl) ?_
  refine (show Ev _ none _ _ _ _ _ 0 [_, _, _] [] _ from ?_)
  refine ev_aload_0 (q := 1) dX0_restore_0 rfl ?_
  refine ev_aload_0 (q := 2) dX0_restore_1 rfl ?_
  refine ev_getI (q := 5) dX0_restore_2 fl_RX0_18 (by first | assumption | rfl) (by rfl) rfl (fun h_2 => ?_)
  refine ev_iconst (q := 6) dX0_restore_5 rfl ?_
  refine ev_isub (q := 7) dX0_restore_6 rfl ?_
  refine ev_callV1r (q := 10) dX0_restore_7 vs_RX0_22 (by first | assumption | rfl) hsl (by decide) (Nat.le_of_ble_eq_true rfl) rfl ?_
  refine ev_astore_2 (q := 11) dX0_restore_10 rfl (by decide) ?_
  refine ev_aload_2 (q := 12) dX0_restore_11 rfl ?_
  refine ev_ifnull (q := 15) dX0_restore_12 rfl ?_
  refine ev_aload_1 (q := 16) dX0_restore_15 rfl ?_
  refine ev_ifnonnull (t := 20) dX0_restore_16 (by decide) ?_
  refine ev_aload_1 (q := 21) dX0_restore_20 rfl ?_
  refine ev_aload_2 (q := 22) dX0_restore_21 rfl ?_
  refine ev_callV1v (q := 25) dX0_restore_22 vs_RX0_26 (by first | assumption | rfl) (c_X4_copy st1 hs) (by decide) (Nat.le_of_ble_eq_true rfl) rfl ?_
  refine ev_aload_0 (q := 26) dX0_restore_25 rfl ?_
  refine ev_dup (q := 27) dX0_restore_26 rfl ?_
  refine ev_getI (q := 30) dX0_restore_27 fl_RX0_18 (by first | assumption | rfl) (by rfl) rfl (fun h_27 => ?_)
  rw [h14] at h_27 ⊢
  refine ev_iconst (q := 31) dX0_restore_30 rfl ?_
  refine ev_isub (q := 32) dX0_restore_31 rfl ?_
  refine ev_putI (q := 35) dX0_restore_32 fl_RX0_18 (by first | assumption | rfl) (by rfl) rfl (by constructor <;> omega) ?_
  refine ev_return dX0_restore_35 rfl ?_
  exact ⟨rfl, rfl, rfl⟩
set_option maxHeartbeats 1000000 in
theorem c_X1_spoil {l : Launch} {M : ev_M} : Cx l 0 kX1_spoil yX1_spoil S0 M [vr 81] none (up M 81 0 0) := by
  refine Cx.of (by decide) rfl (by decide) (Nat.le_of_ble_eq_true rfl) ?_
  refine (show Ev _ none _ _ _ _ _ 0 [_] [] _ from ?_)
  refine ev_aload_0 (q := 1) dX1_spoil_0 rfl ?_
  refine ev_iconst (q := 2) dX1_spoil_1 rfl ?_
  refine ev_putZ (q := 5) dX1_spoil_2 fl_RX1_32 (by first | assumption | rfl) (by rfl) rfl (by first | exact Or.inl rfl | exact Or.inr rfl | omega) ?_
  refine ev_return dX1_spoil_5 rfl ?_
  refine ⟨?_, rfl, ?_⟩
  · first | rfl | (refine congrArg (fun z => some (Sum.inl z)) ?_; first | rfl | omega | (split <;> omega) | (simp [*]; done))
  · first | rfl | (simp [*]; done)
def begM (M : ev_M) : ev_M := up (recM M) 81 0 0
set_option maxHeartbeats 1000000 in
theorem c_X7_beginChange {l : Launch} {M : ev_M} (ho : 0 ≤ M 14 1 ∧ M 14 1 < 5) (hk : 0 ≤ M 14 2 ∧ M 14 2 ≤ 5) : Cx l 5 kX7_beginChange yX7_beginChange S0 M [vr 0] none (begM M) := by
  refine Cx.of (by decide) rfl (by decide) (Nat.le_of_ble_eq_true rfl) ?_
  refine (show Ev _ none _ _ _ _ _ 0 [_] [] _ from ?_)
  refine ev_aload_0 (q := 1) dX7_beginChange_0 rfl ?_
  refine ev_getR (q := 4) dX7_beginChange_1 fl_RX7_19 (by first | assumption | rfl) (by rfl) rfl ?_
  refine ev_aload_0 (q := 5) dX7_beginChange_4 rfl ?_
  refine ev_getR (q := 8) dX7_beginChange_5 fl_RX7_10 (by first | assumption | rfl) (by rfl) rfl ?_
  refine ev_callV1v (q := 11) dX7_beginChange_8 vs_RX7_200 (by first | assumption | rfl) (c_X0_record ho hk) (by decide) (Nat.le_of_ble_eq_true rfl) rfl ?_
  refine ev_aload_0 (q := 12) dX7_beginChange_11 rfl ?_
  refine ev_getR (q := 15) dX7_beginChange_12 fl_RX7_26 (by first | assumption | rfl) (by rfl) rfl ?_
  refine ev_callV0v (q := 18) dX7_beginChange_15 vs_RX7_120 (by first | assumption | rfl) c_X1_spoil (by decide) (Nat.le_of_ble_eq_true rfl) rfl ?_
  refine ev_return dX7_beginChange_18 rfl ?_
  exact ⟨rfl, rfl, rfl⟩

