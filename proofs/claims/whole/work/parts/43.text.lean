def TxtOK (M : ev_M) : Prop := (0 ≤ M 92 1 ∧ M 92 1 ≤ 80) ∧ ∀ k : Nat, (k : Int) < M 92 1 → 32 ≤ M 94 k ∧ M 94 k ≤ 126
/-- what stands when the class may be called -/
def IC (M : ev_M) : Prop := Wf (cV M 1) ∧ (0 ≤ M 14 1 ∧ M 14 1 < 5) ∧ (0 ≤ M 14 2 ∧ M 14 2 ≤ 5) ∧ (∀ k : Nat, (k : Int) < M 14 2 → Wf (cV M (slo M k))) ∧ TxtOK M ∧ (M 81 0 = 0 ∨ M 81 0 = 1) ∧ (M 81 0 = 1 → OutOK (cV M 1) M)
def fnP (t : Nat → Int) (len el : Int) : PS := trS len (demS t len 125 (bdy t len 81 (demS t len 123 (hdP t len el))))
def fltV (t : Nat → Int) (len el : Int) : Int := if pwr (fnP t len el) = true then pat (fnP t len el) else pbd (fnP t len el)
def ParR (M : ev_M) (el : Int) (M2 : ev_M) : Prop := RC M2 (fnP (M 94) (M 92 1) el) ∧ HdR (M 94) (M 92 1) el M2 ∧ M2 92 1 = M 92 1 ∧ ∀ i, i ≠ 92 → i ≠ 95 → i ≠ 97 → i ≠ 99 → M2 i = M i
set_option maxHeartbeats 2000000 in
theorem c_X5_parse {l : Launch} {M : ev_M} {el : Int} (hel : 1 ≤ el ∧ el ≤ 16) (h : TxtOK M) : Ri l 5 kX5_parse yX5_parse S0 M [vr 92, vi el] (fun x M2 => x = fltV (M 94) (M 92 1) el ∧ ParR M el M2) := by
  obtain ⟨h1, h2⟩ := h
  have hB : RB (up (up (up (up M 92 3 0) 92 4 (-1)) 92 5 (-1)) 95 0 0) (M 94) (M 92 1) (up (up (up (up M 92 3 0) 92 4 (-1)) 92 5 (-1)) 95 0 0) (wf P0 fg) := by
    have e94 : (up (up (up (up M 92 3 0) 92 4 (-1)) 92 5 (-1)) 95 0 0) 94 = M 94 := by rw [up_ne (by decide), up_ne (by decide), up_ne (by decide), up_ne (by decide)]
    have e1 : (up (up (up (up M 92 3 0) 92 4 (-1)) 92 5 (-1)) 95 0 0) 92 1 = M 92 1 := by simp [up_at]
    have e3 : (up (up (up (up M 92 3 0) 92 4 (-1)) 92 5 (-1)) 95 0 0) 92 3 = 0 := by simp [up_at]
    have e4 : (up (up (up (up M 92 3 0) 92 4 (-1)) 92 5 (-1)) 95 0 0) 92 4 = -1 := by simp [up_at]
    have e5 : (up (up (up (up M 92 3 0) 92 4 (-1)) 92 5 (-1)) 95 0 0) 92 5 = -1 := by simp [up_at]
    refine ⟨⟨e3, ?_, by rw [e1]; exact h1, fun q => (by cases q), fun _ => ⟨e4, e5, fun z => (by cases z)⟩, ?_, by rw [e5]; decide, by decide⟩, e94, e1, TFr.rf⟩
    · rw [e1]; exact ⟨Int.le_refl _, h1.1⟩
    · rw [e1, e94]; exact h2
  refine Ri.of (by decide) rfl (by decide) (Nat.le_of_ble_eq_true rfl) ?_
  refine (show Ev _ none _ _ _ _ _ 0 [_, _] [] _ from ?_)
  refine ev_aload_0 (q := 1) dX5_parse_0 rfl ?_
  refine ev_iconst (q := 2) dX5_parse_1 rfl ?_
  refine ev_putI (q := 5) dX5_parse_2 fl_RX5_35 (by first | assumption | rfl) (by rfl) rfl (by constructor <;> omega) ?_
  refine ev_aload_0 (q := 6) dX5_parse_5 rfl ?_
  refine ev_iconst (q := 7) dX5_parse_6 rfl ?_
  refine ev_putI (q := 10) dX5_parse_7 fl_RX5_38 (by first | assumption | rfl) (by rfl) rfl (by constructor <;> omega) ?_
  refine ev_aload_0 (q := 11) dX5_parse_10 rfl ?_
  refine ev_iconst (q := 12) dX5_parse_11 rfl ?_
  refine ev_putI (q := 15) dX5_parse_12 fl_RX5_41 (by first | assumption | rfl) (by rfl) rfl (by constructor <;> omega) ?_
  refine ev_aload_0 (q := 16) dX5_parse_15 rfl ?_
  refine ev_getR (q := 19) dX5_parse_16 fl_RX5_23 (by first | assumption | rfl) (by rfl) rfl ?_
  refine ev_callV0v (q := 22) dX5_parse_19 vs_RX5_44 (by first | assumption | rfl) c_X3_clear (by decide) (Nat.le_of_ble_eq_true rfl) rfl ?_
  refine ev_aload_0 (q := 23) dX5_parse_22 rfl ?_
  refine ev_iload_1 (q := 24) dX5_parse_23 rfl ?_
  refine ev_callV1vR (q := 27) dX5_parse_24 vs_RX5_47 (by first | assumption | rfl) (n_parseHead hel hB (by simp [up_at])) (by decide) (Nat.le_of_ble_eq_true rfl) rfl (fun M_24 hq_24 => ?_)
  obtain ⟨a1, a2, a3, a4, a5⟩ := hq_24
  refine ev_aload_0 (q := 28) dX5_parse_27 rfl ?_
  refine ev_callV0vR (q := 31) dX5_parse_28 vs_RX5_50 (by first | assumption | rfl) (n_parseBody (M0 := M_24) (⟨a1, a3, a4, TFr.rf⟩ : RB M_24 (M 94) (M 92 1) M_24 (hdP (M 94) (M 92 1) el)) (by rw [hd_sd])) (by decide) (Nat.le_of_ble_eq_true rfl) rfl (fun M_28 hq_28 => ?_)
  change RB M_24 (M 94) (M 92 1) M_28 (fnP (M 94) (M 92 1) el) at hq_28
  obtain ⟨b1, b2, b3, b4⟩ := hq_28
  obtain ⟨c1, c2, c3, c4, c5, c6, c7⟩ := id b1
  refine ev_aload_0 (q := 32) dX5_parse_31 rfl ?_
  refine ev_getI (q := 35) dX5_parse_32 fl_RX5_38 (by first | assumption | rfl) (by rfl) rfl (fun h_32 => ?_)
  refine ev_aload_0 (q := 36) dX5_parse_35 rfl ?_
  refine ev_getI (q := 39) dX5_parse_36 fl_RX5_41 (by first | assumption | rfl) (by rfl) rfl (fun h_36 => ?_)
  refine ev_callS2i (q := 42) dX5_parse_39 ss_RX5_53 (c_X7_foundOr (by constructor <;> omega) (by constructor <;> omega)) (by decide) (Nat.le_of_ble_eq_true rfl) rfl (fun h_39 => ?_)
  refine ev_ireturn dX5_parse_42 rfl rfl (by constructor <;> omega) ?_
  refine ⟨_, rfl, rfl, ?_, b1, ?_, b3, fun i i1 i2 i3 i4 => ?_⟩
  · unfold fltV
    cases hw : pwr (fnP (M 94) (M 92 1) el) with
    | true =>
      have := c4 hw
      rw [if_pos rfl, if_neg (by omega)]; exact this
    | false =>
      have := c5 hw
      rw [if_pos this.1, if_neg (by decide : ¬ (false = true))]; exact this.2.1
  · obtain ⟨g1, g2, g3, g4, g5, g6, g7⟩ := a2
    have e97 := b4.1 97 (by decide) (by decide)
    have e95 := b4.1 95 (by decide) (by decide)
    exact ⟨by rw [e97]; exact g1, by rw [e97]; exact g2, by rw [e97]; exact g3, by rw [e97]; exact g4, by rw [e97]; exact g5, by rw [e97]; exact g6, by rw [e95]; exact g7⟩
  · rw [b4.1 i i1 i4, a5 i i1 i2 i3 i4, up_ne i2, up_ne i1, up_ne i1, up_ne i1]
set_option maxHeartbeats 1000000 in
theorem c_X5_length {l : Launch} {M : ev_M} : Cx l 0 kX5_length yX5_length S0 M [vr 92] (some (vi (M 92 1))) M := by
  refine Cx.of (by decide) rfl (by decide) (Nat.le_of_ble_eq_true rfl) ?_
  refine (show Ev _ none _ _ _ _ _ 0 [_] [] _ from ?_)
  refine ev_aload_0 (q := 1) dX5_length_0 rfl ?_
  refine ev_getI (q := 4) dX5_length_1 fl_RX5_27 (by first | assumption | rfl) (by rfl) rfl (fun h_1 => ?_)
  refine ev_ireturn dX5_length_4 rfl rfl (by constructor <;> omega) ?_
  refine ⟨?_, rfl, ?_⟩
  · first | rfl | (refine congrArg (fun z => some (Sum.inl z)) ?_; first | rfl | omega | (split <;> omega) | (simp [*]; done))
  · first | rfl | (simp [*]; done)
set_option maxHeartbeats 1000000 in
theorem c_X5_draft {l : Launch} {M : ev_M} : Cx l 0 kX5_draft yX5_draft S0 M [vr 92] (some (vr 95)) M := by
  refine Cx.of (by decide) rfl (by decide) (Nat.le_of_ble_eq_true rfl) ?_
  refine (show Ev _ none _ _ _ _ _ 0 [_] [] _ from ?_)
  refine ev_aload_0 (q := 1) dX5_draft_0 rfl ?_
  refine ev_getR (q := 4) dX5_draft_1 fl_RX5_23 (by first | assumption | rfl) (by rfl) rfl ?_
  refine ev_areturn dX5_draft_4 rfl ?_
  exact ⟨rfl, rfl, rfl⟩
set_option maxHeartbeats 1000000 in
theorem c_X5_append {l : Launch} {M : ev_M} {c : Int} (hc : inR c) (hl : 0 ≤ M 92 1 ∧ M 92 1 < 80) : Cx l 1 kX5_append yX5_append S0 M [vr 92, vi c] (some (vi (M 92 1 + 1))) (up (up M 94 (M 92 1).toNat c) 92 1 (M 92 1 + 1)) := by
  have e1 : (up M 94 (M 92 1).toNat c) 92 1 = M 92 1 := by rw [up_ne (by decide)]
  refine Cx.of (by decide) rfl (by decide) (Nat.le_of_ble_eq_true rfl) ?_
  refine (show Ev _ none _ _ _ _ _ 0 [_, _] [] _ from ?_)
  refine ev_aload_0 (q := 1) dX5_append_0 rfl ?_
  refine ev_getR (q := 4) dX5_append_1 fl_RX5_14 (by first | assumption | rfl) (by rfl) rfl ?_
  refine ev_aload_0 (q := 5) dX5_append_4 rfl ?_
  refine ev_getI (q := 8) dX5_append_5 fl_RX5_27 (by first | assumption | rfl) (by rfl) rfl (fun h_5 => ?_)
  refine ev_iload_1 (q := 9) dX5_append_8 rfl ?_
  refine ev_callV2v (q := 12) dX5_append_9 vs_RX5_31 (by first | assumption | rfl) (c_X2_putR (by first | assumption | rfl) (by first | assumption | rfl) (by first | decide | omega) (by omega) (by constructor <;> omega)) (by decide) (Nat.le_of_ble_eq_true rfl) rfl ?_
  refine ev_aload_0 (q := 13) dX5_append_12 rfl ?_
  refine ev_dup (q := 14) dX5_append_13 rfl ?_
  refine ev_getI (q := 17) dX5_append_14 fl_RX5_27 (by first | assumption | rfl) (by rfl) rfl (fun h_14 => ?_)
  rw [e1] at h_14 ⊢
  refine ev_iconst (q := 18) dX5_append_17 rfl ?_
  refine ev_iadd (q := 19) dX5_append_18 rfl ?_
  refine ev_putI (q := 22) dX5_append_19 fl_RX5_27 (by first | assumption | rfl) (by rfl) rfl (by constructor <;> omega) ?_
  refine ev_aload_0 (q := 23) dX5_append_22 rfl ?_
  refine ev_getI (q := 26) dX5_append_23 fl_RX5_27 (by first | assumption | rfl) (by rfl) rfl (fun h_23 => ?_)
  refine ev_ireturn dX5_append_26 rfl rfl (by constructor <;> omega) ?_
  exact ⟨rfl, rfl, rfl⟩
set_option maxHeartbeats 1000000 in
theorem c_X5_empty {l : Launch} {M : ev_M} : Cx l 0 kX5_empty yX5_empty S0 M [vr 92] (some (vi (M 92 1))) (up M 92 1 0) := by
  refine Cx.of (by decide) rfl (by decide) (Nat.le_of_ble_eq_true rfl) ?_
  refine (show Ev _ none _ _ _ _ _ 0 [_, _] [] _ from ?_)
  refine ev_aload_0 (q := 1) dX5_empty_0 rfl ?_
  refine ev_getI (q := 4) dX5_empty_1 fl_RX5_27 (by first | assumption | rfl) (by rfl) rfl (fun h_1 => ?_)
  refine ev_istore_1 (q := 5) dX5_empty_4 rfl (by decide) ?_
  refine ev_aload_0 (q := 6) dX5_empty_5 rfl ?_
  refine ev_iconst (q := 7) dX5_empty_6 rfl ?_
  refine ev_putI (q := 10) dX5_empty_7 fl_RX5_27 (by first | assumption | rfl) (by rfl) rfl (by constructor <;> omega) ?_
  refine ev_iload_1 (q := 11) dX5_empty_10 rfl ?_
  refine ev_ireturn dX5_empty_11 rfl rfl (by constructor <;> omega) ?_
  refine ⟨?_, rfl, ?_⟩
  · first | rfl | (refine congrArg (fun z => some (Sum.inl z)) ?_; first | rfl | omega | (split <;> omega) | (simp [*]; done))
  · first | rfl | (simp [*]; done)
set_option maxHeartbeats 1000000 in
theorem p_type {l : Launch} {M : ev_M} {c : Int} (hc : inR c) (h : IC M) : Ri l 2 kX7_type yX7_type S0 M [vr 0, vi c] (fun x M2 => (¬ (32 ≤ c ∧ c ≤ 126) ∧ x = -11 ∧ M2 = M) ∨ ((32 ≤ c ∧ c ≤ 126) ∧ M 92 1 ≥ 80 ∧ x = -13 ∧ M2 = M) ∨ ((32 ≤ c ∧ c ≤ 126) ∧ M 92 1 < 80 ∧ x = M 92 1 + 1 ∧ M2 = up (up M 94 (M 92 1).toNat c) 92 1 (M 92 1 + 1))) := by
  have hl := h.2.2.2.2.1.1
  refine Ri.of (by decide) rfl (by decide) (Nat.le_of_ble_eq_true rfl) ?_
  refine (show Ev _ none _ _ _ _ _ 0 [_, _] [] _ from ?_)
  refine ev_iload_1 (q := 1) dX7_type_0 rfl ?_
  refine ev_bipush (q := 3) dX7_type_1 rfl (by decide) ?_
  refine ev_bipush (q := 5) dX7_type_3 rfl (by decide) ?_
  refine ev_callS3i (q := 8) dX7_type_5 ss_RX7_47 (c_X7_isWithin (by constructor <;> omega) (by constructor <;> omega) (by constructor <;> omega)) (by decide) (Nat.le_of_ble_eq_true rfl) rfl (fun h_5 => ?_)
  refine ev_b_ne (t := 14) (q := 11) dX7_type_8 (by decide) rfl (fun h_8 => ?_) (fun h_8 => ?_)
  · refine ev_aload_0 (q := 15) dX7_type_14 rfl ?_
    refine ev_getR (q := 18) dX7_type_15 fl_RX7_33 (by first | assumption | rfl) (by rfl) rfl ?_
    refine ev_callV0i (q := 21) dX7_type_18 vs_RX7_113 (by first | assumption | rfl) c_X5_length (by decide) (Nat.le_of_ble_eq_true rfl) rfl (fun h_18 => ?_)
    refine ev_bipush (q := 23) dX7_type_21 rfl (by decide) ?_
    refine ev_icmp_lt (t := 29) (q := 26) dX7_type_23 (by decide) rfl (by constructor <;> omega) (by constructor <;> omega) (fun h_23 => ?_) (fun h_23 => ?_)
    · refine ev_aload_0 (q := 30) dX7_type_29 rfl ?_
      refine ev_getR (q := 33) dX7_type_30 fl_RX7_33 (by first | assumption | rfl) (by rfl) rfl ?_
      refine ev_iload_1 (q := 34) dX7_type_33 rfl ?_
      refine ev_callV1i (q := 37) dX7_type_34 vs_RX7_184 (by first | assumption | rfl) (c_X5_append (by constructor <;> omega) (by omega)) (by decide) (Nat.le_of_ble_eq_true rfl) rfl (fun h_34 => ?_)
      refine ev_ireturn dX7_type_37 rfl rfl (by constructor <;> omega) ?_
      exact ⟨_, rfl, rfl, Or.inr (Or.inr ⟨h_8, by omega, rfl, rfl⟩)⟩
    · refine ev_bipush (q := 28) dX7_type_26 rfl (by decide) ?_
      refine ev_ireturn dX7_type_28 rfl rfl (by constructor <;> omega) ?_
      exact ⟨_, rfl, rfl, Or.inr (Or.inl ⟨h_8, by omega, rfl, rfl⟩)⟩
  · refine ev_bipush (q := 13) dX7_type_11 rfl (by decide) ?_
    refine ev_ireturn dX7_type_13 rfl rfl (by constructor <;> omega) ?_
    exact ⟨_, rfl, rfl, Or.inl ⟨h_8, rfl, rfl⟩⟩
set_option maxHeartbeats 1000000 in
theorem p_clearText {l : Launch} {M : ev_M} : Ri l 1 kX7_clearText yX7_clearText S0 M [vr 0] (fun x M2 => x = M 92 1 ∧ M2 = up M 92 1 0) := by
  refine Ri.of (by decide) rfl (by decide) (Nat.le_of_ble_eq_true rfl) ?_
  refine (show Ev _ none _ _ _ _ _ 0 [_] [] _ from ?_)
  refine ev_aload_0 (q := 1) dX7_clearText_0 rfl ?_
  refine ev_getR (q := 4) dX7_clearText_1 fl_RX7_33 (by first | assumption | rfl) (by rfl) rfl ?_
  refine ev_callV0i (q := 7) dX7_clearText_4 vs_RX7_186 (by first | assumption | rfl) c_X5_empty (by decide) (Nat.le_of_ble_eq_true rfl) rfl (fun h_4 => ?_)
  refine ev_ireturn dX7_clearText_7 rfl rfl (by constructor <;> omega) ?_
  exact ⟨_, rfl, rfl, rfl, rfl⟩
set_option maxHeartbeats 1000000 in
theorem p_fault {l : Launch} {M : ev_M} (h : IC M) : Ri l 6 kX7_fault yX7_fault S0 M [vr 0] (fun x M2 => x = (if fltV (M 94) (M 92 1) (M 2 0) = -1 then -14 else fltV (M 94) (M 92 1) (M 2 0)) ∧ ParR M (M 2 0) M2) := by
  have hn : 1 ≤ M 2 0 ∧ M 2 0 ≤ 16 := h.1.1
  refine Ri.of (by decide) rfl (by decide) (Nat.le_of_ble_eq_true rfl) ?_
  refine (show Ev _ none _ _ _ _ _ 0 [_] [] _ from ?_)
  refine ev_aload_0 (q := 1) dX7_fault_0 rfl ?_
  refine ev_getR (q := 4) dX7_fault_1 fl_RX7_33 (by first | assumption | rfl) (by rfl) rfl ?_
  refine ev_aload_0 (q := 5) dX7_fault_4 rfl ?_
  refine ev_getR (q := 8) dX7_fault_5 fl_RX7_10 (by first | assumption | rfl) (by rfl) rfl ?_
  refine ev_getR (q := 11) dX7_fault_8 fl_RX7_37 (by first | assumption | rfl) (by rfl) rfl ?_
  refine ev_callV0i (q := 14) dX7_fault_11 vs_RX7_51 (by first | assumption | rfl) c_X6_size (by decide) (Nat.le_of_ble_eq_true rfl) rfl (fun h_11 => ?_)
  refine ev_callV1iR (q := 17) dX7_fault_14 vs_RX7_189 (by first | assumption | rfl) (c_X5_parse hn h.2.2.2.2.1) (by decide) (Nat.le_of_ble_eq_true rfl) rfl (fun x_14 M_14 hq_14 h_14 => ?_)
  obtain ⟨a1, a2⟩ := hq_14
  refine ev_bipush (q := 19) dX7_fault_17 rfl (by decide) ?_
  refine ev_callS2i (q := 22) dX7_fault_19 ss_RX7_159 (c_X7_foundOr (by constructor <;> omega) (by constructor <;> omega)) (by decide) (Nat.le_of_ble_eq_true rfl) rfl (fun h_19 => ?_)
  refine ev_ireturn dX7_fault_22 rfl rfl (by constructor <;> omega) ?_
  exact ⟨_, rfl, rfl, by rw [a1], a2⟩

