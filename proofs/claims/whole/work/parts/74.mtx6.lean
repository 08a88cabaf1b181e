section Mz
variable {l : Launch} {M : ev_M} {t : Nat → Int} {len el : Int} {v : Vw}
/-- the model's text is t, as far as it goes -/
def TxM (t : Nat → Int) (len : Int) (M : ev_M) : Prop := M 100 4 = len ∧ (0 ≤ len ∧ len ≤ 80) ∧ ∀ k : Nat, (k : Int) < len → M 103 k = t k ∧ 32 ≤ t k ∧ t k ≤ 126
def ini (M : ev_M) : ev_M := up (up (up M 100 5 0) 100 6 (-1)) 100 7 0
theorem ini_MP {M2 : ev_M} (h : TxM t len M) (h0 : ∀ i, i ≠ 105 → M2 i = ini M i) (hz : ∀ k, k < 48 → M2 105 k = 0) : MP t len M2 P0 := by
  obtain ⟨h1, h2, h3⟩ := h
  refine ⟨?_, ?_, ?_, hz, ⟨Int.le_refl _, h2.1⟩, h2, ?_, ?_, by decide, by decide⟩
  · rw [h0 100 (by decide)]; rfl
  · rw [h0 100 (by decide)]; rfl
  · rw [h0 100 (by decide)]; rfl
  · rw [h0 100 (by decide)]; exact h1
  · intro k hk; rw [h0 103 (by decide)]; exact h3 k hk
theorem ini_Fr {M2 : ev_M} (h0 : ∀ i, i ≠ 105 → M2 i = ini M i) : FrW M M2 := ⟨fun i a b c => by rw [h0 i c]; unfold ini; rw [up_ne a, up_ne a, up_ne a], by rw [h0 100 (by decide)]; rfl, by rw [h0 100 (by decide)]; rfl⟩
set_option maxHeartbeats 2000000 in
theorem t_f36 {w : Option ev_V} {M2 : ev_M} (h : MP t len M2 P0) (hel : M2 101 0 = el ∧ 1 ≤ el ∧ el ≤ 16) (hF : FrW M M2) : Ev l none 3 kX8_faulty (0, 0) S0 M2 36 [some (vr 100), w] [] (FQ t len el M) := by
  have hel1 : ∀ M3, MF M2 M3 → M3 101 0 = el ∧ 1 ≤ el ∧ el ≤ 16 := fun M3 hm => by
    rw [hm.1 101 (by decide) (by decide)]
    exact hel
  refine ev_aload_0 (q := 37) dX8_faulty_36 rfl ?_
  refine ev_getR (q := 40) dX8_faulty_37 fl_RX8_20 (by first | assumption | rfl) (by rfl) rfl ?_
  refine ev_iconst (q := 41) dX8_faulty_40 rfl ?_
  refine ev_aload_0 (q := 42) dX8_faulty_41 rfl ?_
  refine ev_bipush (q := 44) dX8_faulty_42 rfl (by decide) ?_
  refine ev_callV1iR (q := 47) dX8_faulty_44 vs_RX8_145 (by first | assumption | rfl) (q_passes (M0 := M2) ⟨h, MF.rf⟩ (by decide)) (by decide) (Nat.le_of_ble_eq_true rfl) rfl (fun x_44 M_44 hq_44 h_44 => ?_)
  obtain ⟨e1, e2⟩ := hq_44
  refine ev_if_eq (t := 60) (q := 50) dX8_faulty_47 (by decide) rfl (by constructor <;> omega) (fun h_47 => ?_) (fun h_47 => ?_)
  · refine ev_iconst (q := 61) dX8_faulty_60 rfl ?_
    first
    | (have hx : ¬ x_44 = 0 := h_47
       have e := part_t (o := -1) (M1 := M) e1 hx hq_54
       exact t_f61 e.2.1 ⟨e.1, h_54⟩ (hel1 _ e.2.2) (hF.tr e.2.2))
    | (have hx : x_44 = 0 := h_47
       have e := part_f (d := 1) (m := 5) (o := -1) e1 hx e2
       exact t_f61 e.2.1 ⟨e.1, by constructor <;> omega⟩ (hel1 _ e.2.2) (hF.tr e.2.2))
  · refine ev_aload_0 (q := 51) dX8_faulty_50 rfl ?_
    refine ev_iconst (q := 52) dX8_faulty_51 rfl ?_
    refine ev_iconst (q := 53) dX8_faulty_52 rfl ?_
    refine ev_iconst (q := 54) dX8_faulty_53 rfl ?_
    refine ev_callV3iR (q := 57) dX8_faulty_54 vs_RX8_152 (by first | assumption | rfl) (q_number (d := 1) rfl e2 (by decide) (by constructor <;> omega) (by constructor <;> omega)) (by decide) (Nat.le_of_ble_eq_true rfl) rfl (fun x_54 M_54 hq_54 h_54 => ?_)
    refine ev_goto (q := 61) dX8_faulty_57 (by decide) ?_
    first
    | (have hx : ¬ x_44 = 0 := h_47
       have e := part_t (o := -1) (M1 := M) e1 hx hq_54
       exact t_f61 e.2.1 ⟨e.1, h_54⟩ (hel1 _ e.2.2) (hF.tr e.2.2))
    | (have hx : x_44 = 0 := h_47
       have e := part_f (d := 1) (m := 5) (o := -1) e1 hx e2
       exact t_f61 e.2.1 ⟨e.1, by constructor <;> omega⟩ (hel1 _ e.2.2) (hF.tr e.2.2))
set_option maxHeartbeats 2000000 in
theorem lp_f17 (h : TxM t len M) (hel : M 101 0 = el ∧ 1 ≤ el ∧ el ≤ 16) : ∀ (n j : Nat) (x : Int) (M2 : ev_M), x = j → j + n = 48 → (∀ i, i ≠ 105 → M2 i = ini M i) → (∀ k, k < j → M2 105 k = 0) → Ev l none 3 kX8_faulty (0, 0) S0 M2 17 [some (vr 100), some (vi x)] [] (FQ t len el M) := by
  intro n
  induction n with
  | zero =>
    intro j x M2 hx hn h0 hz
    refine ev_iload_1 (q := 18) dX8_faulty_17 rfl ?_
    refine ev_bipush (q := 20) dX8_faulty_18 rfl (by decide) ?_
    refine ev_icmp_ge (t := 36) (q := 23) dX8_faulty_20 (by decide) rfl (by constructor <;> omega) (by constructor <;> omega) (fun h_20 => ?_) (fun h_20 => ?_)
    · exact t_f36 (ini_MP h h0 (fun k hk => hz k (by omega))) (by rw [h0 101 (by decide)]; exact hel) (ini_Fr h0)
    · omega
  | succ n ih =>
    intro j x M2 hx hn h0 hz
    subst hx
    refine ev_iload_1 (q := 18) dX8_faulty_17 rfl ?_
    refine ev_bipush (q := 20) dX8_faulty_18 rfl (by decide) ?_
    refine ev_icmp_ge (t := 36) (q := 23) dX8_faulty_20 (by decide) rfl (by constructor <;> omega) (by constructor <;> omega) (fun h_20 => ?_) (fun h_20 => ?_)
    · omega
    · refine ev_aload_0 (q := 24) dX8_faulty_23 rfl ?_
      refine ev_getR (q := 27) dX8_faulty_24 fl_RX8_23 (by first | assumption | rfl) (by rfl) rfl ?_
      refine ev_iload_1 (q := 28) dX8_faulty_27 rfl ?_
      refine ev_iconst (q := 29) dX8_faulty_28 rfl ?_
      refine ev_iastore (q := 30) dX8_faulty_29 (by first | assumption | rfl) (by omega) (by first | decide | omega) (by constructor <;> omega) rfl ?_
      refine ev_iinc_1 (q := 33) dX8_faulty_30 rfl (by decide) ?_
      refine ev_goto (q := 17) dX8_faulty_33 (by decide) ?_
      refine ih (j + 1) _ _ rfl (by omega) (fun i hi => by rw [up_ne hi]; exact h0 i hi) (fun k hk => ?_)
      rw [Int.toNat_natCast]
      by_cases q : k = j
      · rw [q]; exact up_s
      · rw [up_o q]; exact hz k (by omega)
set_option maxHeartbeats 2000000 in
theorem c_X8_faulty (h : TxM t len M) (hel : M 101 0 = el ∧ 1 ≤ el ∧ el ≤ 16) : Ct l 3 kX8_faulty yX8_faulty (0, 0) S0 M [vr 100] (FQ t len el M) := by
  refine Ct.of (by decide) rfl (by decide) (Nat.le_of_ble_eq_true rfl) ?_
  refine (show Ev _ none _ _ _ _ _ 0 [_, _] [] _ from ?_)
  refine ev_aload_0 (q := 1) dX8_faulty_0 rfl ?_
  refine ev_iconst (q := 2) dX8_faulty_1 rfl ?_
  refine ev_putI (q := 5) dX8_faulty_2 fl_RX8_142 (by first | assumption | rfl) (by rfl) rfl (by constructor <;> omega) ?_
  refine ev_aload_0 (q := 6) dX8_faulty_5 rfl ?_
  refine ev_iconst (q := 7) dX8_faulty_6 rfl ?_
  refine ev_putI (q := 10) dX8_faulty_7 fl_RX8_149 (by first | assumption | rfl) (by rfl) rfl (by constructor <;> omega) ?_
  refine ev_aload_0 (q := 11) dX8_faulty_10 rfl ?_
  refine ev_iconst (q := 12) dX8_faulty_11 rfl ?_
  refine ev_putZ (q := 15) dX8_faulty_12 fl_RX8_138 (by first | assumption | rfl) (by rfl) rfl (by first | exact Or.inl rfl | exact Or.inr rfl | omega) ?_
  refine ev_iconst (q := 16) dX8_faulty_15 rfl ?_
  refine ev_istore_1 (q := 17) dX8_faulty_16 rfl (by decide) ?_
  exact lp_f17 h hel 48 0 _ _ rfl rfl (fun _ _ => rfl) (fun k hk => by omega)
set_option maxHeartbeats 2000000 in
theorem m_fault (h : TxM t len M) (hel : M 101 0 = el ∧ 1 ≤ el ∧ el ≤ 16) : Ri l 4 kX8_fault yX8_fault S0 M [vr 100] (fun x M2 => x = (if fltV t len el = -1 then -14 else fltV t len el) ∧ FrW M M2) := by
  refine Ri.of (by decide) rfl (by decide) (Nat.le_of_ble_eq_true rfl) ?_
  refine (show Ev _ none _ _ _ _ _ 0 [_] [] _ from ?_)
  refine ev_aload_0 (q := 1) dX8_fault_0 rfl ?_
  refine ev_callV0iR (q := 4) dX8_fault_1 vs_RX8_162 (by first | assumption | rfl) (c_X8_faulty h hel) (by decide) (Nat.le_of_ble_eq_true rfl) rfl (fun x_1 M_1 hq_1 h_1 => ?_)
  refine ev_ireturn dX8_fault_4 rfl rfl (by constructor <;> omega) ?_
  exact ⟨_, rfl, rfl, hq_1.1, hq_1.2.2.2⟩
set_option maxHeartbeats 2000000 in
theorem m_clearText (h : M 100 4 = len) : Ri l 0 kX8_clearText yX8_clearText S0 M [vr 100] (fun x M2 => x = len ∧ M2 = up M 100 4 0) := by
  refine Ri.of (by decide) rfl (by decide) (Nat.le_of_ble_eq_true rfl) ?_
  refine (show Ev _ none _ _ _ _ _ 0 [_, _] [] _ from ?_)
  refine ev_aload_0 (q := 1) dX8_clearText_0 rfl ?_
  refine ev_getI (q := 4) dX8_clearText_1 fl_RX8_85 (by first | assumption | rfl) (by rfl) rfl (fun h_1 => ?_)
  rw [h] at h_1 ⊢
  refine ev_istore_1 (q := 5) dX8_clearText_4 rfl (by decide) ?_
  refine ev_aload_0 (q := 6) dX8_clearText_5 rfl ?_
  refine ev_iconst (q := 7) dX8_clearText_6 rfl ?_
  refine ev_putI (q := 10) dX8_clearText_7 fl_RX8_85 (by first | assumption | rfl) (by rfl) rfl (by constructor <;> omega) ?_
  refine ev_iload_1 (q := 11) dX8_clearText_10 rfl ?_
  refine ev_ireturn dX8_clearText_11 rfl rfl (by constructor <;> omega) ?_
  exact ⟨_, rfl, rfl, rfl, rfl⟩
set_option maxHeartbeats 2000000 in
theorem m_type {c : Int} (hc : inR c) (h : M 100 4 = len ∧ 0 ≤ len ∧ len ≤ 80) : Ri l 1 kX8_type yX8_type S0 M [vr 100, vi c] (fun x M2 => (¬ (32 ≤ c ∧ c ≤ 126) ∧ x = -11 ∧ M2 = M) ∨ ((32 ≤ c ∧ c ≤ 126) ∧ len ≥ 80 ∧ x = -13 ∧ M2 = M) ∨ ((32 ≤ c ∧ c ≤ 126) ∧ len < 80 ∧ x = len + 1 ∧ M2 = up (up M 103 len.toNat c) 100 4 (len + 1))) := by
  obtain ⟨h1, h2⟩ := h
  have g1 : up M 103 len.toNat c 100 4 = len := by rw [up_ne (by decide)]; exact h1
  refine Ri.of (by decide) rfl (by decide) (Nat.le_of_ble_eq_true rfl) ?_
  refine (show Ev _ none _ _ _ _ _ 0 [_, _] [] _ from ?_)
  refine ev_iload_1 (q := 1) dX8_type_0 rfl ?_
  refine ev_bipush (q := 3) dX8_type_1 rfl (by decide) ?_
  refine ev_bipush (q := 5) dX8_type_3 rfl (by decide) ?_
  refine ev_callS3i (q := 8) dX8_type_5 ss_RX8_39 (c_X8_in (by constructor <;> omega) (by constructor <;> omega) (by constructor <;> omega)) (by decide) (Nat.le_of_ble_eq_true rfl) rfl (fun h_5 => ?_)
  refine ev_b_ne (t := 14) (q := 11) dX8_type_8 (by decide) rfl (fun h_8 => ?_) (fun h_8 => ?_)
  · refine ev_aload_0 (q := 15) dX8_type_14 rfl ?_
    refine ev_getI (q := 18) dX8_type_15 fl_RX8_85 (by first | assumption | rfl) (by rfl) rfl (fun h_15 => ?_)
    rw [h1] at h_15 ⊢
    refine ev_bipush (q := 20) dX8_type_18 rfl (by decide) ?_
    refine ev_icmp_ne (t := 26) (q := 23) dX8_type_20 (by decide) rfl (by constructor <;> omega) (by constructor <;> omega) (fun h_20 => ?_) (fun h_20 => ?_)
    · refine ev_aload_0 (q := 27) dX8_type_26 rfl ?_
      refine ev_getR (q := 30) dX8_type_27 fl_RX8_16 (by first | assumption | rfl) (by rfl) rfl ?_
      refine ev_aload_0 (q := 31) dX8_type_30 rfl ?_
      refine ev_getI (q := 34) dX8_type_31 fl_RX8_85 (by first | assumption | rfl) (by rfl) rfl (fun h_31 => ?_)
      rw [h1] at h_31 ⊢
      refine ev_iload_1 (q := 35) dX8_type_34 rfl ?_
      refine ev_i2c (q := 36) dX8_type_35 rfl (by omega) ?_
      refine ev_castore (q := 37) dX8_type_36 (by first | assumption | rfl) (by omega) (by first | decide | omega) (by constructor <;> omega) (by omega) rfl ?_
      refine ev_aload_0 (q := 38) dX8_type_37 rfl ?_
      refine ev_dup (q := 39) dX8_type_38 rfl ?_
      refine ev_getI (q := 42) dX8_type_39 fl_RX8_85 (by first | assumption | rfl) (by rfl) rfl (fun h_39 => ?_)
      rw [g1] at h_39 ⊢
      refine ev_iconst (q := 43) dX8_type_42 rfl ?_
      refine ev_iadd (q := 44) dX8_type_43 rfl ?_
      refine ev_putI (q := 47) dX8_type_44 fl_RX8_85 (by first | assumption | rfl) (by rfl) rfl (by constructor <;> omega) ?_
      refine ev_aload_0 (q := 48) dX8_type_47 rfl ?_
      refine ev_getI (q := 51) dX8_type_48 fl_RX8_85 (by first | assumption | rfl) (by rfl) rfl (fun h_48 => ?_)
      rw [up_s] at h_48 ⊢
      refine ev_ireturn dX8_type_51 rfl rfl (by constructor <;> omega) ?_
      exact ⟨_, rfl, rfl, Or.inr (Or.inr ⟨by omega, by omega, rfl, rfl⟩)⟩
    · refine ev_bipush (q := 25) dX8_type_23 rfl (by decide) ?_
      refine ev_ireturn dX8_type_25 rfl rfl (by constructor <;> omega) ?_
      exact ⟨_, rfl, rfl, Or.inr (Or.inl ⟨by omega, by omega, rfl, rfl⟩)⟩
  · refine ev_bipush (q := 13) dX8_type_11 rfl (by decide) ?_
    refine ev_ireturn dX8_type_13 rfl rfl (by constructor <;> omega) ?_
    exact ⟨_, rfl, rfl, Or.inl ⟨by omega, rfl, rfl⟩⟩
end Mz

