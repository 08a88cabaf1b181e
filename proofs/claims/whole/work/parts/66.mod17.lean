def setD (M : ev_M) (g : Nat → Int) : ev_M := fun i c => if i = 101 then g c else M i c
section Sd
variable {l : Launch} {M : ev_M} {v : Vw} {g : Nat → Int}
theorem setD_up {k : Nat} {x : Int} : up (setD M g) 101 k x = setD M (fun i => if i = k then x else g i) := by
  funext a b
  simp only [up, setD]
  by_cases h : a = 101
  · subst h
    simp only [true_and, if_true, reduceIte]
  · rw [if_neg (fun q => h q.1), if_neg h, if_neg h]
theorem setD_0 : M = setD M (M 101) := by
  funext a b
  simp only [setD]
  by_cases h : a = 101
  · rw [if_pos h, h]
  · rw [if_neg h]
theorem setD_101 : setD M g 101 = g := rfl
theorem setD_o {i : Nat} (h : i ≠ 101) : setD M g i = M i := by
  funext c
  simp only [setD]
  rw [if_neg h]
theorem setD_Dm : Dm M g (setD (mrec M) g) := ⟨rfl, fun i hi => setD_o hi⟩
def mds (f : Nat → Int) (r : Nat) : Int := cnt (fun p => decide (f (146 + 48 * r + 3 * p) ≠ 0)) 16
set_option maxHeartbeats 1000000 in
theorem lp_X8_declR {r : Nat} (hr : r < 16) : ∀ (n j : Nat) (x y : Int), x = j → j + n = 16 → y = cnt (fun p => decide (M 101 (146 + 48 * r + 3 * p) ≠ 0)) j → Ev l none 1 kX8_declarations (0, 0) S0 M 4 [some (vr 100), some (vi (r : Int)), some (vi y), some (vi x)] [] (QX (some (vi (mds (M 101) r))) S0 M) := by
  intro n
  induction n with
  | zero =>
    intro j x y hx hn hy
    have hj : j = 16 := by omega
    have hc := cnt_rng (fun p => decide (M 101 (146 + 48 * r + 3 * p) ≠ 0)) j
    refine ev_iload_3 (q := 5) dX8_declarations_4 rfl ?_
    refine ev_bipush (q := 7) dX8_declarations_5 rfl (by decide) ?_
    refine ev_icmp_ge (t := 37) (q := 10) dX8_declarations_7 (by decide) rfl (by constructor <;> omega) (by constructor <;> omega) (fun h_7 => ?_) (fun h_7 => ?_)
    · refine ev_iload_2 (q := 38) dX8_declarations_37 rfl ?_
      refine ev_ireturn dX8_declarations_38 rfl rfl (by constructor <;> omega) ?_
      exact ⟨by rw [hy, hj]; rfl, rfl, rfl⟩
    · omega
  | succ n ih =>
    intro j x y hx hn hy
    have hc := cnt_rng (fun p => decide (M 101 (146 + 48 * r + 3 * p) ≠ 0)) j
    have hy2 := (sy_N r j).1
    subst hx
    refine ev_iload_3 (q := 5) dX8_declarations_4 rfl ?_
    refine ev_bipush (q := 7) dX8_declarations_5 rfl (by decide) ?_
    refine ev_icmp_ge (t := 37) (q := 10) dX8_declarations_7 (by decide) rfl (by constructor <;> omega) (by constructor <;> omega) (fun h_7 => ?_) (fun h_7 => ?_)
    · refine ev_iload_2 (q := 38) dX8_declarations_37 rfl ?_
      refine ev_ireturn dX8_declarations_38 rfl rfl (by constructor <;> omega) ?_
      omega
    · refine ev_iload_2 (q := 11) dX8_declarations_10 rfl ?_
      refine ev_aload_0 (q := 12) dX8_declarations_11 rfl ?_
      refine ev_getR (q := 15) dX8_declarations_12 fl_RX8_7 (by first | assumption | rfl) (by rfl) rfl ?_
      refine ev_iload_1 (q := 16) dX8_declarations_15 rfl ?_
      refine ev_iload_3 (q := 17) dX8_declarations_16 rfl ?_
      refine ev_callS2i (q := 20) dX8_declarations_17 ss_RX8_78 (c_X8_says (by omega) (by omega)) (by decide) (Nat.le_of_ble_eq_true rfl) rfl (fun h_17 => ?_)
      refine ev_iaload (q := 21) dX8_declarations_20 (by first | assumption | rfl) (by omega) (by first | decide | omega) rfl (fun h_20 => ?_)
      rw [hy2] at h_20 ⊢
      refine ev_if_ne (t := 28) (q := 24) dX8_declarations_21 (by decide) rfl (by constructor <;> omega) (fun h_21 => ?_) (fun h_21 => ?_)
      · refine ev_iconst (q := 29) dX8_declarations_28 rfl ?_
        refine ev_iadd (q := 30) dX8_declarations_29 rfl ?_
        refine ev_istore_2 (q := 31) dX8_declarations_30 rfl (by decide) ?_
        refine ev_iinc_3 (q := 34) dX8_declarations_31 rfl (by decide) ?_
        refine ev_goto (q := 4) dX8_declarations_34 (by decide) ?_
        refine ih (j + 1) _ _ rfl (by omega) ?_
        unfold cnt
        rw [hy]
        first | (rw [if_pos (decide_eq_true h_21)]; done) | (rw [if_neg (fun q => (show M 101 (146 + 48 * r + 3 * j) ≠ 0 from of_decide_eq_true q) h_21)])
      · refine ev_iconst (q := 25) dX8_declarations_24 rfl ?_
        refine ev_goto (q := 29) dX8_declarations_25 (by decide) ?_
        refine ev_iadd (q := 30) dX8_declarations_29 rfl ?_
        refine ev_istore_2 (q := 31) dX8_declarations_30 rfl (by decide) ?_
        refine ev_iinc_3 (q := 34) dX8_declarations_31 rfl (by decide) ?_
        refine ev_goto (q := 4) dX8_declarations_34 (by decide) ?_
        refine ih (j + 1) _ _ rfl (by omega) ?_
        unfold cnt
        rw [hy]
        first | (rw [if_pos (decide_eq_true h_21)]; done) | (rw [if_neg (fun q => (show M 101 (146 + 48 * r + 3 * j) ≠ 0 from of_decide_eq_true q) h_21)])
set_option maxHeartbeats 1000000 in
theorem c_X8_declR {r : Nat} (hr : r < 16) : Cx l 1 kX8_declarations yX8_declarations S0 M [vr 100, vi (r : Int)] (some (vi (mds (M 101) r))) M := by
  refine Cx.of (by decide) rfl (by decide) (Nat.le_of_ble_eq_true rfl) ?_
  refine (show Ev _ none _ _ _ _ _ 0 [_, _, _, _] [] _ from ?_)
  refine ev_iconst (q := 1) dX8_declarations_0 rfl ?_
  refine ev_istore_2 (q := 2) dX8_declarations_1 rfl (by decide) ?_
  refine ev_iconst (q := 3) dX8_declarations_2 rfl ?_
  refine ev_istore_3 (q := 4) dX8_declarations_3 rfl (by decide) ?_
  exact lp_X8_declR hr 16 0 _ _ rfl rfl rfl
def layF (f : Nat → Int) (r p : Nat) (s a b : Int) : Nat → Int := fun i => if i = 148 + 48 * r + 3 * p then b else if i = 147 + 48 * r + 3 * p then a else if i = 146 + 48 * r + 3 * p then s else f i
set_option maxHeartbeats 1000000 in
theorem c_X8_lays {r p : Nat} {s a b : Int} (hr : r < 16) (hp : p < 16) (hs : inR s) (ha : inR a) (hb : inR b) : Cx l 1 kX8_lays yX8_lays S0 (setD M g) [vr 100, vi (r : Int), vi (p : Int), vi s, vi a, vi b] none (setD M (layF g r p s a b)) := by
  have hsy := sy_N r p
  refine Cx.of (by decide) rfl (by decide) (Nat.le_of_ble_eq_true rfl) ?_
  refine (show Ev _ none _ _ _ _ _ 0 [_, _, _, _, _, _] [] _ from ?_)
  refine ev_aload_0 (q := 1) dX8_lays_0 rfl ?_
  refine ev_getR (q := 4) dX8_lays_1 fl_RX8_7 (by first | assumption | rfl) (by rfl) rfl ?_
  refine ev_iload_1 (q := 5) dX8_lays_4 rfl ?_
  refine ev_iload_2 (q := 6) dX8_lays_5 rfl ?_
  refine ev_callS2i (q := 9) dX8_lays_6 ss_RX8_78 (c_X8_says (by omega) (by omega)) (by decide) (Nat.le_of_ble_eq_true rfl) rfl (fun h_6 => ?_)
  refine ev_iload_3 (q := 10) dX8_lays_9 rfl ?_
  refine ev_iastore (q := 11) dX8_lays_10 (by first | assumption | rfl) (by omega) (by first | decide | omega) (by constructor <;> omega) rfl ?_
  rw [hsy.1, setD_up]
  refine ev_aload_0 (q := 12) dX8_lays_11 rfl ?_
  refine ev_getR (q := 15) dX8_lays_12 fl_RX8_7 (by first | assumption | rfl) (by rfl) rfl ?_
  refine ev_iload_1 (q := 16) dX8_lays_15 rfl ?_
  refine ev_iload_2 (q := 17) dX8_lays_16 rfl ?_
  refine ev_callS2i (q := 20) dX8_lays_17 ss_RX8_78 (c_X8_says (by omega) (by omega)) (by decide) (Nat.le_of_ble_eq_true rfl) rfl (fun h_17 => ?_)
  refine ev_iconst (q := 21) dX8_lays_20 rfl ?_
  refine ev_iadd (q := 22) dX8_lays_21 rfl ?_
  refine ev_iload_4 (q := 24) dX8_lays_22 rfl ?_
  refine ev_iastore (q := 25) dX8_lays_24 (by first | assumption | rfl) (by omega) (by first | decide | omega) (by constructor <;> omega) rfl ?_
  rw [hsy.2.1, setD_up]
  refine ev_aload_0 (q := 26) dX8_lays_25 rfl ?_
  refine ev_getR (q := 29) dX8_lays_26 fl_RX8_7 (by first | assumption | rfl) (by rfl) rfl ?_
  refine ev_iload_1 (q := 30) dX8_lays_29 rfl ?_
  refine ev_iload_2 (q := 31) dX8_lays_30 rfl ?_
  refine ev_callS2i (q := 34) dX8_lays_31 ss_RX8_78 (c_X8_says (by omega) (by omega)) (by decide) (Nat.le_of_ble_eq_true rfl) rfl (fun h_31 => ?_)
  refine ev_iconst (q := 35) dX8_lays_34 rfl ?_
  refine ev_iadd (q := 36) dX8_lays_35 rfl ?_
  refine ev_iload_5 (q := 38) dX8_lays_36 rfl ?_
  refine ev_iastore (q := 39) dX8_lays_38 (by first | assumption | rfl) (by omega) (by first | decide | omega) (by constructor <;> omega) rfl ?_
  rw [hsy.2.2, setD_up]
  refine ev_return dX8_lays_39 rfl ?_
  exact ⟨rfl, rfl, rfl⟩
theorem mrec_s : mrec M = setD (mrec M) (M 101) := by rw [← mrec_101 (M := M)]; exact setD_0
set_option maxHeartbeats 2000000 in
theorem m_declare {r p n : Int} (hA : Ag (M 101) v) (hW : Wf v) (hH : 0 ≤ M 100 2 ∧ M 100 2 ≤ 5) (hr : inR r) (hp : inR p) (hn : inR n) : Ri l 2 kX8_declare yX8_declare S0 M [vr 100, vi r, vi p, vi n] (fun x M2 => (¬ ((0 ≤ r ∧ r < vrn v) ∧ (0 ≤ p ∧ p ≤ 15) ∧ (0 ≤ n ∧ n ≤ 999)) ∧ x = -11 ∧ M2 = M) ∨ (((0 ≤ r ∧ r < vrn v) ∧ (0 ≤ p ∧ p ≤ 15) ∧ (0 ≤ n ∧ n ≤ 999)) ∧ Dm M (layF (M 101) r.toNat p.toNat 1 n (-1)) M2 ∧ x = mds (M2 101) r.toNat)) := by
  have h2 := hW.2.1
  have hn1 := hA.2.1
  refine Ri.of (by decide) rfl (by decide) (Nat.le_of_ble_eq_true rfl) ?_
  refine (show Ev _ none _ _ _ _ _ 0 [_, _, _, _] [] _ from ?_)
  refine ev_aload_0 (q := 1) dX8_declare_0 rfl ?_
  refine ev_iload_1 (q := 2) dX8_declare_1 rfl ?_
  refine ev_callV1i (q := 5) dX8_declare_2 vs_RX8_95 (by first | assumption | rfl) (c_X8_isRule (by constructor <;> omega) (by omega)) (by decide) (Nat.le_of_ble_eq_true rfl) rfl (fun h_2 => ?_)
  refine ev_b_eq (t := 26) (q := 8) dX8_declare_5 (by decide) rfl (fun h_5 => ?_) (fun h_5 => ?_)
  · refine ev_bipush (q := 28) dX8_declare_26 rfl (by decide) ?_
    refine ev_ireturn dX8_declare_28 rfl rfl (by constructor <;> omega) ?_
    exact ⟨_, rfl, rfl, Or.inl ⟨by omega, rfl, rfl⟩⟩
  · refine ev_iload_2 (q := 9) dX8_declare_8 rfl ?_
    refine ev_callS1i (q := 12) dX8_declare_9 ss_RX8_98 (c_X8_isProperty (by constructor <;> omega)) (by decide) (Nat.le_of_ble_eq_true rfl) rfl (fun h_9 => ?_)
    refine ev_b_eq (t := 26) (q := 15) dX8_declare_12 (by decide) rfl (fun h_12 => ?_) (fun h_12 => ?_)
    · refine ev_bipush (q := 28) dX8_declare_26 rfl (by decide) ?_
      refine ev_ireturn dX8_declare_28 rfl rfl (by constructor <;> omega) ?_
      exact ⟨_, rfl, rfl, Or.inl ⟨by omega, rfl, rfl⟩⟩
    · refine ev_iload_3 (q := 16) dX8_declare_15 rfl ?_
      refine ev_iconst (q := 17) dX8_declare_16 rfl ?_
      refine ev_sipush (q := 20) dX8_declare_17 rfl (by decide) ?_
      refine ev_callS3i (q := 23) dX8_declare_20 ss_RX8_39 (c_X8_in (by constructor <;> omega) (by constructor <;> omega) (by constructor <;> omega)) (by decide) (Nat.le_of_ble_eq_true rfl) rfl (fun h_20 => ?_)
      refine ev_b_ne (t := 29) (q := 26) dX8_declare_23 (by decide) rfl (fun h_23 => ?_) (fun h_23 => ?_)
      · refine ev_aload_0 (q := 30) dX8_declare_29 rfl ?_
        refine ev_callV0v (q := 33) dX8_declare_30 vs_RX8_55 (by first | assumption | rfl) (c_X8_records hH) (by decide) (Nat.le_of_ble_eq_true rfl) rfl ?_
        rw [mrec_s]
        obtain ⟨r', rfl⟩ : ∃ r' : Nat, r = r' := ⟨r.toNat, by omega⟩
        obtain ⟨p', rfl⟩ : ∃ p' : Nat, p = p' := ⟨p.toNat, by omega⟩
        refine ev_aload_0 (q := 34) dX8_declare_33 rfl ?_
        refine ev_iload_1 (q := 35) dX8_declare_34 rfl ?_
        refine ev_iload_2 (q := 36) dX8_declare_35 rfl ?_
        refine ev_iconst (q := 37) dX8_declare_36 rfl ?_
        refine ev_iload_3 (q := 38) dX8_declare_37 rfl ?_
        refine ev_iconst (q := 39) dX8_declare_38 rfl ?_
        refine ev_callV5v (q := 42) dX8_declare_39 vs_RX8_101 (by first | assumption | rfl) (c_X8_lays (by omega) (by omega) (by constructor <;> omega) (by constructor <;> omega) (by constructor <;> omega)) (by decide) (Nat.le_of_ble_eq_true rfl) rfl ?_
        refine ev_aload_0 (q := 43) dX8_declare_42 rfl ?_
        refine ev_iload_1 (q := 44) dX8_declare_43 rfl ?_
        refine ev_callV1i (q := 47) dX8_declare_44 vs_RX8_105 (by first | assumption | rfl) (c_X8_declR (by omega)) (by decide) (Nat.le_of_ble_eq_true rfl) rfl (fun h_44 => ?_)
        refine ev_ireturn dX8_declare_47 rfl rfl (by constructor <;> omega) ?_
        exact ⟨_, rfl, rfl, Or.inr ⟨by omega, setD_Dm, rfl⟩⟩
      · refine ev_bipush (q := 28) dX8_declare_26 rfl (by decide) ?_
        refine ev_ireturn dX8_declare_28 rfl rfl (by constructor <;> omega) ?_
        exact ⟨_, rfl, rfl, Or.inl ⟨by omega, rfl, rfl⟩⟩
set_option maxHeartbeats 2000000 in
theorem m_refer {r p c f : Int} (hA : Ag (M 101) v) (hW : Wf v) (hH : 0 ≤ M 100 2 ∧ M 100 2 ≤ 5) (hr : inR r) (hp : inR p) (hc : inR c) (hf : inR f) : Ri l 2 kX8_refer yX8_refer S0 M [vr 100, vi r, vi p, vi c, vi f] (fun x M2 => (¬ ((0 ≤ r ∧ r < vrn v) ∧ (0 ≤ p ∧ p ≤ 15) ∧ (8 ≤ c ∧ c ≤ 15) ∧ (-1 ≤ f ∧ f ≤ 999)) ∧ x = -11 ∧ M2 = M) ∨ (((0 ≤ r ∧ r < vrn v) ∧ (0 ≤ p ∧ p ≤ 15) ∧ (8 ≤ c ∧ c ≤ 15) ∧ (-1 ≤ f ∧ f ≤ 999)) ∧ Dm M (layF (M 101) r.toNat p.toNat 2 c f) M2 ∧ x = mds (M2 101) r.toNat)) := by
  have h2 := hW.2.1
  have hn1 := hA.2.1
  refine Ri.of (by decide) rfl (by decide) (Nat.le_of_ble_eq_true rfl) ?_
  refine (show Ev _ none _ _ _ _ _ 0 [_, _, _, _, _] [] _ from ?_)
  refine ev_aload_0 (q := 1) dX8_refer_0 rfl ?_
  refine ev_iload_1 (q := 2) dX8_refer_1 rfl ?_
  refine ev_callV1i (q := 5) dX8_refer_2 vs_RX8_95 (by first | assumption | rfl) (c_X8_isRule (by constructor <;> omega) (by omega)) (by decide) (Nat.le_of_ble_eq_true rfl) rfl (fun h_2 => ?_)
  refine ev_b_eq (t := 38) (q := 8) dX8_refer_5 (by decide) rfl (fun h_5 => ?_) (fun h_5 => ?_)
  · refine ev_bipush (q := 40) dX8_refer_38 rfl (by decide) ?_
    refine ev_ireturn dX8_refer_40 rfl rfl (by constructor <;> omega) ?_
    exact ⟨_, rfl, rfl, Or.inl ⟨by omega, rfl, rfl⟩⟩
  · refine ev_iload_2 (q := 9) dX8_refer_8 rfl ?_
    refine ev_callS1i (q := 12) dX8_refer_9 ss_RX8_98 (c_X8_isProperty (by constructor <;> omega)) (by decide) (Nat.le_of_ble_eq_true rfl) rfl (fun h_9 => ?_)
    refine ev_b_eq (t := 38) (q := 15) dX8_refer_12 (by decide) rfl (fun h_12 => ?_) (fun h_12 => ?_)
    · refine ev_bipush (q := 40) dX8_refer_38 rfl (by decide) ?_
      refine ev_ireturn dX8_refer_40 rfl rfl (by constructor <;> omega) ?_
      exact ⟨_, rfl, rfl, Or.inl ⟨by omega, rfl, rfl⟩⟩
    · refine ev_iload_3 (q := 16) dX8_refer_15 rfl ?_
      refine ev_bipush (q := 18) dX8_refer_16 rfl (by decide) ?_
      refine ev_bipush (q := 20) dX8_refer_18 rfl (by decide) ?_
      refine ev_callS3i (q := 23) dX8_refer_20 ss_RX8_39 (c_X8_in (by constructor <;> omega) (by constructor <;> omega) (by constructor <;> omega)) (by decide) (Nat.le_of_ble_eq_true rfl) rfl (fun h_20 => ?_)
      refine ev_b_eq (t := 38) (q := 26) dX8_refer_23 (by decide) rfl (fun h_23 => ?_) (fun h_23 => ?_)
      · refine ev_bipush (q := 40) dX8_refer_38 rfl (by decide) ?_
        refine ev_ireturn dX8_refer_40 rfl rfl (by constructor <;> omega) ?_
        exact ⟨_, rfl, rfl, Or.inl ⟨by omega, rfl, rfl⟩⟩
      · refine ev_iload_4 (q := 28) dX8_refer_26 rfl ?_
        refine ev_iconst (q := 29) dX8_refer_28 rfl ?_
        refine ev_sipush (q := 32) dX8_refer_29 rfl (by decide) ?_
        refine ev_callS3i (q := 35) dX8_refer_32 ss_RX8_39 (c_X8_in (by constructor <;> omega) (by constructor <;> omega) (by constructor <;> omega)) (by decide) (Nat.le_of_ble_eq_true rfl) rfl (fun h_32 => ?_)
        refine ev_b_ne (t := 41) (q := 38) dX8_refer_35 (by decide) rfl (fun h_35 => ?_) (fun h_35 => ?_)
        · refine ev_aload_0 (q := 42) dX8_refer_41 rfl ?_
          refine ev_callV0v (q := 45) dX8_refer_42 vs_RX8_55 (by first | assumption | rfl) (c_X8_records hH) (by decide) (Nat.le_of_ble_eq_true rfl) rfl ?_
          rw [mrec_s]
          obtain ⟨r', rfl⟩ : ∃ r' : Nat, r = r' := ⟨r.toNat, by omega⟩
          obtain ⟨p', rfl⟩ : ∃ p' : Nat, p = p' := ⟨p.toNat, by omega⟩
          refine ev_aload_0 (q := 46) dX8_refer_45 rfl ?_
          refine ev_iload_1 (q := 47) dX8_refer_46 rfl ?_
          refine ev_iload_2 (q := 48) dX8_refer_47 rfl ?_
          refine ev_iconst (q := 49) dX8_refer_48 rfl ?_
          refine ev_iload_3 (q := 50) dX8_refer_49 rfl ?_
          refine ev_iload_4 (q := 52) dX8_refer_50 rfl ?_
          refine ev_callV5v (q := 55) dX8_refer_52 vs_RX8_101 (by first | assumption | rfl) (c_X8_lays (by omega) (by omega) (by constructor <;> omega) (by constructor <;> omega) (by constructor <;> omega)) (by decide) (Nat.le_of_ble_eq_true rfl) rfl ?_
          refine ev_aload_0 (q := 56) dX8_refer_55 rfl ?_
          refine ev_iload_1 (q := 57) dX8_refer_56 rfl ?_
          refine ev_callV1i (q := 60) dX8_refer_57 vs_RX8_105 (by first | assumption | rfl) (c_X8_declR (by omega)) (by decide) (Nat.le_of_ble_eq_true rfl) rfl (fun h_57 => ?_)
          refine ev_ireturn dX8_refer_60 rfl rfl (by constructor <;> omega) ?_
          exact ⟨_, rfl, rfl, Or.inr ⟨by omega, setD_Dm, rfl⟩⟩
        · refine ev_bipush (q := 40) dX8_refer_38 rfl (by decide) ?_
          refine ev_ireturn dX8_refer_40 rfl rfl (by constructor <;> omega) ?_
          exact ⟨_, rfl, rfl, Or.inl ⟨by omega, rfl, rfl⟩⟩
set_option maxHeartbeats 2000000 in
theorem m_undeclare {r p : Int} (hA : Ag (M 101) v) (hW : Wf v) (hH : 0 ≤ M 100 2 ∧ M 100 2 ≤ 5) (hr : inR r) (hp : inR p) : Ri l 2 kX8_undeclare yX8_undeclare S0 M [vr 100, vi r, vi p] (fun x M2 => (¬ ((0 ≤ r ∧ r < vrn v) ∧ (0 ≤ p ∧ p ≤ 15)) ∧ x = -11 ∧ M2 = M) ∨ (((0 ≤ r ∧ r < vrn v) ∧ (0 ≤ p ∧ p ≤ 15)) ∧ dclV v p.toNat r.toNat = false ∧ x = -12 ∧ M2 = M) ∨ (((0 ≤ r ∧ r < vrn v) ∧ (0 ≤ p ∧ p ≤ 15)) ∧ dclV v p.toNat r.toNat = true ∧ Dm M (fun i => if i = 146 + 48 * r.toNat + 3 * p.toNat then 0 else M 101 i) M2 ∧ x = mds (M2 101) r.toNat)) := by
  have h2 := hW.2.1
  have hn1 := hA.2.1
  refine Ri.of (by decide) rfl (by decide) (Nat.le_of_ble_eq_true rfl) ?_
  refine (show Ev _ none _ _ _ _ _ 0 [_, _, _] [] _ from ?_)
  refine ev_aload_0 (q := 1) dX8_undeclare_0 rfl ?_
  refine ev_iload_1 (q := 2) dX8_undeclare_1 rfl ?_
  refine ev_callV1i (q := 5) dX8_undeclare_2 vs_RX8_95 (by first | assumption | rfl) (c_X8_isRule (by constructor <;> omega) (by omega)) (by decide) (Nat.le_of_ble_eq_true rfl) rfl (fun h_2 => ?_)
  refine ev_b_eq (t := 15) (q := 8) dX8_undeclare_5 (by decide) rfl (fun h_5 => ?_) (fun h_5 => ?_)
  · refine ev_bipush (q := 17) dX8_undeclare_15 rfl (by decide) ?_
    refine ev_ireturn dX8_undeclare_17 rfl rfl (by constructor <;> omega) ?_
    exact ⟨_, rfl, rfl, Or.inl ⟨by omega, rfl, rfl⟩⟩
  · refine ev_iload_2 (q := 9) dX8_undeclare_8 rfl ?_
    refine ev_callS1i (q := 12) dX8_undeclare_9 ss_RX8_98 (c_X8_isProperty (by constructor <;> omega)) (by decide) (Nat.le_of_ble_eq_true rfl) rfl (fun h_9 => ?_)
    refine ev_b_ne (t := 18) (q := 15) dX8_undeclare_12 (by decide) rfl (fun h_12 => ?_) (fun h_12 => ?_)
    · obtain ⟨r', rfl⟩ : ∃ r' : Nat, r = r' := ⟨r.toNat, by omega⟩
      obtain ⟨p', rfl⟩ : ∃ p' : Nat, p = p' := ⟨p.toNat, by omega⟩
      have hE := agE_d (hA.2.2.2.2 r' p' (by omega) (by omega))
      have hsy := (sy_N r' p').1
      refine ev_aload_0 (q := 19) dX8_undeclare_18 rfl ?_
      refine ev_getR (q := 22) dX8_undeclare_19 fl_RX8_7 (by first | assumption | rfl) (by rfl) rfl ?_
      refine ev_iload_1 (q := 23) dX8_undeclare_22 rfl ?_
      refine ev_iload_2 (q := 24) dX8_undeclare_23 rfl ?_
      refine ev_callS2i (q := 27) dX8_undeclare_24 ss_RX8_78 (c_X8_says (by omega) (by omega)) (by decide) (Nat.le_of_ble_eq_true rfl) rfl (fun h_24 => ?_)
      refine ev_iaload (q := 28) dX8_undeclare_27 (by first | assumption | rfl) (by omega) (by first | decide | omega) rfl (fun h_27 => ?_)
      rw [hsy] at h_27 ⊢
      refine ev_if_ne (t := 34) (q := 31) dX8_undeclare_28 (by decide) rfl (by constructor <;> omega) (fun h_28 => ?_) (fun h_28 => ?_)
      · refine ev_aload_0 (q := 35) dX8_undeclare_34 rfl ?_
        refine ev_callV0v (q := 38) dX8_undeclare_35 vs_RX8_55 (by first | assumption | rfl) (c_X8_records hH) (by decide) (Nat.le_of_ble_eq_true rfl) rfl ?_
        rw [mrec_s]
        refine ev_aload_0 (q := 39) dX8_undeclare_38 rfl ?_
        refine ev_getR (q := 42) dX8_undeclare_39 fl_RX8_7 (by first | assumption | rfl) (by rfl) rfl ?_
        refine ev_iload_1 (q := 43) dX8_undeclare_42 rfl ?_
        refine ev_iload_2 (q := 44) dX8_undeclare_43 rfl ?_
        refine ev_callS2i (q := 47) dX8_undeclare_44 ss_RX8_78 (c_X8_says (by omega) (by omega)) (by decide) (Nat.le_of_ble_eq_true rfl) rfl (fun h_44 => ?_)
        refine ev_iconst (q := 48) dX8_undeclare_47 rfl ?_
        refine ev_iastore (q := 49) dX8_undeclare_48 (by first | assumption | rfl) (by omega) (by first | decide | omega) (by constructor <;> omega) rfl ?_
        rw [hsy, setD_up]
        refine ev_aload_0 (q := 50) dX8_undeclare_49 rfl ?_
        refine ev_iload_1 (q := 51) dX8_undeclare_50 rfl ?_
        refine ev_callV1i (q := 54) dX8_undeclare_51 vs_RX8_105 (by first | assumption | rfl) (c_X8_declR (by omega)) (by decide) (Nat.le_of_ble_eq_true rfl) rfl (fun h_51 => ?_)
        refine ev_ireturn dX8_undeclare_54 rfl rfl (by constructor <;> omega) ?_
        exact ⟨_, rfl, rfl, Or.inr (Or.inr ⟨by omega, hE.2.1 (by omega), setD_Dm, rfl⟩)⟩
      · refine ev_bipush (q := 33) dX8_undeclare_31 rfl (by decide) ?_
        refine ev_ireturn dX8_undeclare_33 rfl rfl (by constructor <;> omega) ?_
        exact ⟨_, rfl, rfl, Or.inr (Or.inl ⟨by omega, Bool.eq_false_iff.2 (fun q => absurd (hE.2.2 q) (by omega)), rfl, rfl⟩)⟩
    · refine ev_bipush (q := 17) dX8_undeclare_15 rfl (by decide) ?_
      refine ev_ireturn dX8_undeclare_17 rfl rfl (by constructor <;> omega) ?_
      exact ⟨_, rfl, rfl, Or.inl ⟨by omega, rfl, rfl⟩⟩
set_option maxHeartbeats 2000000 in
theorem lp_remove {n : Nat} {Q : Option ev_V → List ev_Sh → ev_M → Prop} (hA : Ag (M 101) v) (hW : Wf v) (K : ∀ w : Option ev_V, Ev l none 2 kX8_remove (0, 0) S0 M 47 [some (vr 100), some (vi (b01 (exB (fun r => decide (vpt v r 4 = vel v - 1)) (vrn v).toNat))), w] [] Q) : ∀ (n j : Nat) (x : Int), x = j → j + n = (vrn v).toNat → Ev l none 2 kX8_remove (0, 0) S0 M 4 [some (vr 100), some (vi (b01 (exB (fun r => decide (vpt v r 4 = vel v - 1)) j))), some (vi x)] [] Q := by
  have h1 := hW.1
  have h2 := hW.2.1
  have hn0 := hA.1
  have hn1 := hA.2.1
  intro n
  induction n with
  | zero =>
    intro j x hx hn
    have hj : j = (vrn v).toNat := by omega
    refine ev_iload_2 (q := 5) dX8_remove_4 rfl ?_
    refine ev_aload_0 (q := 6) dX8_remove_5 rfl ?_
    refine ev_getR (q := 9) dX8_remove_6 fl_RX8_7 (by first | assumption | rfl) (by rfl) rfl ?_
    refine ev_iconst (q := 10) dX8_remove_9 rfl ?_
    refine ev_iaload (q := 11) dX8_remove_10 (by first | assumption | rfl) (by omega) (by first | decide | omega) rfl (fun h_10 => ?_)
    rw [z1, hn1] at h_10 ⊢
    refine ev_icmp_ge (t := 47) (q := 14) dX8_remove_11 (by decide) rfl (by constructor <;> omega) (by constructor <;> omega) (fun h_11 => ?_) (fun h_11 => ?_)
    · rw [hj]
      exact K _
    · omega
  | succ n ih =>
    intro j x hx hn
    have hj : (j : Int) < vrn v := by omega
    have hb := b01_rng (exB (fun r => decide (vpt v r 4 = vel v - 1)) j)
    have hp := hW.2.2.2.1 j hj
    subst hx
    refine ev_iload_2 (q := 5) dX8_remove_4 rfl ?_
    refine ev_aload_0 (q := 6) dX8_remove_5 rfl ?_
    refine ev_getR (q := 9) dX8_remove_6 fl_RX8_7 (by first | assumption | rfl) (by rfl) rfl ?_
    refine ev_iconst (q := 10) dX8_remove_9 rfl ?_
    refine ev_iaload (q := 11) dX8_remove_10 (by first | assumption | rfl) (by omega) (by first | decide | omega) rfl (fun h_10 => ?_)
    rw [z1, hn1] at h_10 ⊢
    refine ev_icmp_ge (t := 47) (q := 14) dX8_remove_11 (by decide) rfl (by constructor <;> omega) (by constructor <;> omega) (fun h_11 => ?_) (fun h_11 => ?_)
    · omega
    · refine ev_iload_1 (q := 15) dX8_remove_14 rfl ?_
      refine ev_if_ne (t := 35) (q := 18) dX8_remove_15 (by decide) rfl (by constructor <;> omega) (fun h_15 => ?_) (fun h_15 => ?_)
      · refine ev_iconst (q := 36) dX8_remove_35 rfl ?_
        refine ev_goto (q := 40) dX8_remove_36 (by decide) ?_
        refine ev_istore_1 (q := 41) dX8_remove_40 rfl (by decide) ?_
        refine ev_iinc_2 (q := 44) dX8_remove_41 rfl (by decide) ?_
        refine ev_goto (q := 4) dX8_remove_44 (by decide) ?_
        have hx := ih (j + 1) _ rfl (by omega)
        have hex : exB (fun r => decide (vpt v r 4 = vel v - 1)) (j + 1) = (exB (fun r => decide (vpt v r 4 = vel v - 1)) j || decide (vpt v j 4 = vel v - 1)) := rfl
        rw [hex] at hx
        first
        | (rw [decide_eq_true h_32, Bool.or_true] at hx; exact hx)
        | (rw [decide_eq_false h_32, b01_t.1 h_15] at hx; exact hx)
        | (rw [show exB (fun r => decide (vpt v r 4 = vel v - 1)) j = true from Bool.of_not_eq_false (fun q => h_15 (b01_t.2 q)), Bool.true_or] at hx; exact hx)
      · refine ev_aload_0 (q := 19) dX8_remove_18 rfl ?_
        refine ev_iload_2 (q := 20) dX8_remove_19 rfl ?_
        refine ev_iconst (q := 21) dX8_remove_20 rfl ?_
        refine ev_callV2i (q := 24) dX8_remove_21 vs_RX8_58 (by first | assumption | rfl) (c_X8_ofV (w := 4) hA hj (by omega) (by decide)) (by decide) (Nat.le_of_ble_eq_true rfl) rfl (fun h_21 => ?_)
        refine ev_aload_0 (q := 25) dX8_remove_24 rfl ?_
        refine ev_getR (q := 28) dX8_remove_25 fl_RX8_7 (by first | assumption | rfl) (by rfl) rfl ?_
        refine ev_iconst (q := 29) dX8_remove_28 rfl ?_
        refine ev_iaload (q := 30) dX8_remove_29 (by first | assumption | rfl) (by omega) (by first | decide | omega) rfl (fun h_29 => ?_)
        rw [z0, hn0] at h_29 ⊢
        refine ev_iconst (q := 31) dX8_remove_30 rfl ?_
        refine ev_isub (q := 32) dX8_remove_31 rfl ?_
        refine ev_icmp_ne (t := 39) (q := 35) dX8_remove_32 (by decide) rfl (by constructor <;> omega) (by constructor <;> omega) (fun h_32 => ?_) (fun h_32 => ?_)
        · refine ev_iconst (q := 40) dX8_remove_39 rfl ?_
          refine ev_istore_1 (q := 41) dX8_remove_40 rfl (by decide) ?_
          refine ev_iinc_2 (q := 44) dX8_remove_41 rfl (by decide) ?_
          refine ev_goto (q := 4) dX8_remove_44 (by decide) ?_
          have hx := ih (j + 1) _ rfl (by omega)
          have hex : exB (fun r => decide (vpt v r 4 = vel v - 1)) (j + 1) = (exB (fun r => decide (vpt v r 4 = vel v - 1)) j || decide (vpt v j 4 = vel v - 1)) := rfl
          rw [hex] at hx
          first
          | (rw [decide_eq_true h_32, Bool.or_true] at hx; exact hx)
          | (rw [decide_eq_false h_32, b01_t.1 h_15] at hx; exact hx)
          | (rw [show exB (fun r => decide (vpt v r 4 = vel v - 1)) j = true from Bool.of_not_eq_false (fun q => h_15 (b01_t.2 q)), Bool.true_or] at hx; exact hx)
        · refine ev_iconst (q := 36) dX8_remove_35 rfl ?_
          refine ev_goto (q := 40) dX8_remove_36 (by decide) ?_
          refine ev_istore_1 (q := 41) dX8_remove_40 rfl (by decide) ?_
          refine ev_iinc_2 (q := 44) dX8_remove_41 rfl (by decide) ?_
          refine ev_goto (q := 4) dX8_remove_44 (by decide) ?_
          have hx := ih (j + 1) _ rfl (by omega)
          have hex : exB (fun r => decide (vpt v r 4 = vel v - 1)) (j + 1) = (exB (fun r => decide (vpt v r 4 = vel v - 1)) j || decide (vpt v j 4 = vel v - 1)) := rfl
          rw [hex] at hx
          first
          | (rw [decide_eq_true h_32, Bool.or_true] at hx; exact hx)
          | (rw [decide_eq_false h_32, b01_t.1 h_15] at hx; exact hx)
          | (rw [show exB (fun r => decide (vpt v r 4 = vel v - 1)) j = true from Bool.of_not_eq_false (fun q => h_15 (b01_t.2 q)), Bool.true_or] at hx; exact hx)
set_option maxHeartbeats 2000000 in
theorem m_remove (hA : Ag (M 101) v) (hW : Wf v) (hH : 0 ≤ M 100 2 ∧ M 100 2 ≤ 5) : Ri l 2 kX8_remove yX8_remove S0 M [vr 100] (fun x M2 => ((vel v ≤ 1 ∨ exB (fun r => decide (vpt v r 4 = vel v - 1)) (vrn v).toNat = true) ∧ x = -12 ∧ M2 = M) ∨ ((vel v > 1 ∧ exB (fun r => decide (vpt v r 4 = vel v - 1)) (vrn v).toNat = false) ∧ x = vel v - 1 ∧ Dm M (fun i => if i = 0 then vel v - 1 else M 101 i) M2)) := by
  have h1 := hW.1
  have h2 := hW.2.1
  have hn0 := hA.1
  have hb := b01_rng (exB (fun r => decide (vpt v r 4 = vel v - 1)) (vrn v).toNat)
  have K : ∀ w : Option ev_V, Ev l none 2 kX8_remove (0, 0) S0 M 47 [some (vr 100), some (vi (b01 (exB (fun r => decide (vpt v r 4 = vel v - 1)) (vrn v).toNat))), w] [] (QI S0 (fun x M2 => ((vel v ≤ 1 ∨ exB (fun r => decide (vpt v r 4 = vel v - 1)) (vrn v).toNat = true) ∧ x = -12 ∧ M2 = M) ∨ ((vel v > 1 ∧ exB (fun r => decide (vpt v r 4 = vel v - 1)) (vrn v).toNat = false) ∧ x = vel v - 1 ∧ Dm M (fun i => if i = 0 then vel v - 1 else M 101 i) M2))) := by
    intro w
    refine ev_aload_0 (q := 48) dX8_remove_47 rfl ?_
    refine ev_getR (q := 51) dX8_remove_48 fl_RX8_7 (by first | assumption | rfl) (by rfl) rfl ?_
    refine ev_iconst (q := 52) dX8_remove_51 rfl ?_
    refine ev_iaload (q := 53) dX8_remove_52 (by first | assumption | rfl) (by omega) (by first | decide | omega) rfl (fun h_52 => ?_)
    rw [z0, hn0] at h_52 ⊢
    refine ev_iconst (q := 54) dX8_remove_53 rfl ?_
    refine ev_icmp_eq (t := 61) (q := 57) dX8_remove_54 (by decide) rfl (by constructor <;> omega) (by constructor <;> omega) (fun h_54 => ?_) (fun h_54 => ?_)
    · refine ev_bipush (q := 63) dX8_remove_61 rfl (by decide) ?_
      refine ev_ireturn dX8_remove_63 rfl rfl (by constructor <;> omega) ?_
      first | exact ⟨_, rfl, rfl, Or.inl ⟨Or.inl (by omega), rfl, rfl⟩⟩ | exact ⟨_, rfl, rfl, Or.inl ⟨Or.inr (Bool.of_not_eq_false (fun q => h_58 (b01_t.2 q))), rfl, rfl⟩⟩
    · refine ev_iload_1 (q := 58) dX8_remove_57 rfl ?_
      refine ev_if_eq (t := 64) (q := 61) dX8_remove_58 (by decide) rfl (by constructor <;> omega) (fun h_58 => ?_) (fun h_58 => ?_)
      · refine ev_aload_0 (q := 65) dX8_remove_64 rfl ?_
        refine ev_callV0v (q := 68) dX8_remove_65 vs_RX8_55 (by first | assumption | rfl) (c_X8_records hH) (by decide) (Nat.le_of_ble_eq_true rfl) rfl ?_
        rw [mrec_s]
        refine ev_aload_0 (q := 69) dX8_remove_68 rfl ?_
        refine ev_getR (q := 72) dX8_remove_69 fl_RX8_7 (by first | assumption | rfl) (by rfl) rfl ?_
        refine ev_iconst (q := 73) dX8_remove_72 rfl ?_
        refine ev_dup2 (q := 74) dX8_remove_73 rfl ?_
        refine ev_iaload (q := 75) dX8_remove_74 (by first | assumption | rfl) (by omega) (by first | decide | omega) rfl (fun h_74 => ?_)
        rw [z0, show setD (mrec M) (M 101) 101 0 = M 101 0 from rfl, hn0] at h_74 ⊢
        refine ev_iconst (q := 76) dX8_remove_75 rfl ?_
        refine ev_isub (q := 77) dX8_remove_76 rfl ?_
        refine ev_iastore (q := 78) dX8_remove_77 (by first | assumption | rfl) (by omega) (by first | decide | omega) (by constructor <;> omega) rfl ?_
        rw [z0, setD_up]
        refine ev_aload_0 (q := 79) dX8_remove_78 rfl ?_
        refine ev_getR (q := 82) dX8_remove_79 fl_RX8_7 (by first | assumption | rfl) (by rfl) rfl ?_
        refine ev_iconst (q := 83) dX8_remove_82 rfl ?_
        refine ev_iaload (q := 84) dX8_remove_83 (by first | assumption | rfl) (by omega) (by first | decide | omega) rfl (fun h_83 => ?_)
        rw [z0, show setD (mrec M) (fun i => if i = 0 then vel v - 1 else M 101 i) 101 0 = vel v - 1 from rfl] at h_83 ⊢
        refine ev_ireturn dX8_remove_84 rfl rfl (by constructor <;> omega) ?_
        exact ⟨_, rfl, rfl, Or.inr ⟨⟨by omega, b01_t.1 h_58⟩, rfl, setD_Dm⟩⟩
      · refine ev_bipush (q := 63) dX8_remove_61 rfl (by decide) ?_
        refine ev_ireturn dX8_remove_63 rfl rfl (by constructor <;> omega) ?_
        first | exact ⟨_, rfl, rfl, Or.inl ⟨Or.inl (by omega), rfl, rfl⟩⟩ | exact ⟨_, rfl, rfl, Or.inl ⟨Or.inr (Bool.of_not_eq_false (fun q => h_58 (b01_t.2 q))), rfl, rfl⟩⟩
  refine Ri.of (by decide) rfl (by decide) (Nat.le_of_ble_eq_true rfl) ?_
  refine (show Ev _ none _ _ _ _ _ 0 [_, _, _] [] _ from ?_)
  refine ev_iconst (q := 1) dX8_remove_0 rfl ?_
  refine ev_istore_1 (q := 2) dX8_remove_1 rfl (by decide) ?_
  refine ev_iconst (q := 3) dX8_remove_2 rfl ?_
  refine ev_istore_2 (q := 4) dX8_remove_3 rfl (by decide) ?_
  exact lp_remove (n := 0) hA hW K (vrn v).toNat 0 _ rfl (by omega)
end Sd

