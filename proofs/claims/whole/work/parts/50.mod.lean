theorem z0 : (0 : Int).toNat = 0 := rfl
theorem z1 : (1 : Int).toNat = 1 := rfl
/-- the model's entry and the class's -/
def AgE (s a b : Int) (g : Nat → Int) : Prop := (s = 0 ∧ g 0 = -1 ∧ g 1 = -1 ∧ g 2 = -1) ∨ (s = 1 ∧ g 0 = a ∧ 0 ≤ a ∧ g 1 = -1 ∧ g 2 = -1) ∨ (s = 2 ∧ g 0 = -1 ∧ g 1 = a ∧ 8 ≤ a ∧ g 2 = b)
/-- the model's numbers say what the view says -/
def Ag (f : Nat → Int) (v : Vw) : Prop := f 0 = vel v ∧ f 1 = vrn v ∧ (∀ x : Int, 0 ≤ x → x < vel v → f (2 + x).toNat = vpar v x.toNat ∧ f (18 + x).toNat = vknd v x.toNat ∧ f (34 + x).toNat = vcls v x.toNat) ∧ (∀ r w : Nat, (r : Int) < vrn v → w < 6 → f (50 + 6 * r + w) = vpt v r w) ∧ ∀ r p : Nat, (r : Int) < vrn v → p < 16 → AgE (f (146 + 48 * r + 3 * p)) (f (147 + 48 * r + 3 * p)) (f (148 + 48 * r + 3 * p)) (ven v r p)
set_option maxHeartbeats 1000000 in
theorem c_X8_in {l : Launch} {S : List ev_Sh} {M : ev_M} {x a b : Int} (hx : inR x) (ha : inR a) (hb : inR b) : Cx l 0 kX8_in yX8_in S M [vi x, vi a, vi b] (some (vi (if a ≤ x ∧ x ≤ b then 1 else 0))) M := by
  refine Cx.of (by decide) rfl (by decide) (Nat.le_of_ble_eq_true rfl) ?_
  refine (show Ev _ none _ _ _ _ _ 0 [_, _, _] [] _ from ?_)
  refine ev_iload_0 (q := 1) dX8_in_0 rfl ?_
  refine ev_iload_1 (q := 2) dX8_in_1 rfl ?_
  refine ev_icmp_lt (t := 14) (q := 5) dX8_in_2 (by decide) rfl (by constructor <;> omega) (by constructor <;> omega) (fun h_2 => ?_) (fun h_2 => ?_)
  · refine ev_iconst (q := 15) dX8_in_14 rfl ?_
    refine ev_ireturn dX8_in_15 rfl (by first | rfl | decide | (split <;> rfl) | (split <;> decide)) (by constructor <;> omega) ?_
    refine ⟨?_, rfl, ?_⟩
    · first | rfl | (refine congrArg (fun z => some (Sum.inl z)) ?_; first | rfl | omega | (split <;> omega) | (simp [*]; done))
    · first | rfl | (simp [*]; done)
  · refine ev_iload_0 (q := 6) dX8_in_5 rfl ?_
    refine ev_iload_2 (q := 7) dX8_in_6 rfl ?_
    refine ev_icmp_gt (t := 14) (q := 10) dX8_in_7 (by decide) rfl (by constructor <;> omega) (by constructor <;> omega) (fun h_7 => ?_) (fun h_7 => ?_)
    · refine ev_iconst (q := 15) dX8_in_14 rfl ?_
      refine ev_ireturn dX8_in_15 rfl (by first | rfl | decide | (split <;> rfl) | (split <;> decide)) (by constructor <;> omega) ?_
      refine ⟨?_, rfl, ?_⟩
      · first | rfl | (refine congrArg (fun z => some (Sum.inl z)) ?_; first | rfl | omega | (split <;> omega) | (simp [*]; done))
      · first | rfl | (simp [*]; done)
    · refine ev_iconst (q := 11) dX8_in_10 rfl ?_
      refine ev_goto (q := 15) dX8_in_11 (by decide) ?_
      refine ev_ireturn dX8_in_15 rfl (by first | rfl | decide | (split <;> rfl) | (split <;> decide)) (by constructor <;> omega) ?_
      refine ⟨?_, rfl, ?_⟩
      · first | rfl | (refine congrArg (fun z => some (Sum.inl z)) ?_; first | rfl | omega | (split <;> omega) | (simp [*]; done))
      · first | rfl | (simp [*]; done)
set_option maxHeartbeats 1000000 in
theorem c_X8_isElement {l : Launch} {M : ev_M} {x : Int} (hx : inR x) (hn : 1 ≤ M 101 0 ∧ M 101 0 ≤ 16) : Cx l 1 kX8_isElement yX8_isElement S0 M [vr 100, vi x] (some (vi (if 0 ≤ x ∧ x ≤ M 101 0 - 1 then 1 else 0))) M := by
  refine Cx.of (by decide) rfl (by decide) (Nat.le_of_ble_eq_true rfl) ?_
  refine (show Ev _ none _ _ _ _ _ 0 [_, _] [] _ from ?_)
  refine ev_iload_1 (q := 1) dX8_isElement_0 rfl ?_
  refine ev_iconst (q := 2) dX8_isElement_1 rfl ?_
  refine ev_aload_0 (q := 3) dX8_isElement_2 rfl ?_
  refine ev_getR (q := 6) dX8_isElement_3 fl_RX8_7 (by first | assumption | rfl) (by rfl) rfl ?_
  refine ev_iconst (q := 7) dX8_isElement_6 rfl ?_
  refine ev_iaload (q := 8) dX8_isElement_7 (by first | assumption | rfl) (by omega) (by first | decide | omega) rfl (fun h_7 => ?_)
  rw [z0] at h_7 ⊢
  refine ev_iconst (q := 9) dX8_isElement_8 rfl ?_
  refine ev_isub (q := 10) dX8_isElement_9 rfl ?_
  refine ev_callS3i (q := 13) dX8_isElement_10 ss_RX8_39 (c_X8_in (by constructor <;> omega) (by constructor <;> omega) (by constructor <;> omega)) (by decide) (Nat.le_of_ble_eq_true rfl) rfl (fun h_10 => ?_)
  refine ev_ireturn dX8_isElement_13 rfl (by first | rfl | decide | (split <;> rfl) | (split <;> decide)) (by constructor <;> omega) ?_
  refine ⟨?_, rfl, ?_⟩
  · first | rfl | (refine congrArg (fun z => some (Sum.inl z)) ?_; first | rfl | omega | (split <;> omega) | (simp [*]; done))
  · first | rfl | (simp [*]; done)
set_option maxHeartbeats 1000000 in
theorem c_X8_isRule {l : Launch} {M : ev_M} {x : Int} (hx : inR x) (hn : 0 ≤ M 101 1 ∧ M 101 1 ≤ 16) : Cx l 1 kX8_isRule yX8_isRule S0 M [vr 100, vi x] (some (vi (if 0 ≤ x ∧ x ≤ M 101 1 - 1 then 1 else 0))) M := by
  refine Cx.of (by decide) rfl (by decide) (Nat.le_of_ble_eq_true rfl) ?_
  refine (show Ev _ none _ _ _ _ _ 0 [_, _] [] _ from ?_)
  refine ev_iload_1 (q := 1) dX8_isRule_0 rfl ?_
  refine ev_iconst (q := 2) dX8_isRule_1 rfl ?_
  refine ev_aload_0 (q := 3) dX8_isRule_2 rfl ?_
  refine ev_getR (q := 6) dX8_isRule_3 fl_RX8_7 (by first | assumption | rfl) (by rfl) rfl ?_
  refine ev_iconst (q := 7) dX8_isRule_6 rfl ?_
  refine ev_iaload (q := 8) dX8_isRule_7 (by first | assumption | rfl) (by omega) (by first | decide | omega) rfl (fun h_7 => ?_)
  rw [z1] at h_7 ⊢
  refine ev_iconst (q := 9) dX8_isRule_8 rfl ?_
  refine ev_isub (q := 10) dX8_isRule_9 rfl ?_
  refine ev_callS3i (q := 13) dX8_isRule_10 ss_RX8_39 (c_X8_in (by constructor <;> omega) (by constructor <;> omega) (by constructor <;> omega)) (by decide) (Nat.le_of_ble_eq_true rfl) rfl (fun h_10 => ?_)
  refine ev_ireturn dX8_isRule_13 rfl (by first | rfl | decide | (split <;> rfl) | (split <;> decide)) (by constructor <;> omega) ?_
  refine ⟨?_, rfl, ?_⟩
  · first | rfl | (refine congrArg (fun z => some (Sum.inl z)) ?_; first | rfl | omega | (split <;> omega) | (simp [*]; done))
  · first | rfl | (simp [*]; done)
set_option maxHeartbeats 1000000 in
theorem c_X8_isProperty {l : Launch} {S : List ev_Sh} {M : ev_M} {x : Int} (hx : inR x) : Cx l 1 kX8_isProperty yX8_isProperty S M [vi x] (some (vi (if 0 ≤ x ∧ x ≤ 15 then 1 else 0))) M := by
  refine Cx.of (by decide) rfl (by decide) (Nat.le_of_ble_eq_true rfl) ?_
  refine (show Ev _ none _ _ _ _ _ 0 [_] [] _ from ?_)
  refine ev_iload_0 (q := 1) dX8_isProperty_0 rfl ?_
  refine ev_iconst (q := 2) dX8_isProperty_1 rfl ?_
  refine ev_bipush (q := 4) dX8_isProperty_2 rfl (by decide) ?_
  refine ev_callS3i (q := 7) dX8_isProperty_4 ss_RX8_39 (c_X8_in (by constructor <;> omega) (by constructor <;> omega) (by constructor <;> omega)) (by decide) (Nat.le_of_ble_eq_true rfl) rfl (fun h_4 => ?_)
  refine ev_ireturn dX8_isProperty_7 rfl (by first | rfl | decide | (split <;> rfl) | (split <;> decide)) (by constructor <;> omega) ?_
  refine ⟨?_, rfl, ?_⟩
  · first | rfl | (refine congrArg (fun z => some (Sum.inl z)) ?_; first | rfl | omega | (split <;> omega) | (simp [*]; done))
  · first | rfl | (simp [*]; done)
set_option maxHeartbeats 1000000 in
theorem c_X8_isDress {l : Launch} {S : List ev_Sh} {M : ev_M} {x y : Int} (hx : inR x) (hy : inR y) : Cx l 1 kX8_isDress yX8_isDress S M [vi x, vi y] (some (vi (if (0 ≤ x ∧ x ≤ 5) ∧ 0 ≤ y ∧ y ≤ 15 then 1 else 0))) M := by
  refine Cx.of (by decide) rfl (by decide) (Nat.le_of_ble_eq_true rfl) ?_
  refine (show Ev _ none _ _ _ _ _ 0 [_, _] [] _ from ?_)
  refine ev_iload_0 (q := 1) dX8_isDress_0 rfl ?_
  refine ev_iconst (q := 2) dX8_isDress_1 rfl ?_
  refine ev_iconst (q := 3) dX8_isDress_2 rfl ?_
  refine ev_callS3i (q := 6) dX8_isDress_3 ss_RX8_39 (c_X8_in (by constructor <;> omega) (by constructor <;> omega) (by constructor <;> omega)) (by decide) (Nat.le_of_ble_eq_true rfl) rfl (fun h_3 => ?_)
  refine ev_b_eq (t := 23) (q := 9) dX8_isDress_6 (by decide) rfl (fun h_6 => ?_) (fun h_6 => ?_)
  · refine ev_iconst (q := 24) dX8_isDress_23 rfl ?_
    refine ev_ireturn dX8_isDress_24 rfl (by first | rfl | decide | (split <;> rfl) | (split <;> decide)) (by constructor <;> omega) ?_
    refine ⟨?_, rfl, ?_⟩
    · first | rfl | (refine congrArg (fun z => some (Sum.inl z)) ?_; first | rfl | omega | (split <;> omega) | (simp [*]; done))
    · first | rfl | (simp [*]; done)
  · refine ev_iload_1 (q := 10) dX8_isDress_9 rfl ?_
    refine ev_iconst (q := 11) dX8_isDress_10 rfl ?_
    refine ev_bipush (q := 13) dX8_isDress_11 rfl (by decide) ?_
    refine ev_callS3i (q := 16) dX8_isDress_13 ss_RX8_39 (c_X8_in (by constructor <;> omega) (by constructor <;> omega) (by constructor <;> omega)) (by decide) (Nat.le_of_ble_eq_true rfl) rfl (fun h_13 => ?_)
    refine ev_b_eq (t := 23) (q := 19) dX8_isDress_16 (by decide) rfl (fun h_16 => ?_) (fun h_16 => ?_)
    · refine ev_iconst (q := 24) dX8_isDress_23 rfl ?_
      refine ev_ireturn dX8_isDress_24 rfl (by first | rfl | decide | (split <;> rfl) | (split <;> decide)) (by constructor <;> omega) ?_
      refine ⟨?_, rfl, ?_⟩
      · first | rfl | (refine congrArg (fun z => some (Sum.inl z)) ?_; first | rfl | omega | (split <;> omega) | (simp [*]; done))
      · first | rfl | (simp [*]; done)
    · refine ev_iconst (q := 20) dX8_isDress_19 rfl ?_
      refine ev_goto (q := 24) dX8_isDress_20 (by decide) ?_
      refine ev_ireturn dX8_isDress_24 rfl (by first | rfl | decide | (split <;> rfl) | (split <;> decide)) (by constructor <;> omega) ?_
      refine ⟨?_, rfl, ?_⟩
      · first | rfl | (refine congrArg (fun z => some (Sum.inl z)) ?_; first | rfl | omega | (split <;> omega) | (simp [*]; done))
      · first | rfl | (simp [*]; done)
set_option maxHeartbeats 1000000 in
theorem c_X8_isScope {l : Launch} {M : ev_M} {x : Int} (hx : inR x) (hn : 1 ≤ M 101 0 ∧ M 101 0 ≤ 16) : Cx l 2 kX8_isScope yX8_isScope S0 M [vr 100, vi x] (some (vi (if x = -1 ∨ 0 ≤ x ∧ x ≤ M 101 0 - 1 then 1 else 0))) M := by
  refine Cx.of (by decide) rfl (by decide) (Nat.le_of_ble_eq_true rfl) ?_
  refine (show Ev _ none _ _ _ _ _ 0 [_, _] [] _ from ?_)
  refine ev_iload_1 (q := 1) dX8_isScope_0 rfl ?_
  refine ev_iconst (q := 2) dX8_isScope_1 rfl ?_
  refine ev_icmp_eq (t := 13) (q := 5) dX8_isScope_2 (by decide) rfl (by constructor <;> omega) (by constructor <;> omega) (fun h_2 => ?_) (fun h_2 => ?_)
  · refine ev_iconst (q := 14) dX8_isScope_13 rfl ?_
    refine ev_goto (q := 18) dX8_isScope_14 (by decide) ?_
    refine ev_ireturn dX8_isScope_18 rfl (by first | rfl | decide | (split <;> rfl) | (split <;> decide)) (by constructor <;> omega) ?_
    refine ⟨?_, rfl, ?_⟩
    · first | rfl | (refine congrArg (fun z => some (Sum.inl z)) ?_; first | rfl | omega | (split <;> omega) | (simp [*]; done))
    · first | rfl | (simp [*]; done)
  · refine ev_aload_0 (q := 6) dX8_isScope_5 rfl ?_
    refine ev_iload_1 (q := 7) dX8_isScope_6 rfl ?_
    refine ev_callV1i (q := 10) dX8_isScope_7 vs_RX8_47 (by first | assumption | rfl) (c_X8_isElement (by constructor <;> omega) (by omega)) (by decide) (Nat.le_of_ble_eq_true rfl) rfl (fun h_7 => ?_)
    refine ev_b_eq (t := 17) (q := 13) dX8_isScope_10 (by decide) rfl (fun h_10 => ?_) (fun h_10 => ?_)
    · refine ev_iconst (q := 18) dX8_isScope_17 rfl ?_
      refine ev_ireturn dX8_isScope_18 rfl (by first | rfl | decide | (split <;> rfl) | (split <;> decide)) (by constructor <;> omega) ?_
      refine ⟨?_, rfl, ?_⟩
      · first | rfl | (refine congrArg (fun z => some (Sum.inl z)) ?_; first | rfl | omega | (split <;> omega) | (simp [*]; done))
      · first | rfl | (simp [*]; done)
    · refine ev_iconst (q := 14) dX8_isScope_13 rfl ?_
      refine ev_goto (q := 18) dX8_isScope_14 (by decide) ?_
      refine ev_ireturn dX8_isScope_18 rfl (by first | rfl | decide | (split <;> rfl) | (split <;> decide)) (by constructor <;> omega) ?_
      refine ⟨?_, rfl, ?_⟩
      · first | rfl | (refine congrArg (fun z => some (Sum.inl z)) ?_; first | rfl | omega | (split <;> omega) | (simp [*]; done))
      · first | rfl | (simp [*]; done)
set_option maxHeartbeats 1000000 in
theorem c_X8_of {l : Launch} {M : ev_M} {r w : Nat} (hr : r < 16) (hw : w < 6) : Cx l 0 kX8_of yX8_of S0 M [vr 100, vi (r : Int), vi (w : Int)] (some (vi (M 101 (50 + 6 * r + w)))) M := by
  refine Cx.of (by decide) rfl (by decide) (Nat.le_of_ble_eq_true rfl) ?_
  refine (show Ev _ none _ _ _ _ _ 0 [_, _, _] [] _ from ?_)
  refine ev_aload_0 (q := 1) dX8_of_0 rfl ?_
  refine ev_getR (q := 4) dX8_of_1 fl_RX8_7 (by first | assumption | rfl) (by rfl) rfl ?_
  refine ev_bipush (q := 6) dX8_of_4 rfl (by decide) ?_
  refine ev_bipush (q := 8) dX8_of_6 rfl (by decide) ?_
  refine ev_iload_1 (q := 9) dX8_of_8 rfl ?_
  refine ev_imul (q := 10) dX8_of_9 rfl ?_
  refine ev_iadd (q := 11) dX8_of_10 rfl ?_
  refine ev_iload_2 (q := 12) dX8_of_11 rfl ?_
  refine ev_iadd (q := 13) dX8_of_12 rfl ?_
  refine ev_iaload (q := 14) dX8_of_13 (by first | assumption | rfl) (by omega) (by first | decide | omega) rfl (fun h_13 => ?_)
  refine ev_ireturn dX8_of_14 rfl rfl (by constructor <;> omega) ?_
  exact ⟨by rw [show (50 + 6 * (r : Int) + (w : Int)).toNat = 50 + 6 * r + w by omega], rfl, rfl⟩
theorem c_X8_ofV {l : Launch} {M : ev_M} {v : Vw} {r w : Nat} (hA : Ag (M 101) v) (hr2 : (r : Int) < vrn v) (hr : r < 16) (hw : w < 6) : Cx l 0 kX8_of yX8_of S0 M [vr 100, vi (r : Int), vi (w : Int)] (some (vi (vpt v r w))) M := by
  have := c_X8_of (l := l) (M := M) hr hw
  rw [hA.2.2.2.1 r w hr2 hw] at this
  exact this
set_option maxHeartbeats 1000000 in
theorem c_X8_says {l : Launch} {S : List ev_Sh} {M : ev_M} {r p : Int} (hr : 0 ≤ r ∧ r < 100) (hp : 0 ≤ p ∧ p < 100) : Cx l 0 kX8_says yX8_says S M [vi r, vi p] (some (vi (146 + 48 * r + 3 * p))) M := by
  refine Cx.of (by decide) rfl (by decide) (Nat.le_of_ble_eq_true rfl) ?_
  refine (show Ev _ none _ _ _ _ _ 0 [_, _] [] _ from ?_)
  refine ev_sipush (q := 3) dX8_says_0 rfl (by decide) ?_
  refine ev_bipush (q := 5) dX8_says_3 rfl (by decide) ?_
  refine ev_iload_0 (q := 6) dX8_says_5 rfl ?_
  refine ev_imul (q := 7) dX8_says_6 rfl ?_
  refine ev_iadd (q := 8) dX8_says_7 rfl ?_
  refine ev_iconst (q := 9) dX8_says_8 rfl ?_
  refine ev_iload_1 (q := 10) dX8_says_9 rfl ?_
  refine ev_imul (q := 11) dX8_says_10 rfl ?_
  refine ev_iadd (q := 12) dX8_says_11 rfl ?_
  refine ev_ireturn dX8_says_12 rfl rfl (by constructor <;> omega) ?_
  refine ⟨?_, rfl, ?_⟩
  · first | rfl | (refine congrArg (fun z => some (Sum.inl z)) ?_; first | rfl | omega | (split <;> omega) | (simp [*]; done))
  · first | rfl | (simp [*]; done)
set_option maxHeartbeats 1000000 in
theorem lp_X8_stepsTo {l : Launch} {M : ev_M} {v : Vw} {e a : Int} (hA : Ag (M 101) v) (hW : Wf v) (ha : inR a) (ha0 : 0 ≤ a) : ∀ (n : Nat) (x s r : Int), s = 16 - (n : Int) → n ≤ 16 → -1 ≤ x → x < vel v → x < n → r = (if stp (vpar v) n x a < 0 then -1 else stp (vpar v) n x a + s) → Ev l none 0 kX8_stepsTo (0, 0) S0 M 5 [some (vr 100), some (vi e), some (vi a), some (vi s), some (vi x)] [] (QX (some (vi r)) S0 M) := by
  have h1 := hW.1
  intro n
  induction n with
  | zero =>
    intro x s r hs hn h0 h2 h3 hr
    unfold stp at hr
    refine ev_iload_4 (q := 7) dX8_stepsTo_5 rfl ?_
    refine ev_iconst (q := 8) dX8_stepsTo_7 rfl ?_
    refine ev_icmp_eq (t := 34) (q := 11) dX8_stepsTo_8 (by decide) rfl (by constructor <;> omega) (by constructor <;> omega) (fun h_8 => ?_) (fun h_8 => ?_)
    · refine ev_iload_4 (q := 36) dX8_stepsTo_34 rfl ?_
      refine ev_iload_2 (q := 37) dX8_stepsTo_36 rfl ?_
      refine ev_icmp_ne (t := 44) (q := 40) dX8_stepsTo_37 (by decide) rfl (by constructor <;> omega) (by constructor <;> omega) (fun h_37 => ?_) (fun h_37 => ?_)
      · refine ev_iconst (q := 45) dX8_stepsTo_44 rfl ?_
        refine ev_ireturn dX8_stepsTo_45 rfl rfl (by constructor <;> omega) ?_
        exact ⟨by rw [hr]; first | rfl | omega, rfl, rfl⟩
      · refine ev_iload_3 (q := 41) dX8_stepsTo_40 rfl ?_
        refine ev_goto (q := 45) dX8_stepsTo_41 (by decide) ?_
        refine ev_ireturn dX8_stepsTo_45 rfl rfl (by constructor <;> omega) ?_
        exact ⟨by rw [hr]; first | rfl | omega, rfl, rfl⟩
    · refine ev_iload_4 (q := 13) dX8_stepsTo_11 rfl ?_
      refine ev_iload_2 (q := 14) dX8_stepsTo_13 rfl ?_
      refine ev_icmp_eq (t := 34) (q := 17) dX8_stepsTo_14 (by decide) rfl (by constructor <;> omega) (by constructor <;> omega) (fun h_14 => ?_) (fun h_14 => ?_)
      · refine ev_iload_4 (q := 36) dX8_stepsTo_34 rfl ?_
        refine ev_iload_2 (q := 37) dX8_stepsTo_36 rfl ?_
        refine ev_icmp_ne (t := 44) (q := 40) dX8_stepsTo_37 (by decide) rfl (by constructor <;> omega) (by constructor <;> omega) (fun h_37 => ?_) (fun h_37 => ?_)
        · refine ev_iconst (q := 45) dX8_stepsTo_44 rfl ?_
          refine ev_ireturn dX8_stepsTo_45 rfl rfl (by constructor <;> omega) ?_
          exact ⟨by rw [hr]; first | rfl | omega, rfl, rfl⟩
        · refine ev_iload_3 (q := 41) dX8_stepsTo_40 rfl ?_
          refine ev_goto (q := 45) dX8_stepsTo_41 (by decide) ?_
          refine ev_ireturn dX8_stepsTo_45 rfl rfl (by constructor <;> omega) ?_
          exact ⟨by rw [hr]; first | rfl | omega, rfl, rfl⟩
      · refine ev_aload_0 (q := 18) dX8_stepsTo_17 rfl ?_
        refine ev_getR (q := 21) dX8_stepsTo_18 fl_RX8_7 (by first | assumption | rfl) (by rfl) rfl ?_
        refine ev_iconst (q := 22) dX8_stepsTo_21 rfl ?_
        refine ev_iload_4 (q := 24) dX8_stepsTo_22 rfl ?_
        refine ev_iadd (q := 25) dX8_stepsTo_24 rfl ?_
        refine ev_iaload (q := 26) dX8_stepsTo_25 (by first | assumption | rfl) (by omega) (by first | decide | omega) rfl (fun h_25 => ?_)
        refine ev_istore_4 (q := 28) dX8_stepsTo_26 rfl (by decide) ?_
        refine ev_iinc_3 (q := 31) dX8_stepsTo_28 rfl (by decide) ?_
        refine ev_goto (q := 5) dX8_stepsTo_31 (by decide) ?_
        omega
  | succ n ih =>
    intro x s r hs hn h0 h2 h3 hr
    have hst := stp_rng (vpar v) n (vpar v x.toNat) a
    have hsr := stp_rng (vpar v) (n + 1) x a
    have hpp : 0 ≤ x → -1 ≤ vpar v x.toNat ∧ vpar v x.toNat < x := fun h => by have := (hW.2.2.1 x.toNat (by omega)).1; omega
    unfold stp at hr hsr
    refine ev_iload_4 (q := 7) dX8_stepsTo_5 rfl ?_
    refine ev_iconst (q := 8) dX8_stepsTo_7 rfl ?_
    refine ev_icmp_eq (t := 34) (q := 11) dX8_stepsTo_8 (by decide) rfl (by constructor <;> omega) (by constructor <;> omega) (fun h_8 => ?_) (fun h_8 => ?_)
    · refine ev_iload_4 (q := 36) dX8_stepsTo_34 rfl ?_
      refine ev_iload_2 (q := 37) dX8_stepsTo_36 rfl ?_
      refine ev_icmp_ne (t := 44) (q := 40) dX8_stepsTo_37 (by decide) rfl (by constructor <;> omega) (by constructor <;> omega) (fun h_37 => ?_) (fun h_37 => ?_)
      · refine ev_iconst (q := 45) dX8_stepsTo_44 rfl ?_
        refine ev_ireturn dX8_stepsTo_45 rfl rfl (by constructor <;> omega) ?_
        refine ⟨congrArg (fun z => some (Sum.inl z)) ?_, rfl, rfl⟩
        rw [hr]; (repeat' split) <;> omega
      · refine ev_iload_3 (q := 41) dX8_stepsTo_40 rfl ?_
        refine ev_goto (q := 45) dX8_stepsTo_41 (by decide) ?_
        refine ev_ireturn dX8_stepsTo_45 rfl rfl (by constructor <;> omega) ?_
        refine ⟨congrArg (fun z => some (Sum.inl z)) ?_, rfl, rfl⟩
        rw [hr]; (repeat' split) <;> omega
    · refine ev_iload_4 (q := 13) dX8_stepsTo_11 rfl ?_
      refine ev_iload_2 (q := 14) dX8_stepsTo_13 rfl ?_
      refine ev_icmp_eq (t := 34) (q := 17) dX8_stepsTo_14 (by decide) rfl (by constructor <;> omega) (by constructor <;> omega) (fun h_14 => ?_) (fun h_14 => ?_)
      · refine ev_iload_4 (q := 36) dX8_stepsTo_34 rfl ?_
        refine ev_iload_2 (q := 37) dX8_stepsTo_36 rfl ?_
        refine ev_icmp_ne (t := 44) (q := 40) dX8_stepsTo_37 (by decide) rfl (by constructor <;> omega) (by constructor <;> omega) (fun h_37 => ?_) (fun h_37 => ?_)
        · refine ev_iconst (q := 45) dX8_stepsTo_44 rfl ?_
          refine ev_ireturn dX8_stepsTo_45 rfl rfl (by constructor <;> omega) ?_
          refine ⟨congrArg (fun z => some (Sum.inl z)) ?_, rfl, rfl⟩
          rw [hr]; (repeat' split) <;> omega
        · refine ev_iload_3 (q := 41) dX8_stepsTo_40 rfl ?_
          refine ev_goto (q := 45) dX8_stepsTo_41 (by decide) ?_
          refine ev_ireturn dX8_stepsTo_45 rfl rfl (by constructor <;> omega) ?_
          refine ⟨congrArg (fun z => some (Sum.inl z)) ?_, rfl, rfl⟩
          rw [hr]; (repeat' split) <;> omega
      · refine ev_aload_0 (q := 18) dX8_stepsTo_17 rfl ?_
        refine ev_getR (q := 21) dX8_stepsTo_18 fl_RX8_7 (by first | assumption | rfl) (by rfl) rfl ?_
        refine ev_iconst (q := 22) dX8_stepsTo_21 rfl ?_
        refine ev_iload_4 (q := 24) dX8_stepsTo_22 rfl ?_
        refine ev_iadd (q := 25) dX8_stepsTo_24 rfl ?_
        refine ev_iaload (q := 26) dX8_stepsTo_25 (by first | assumption | rfl) (by omega) (by first | decide | omega) rfl (fun h_25 => ?_)
        rw [(hA.2.2.1 x (by omega) (by omega)).1] at h_25 ⊢
        refine ev_istore_4 (q := 28) dX8_stepsTo_26 rfl (by decide) ?_
        refine ev_iinc_3 (q := 31) dX8_stepsTo_28 rfl (by decide) ?_
        refine ev_goto (q := 5) dX8_stepsTo_31 (by decide) ?_
        refine ih _ _ _ ?_ ?_ ?_ ?_ ?_ ?_
        · omega
        · omega
        · have := hpp (by omega); omega
        · have := hpp (by omega); omega
        · have := hpp (by omega); omega
        · rw [hr]; (repeat' split) <;> omega
set_option maxHeartbeats 1000000 in
theorem c_X8_stepsTo {l : Launch} {M : ev_M} {v : Vw} {x a : Int} (hA : Ag (M 101) v) (hW : Wf v) (hx : 0 ≤ x ∧ x < vel v) (ha : inR a) (ha0 : 0 ≤ a) : Cx l 0 kX8_stepsTo yX8_stepsTo S0 M [vr 100, vi x, vi a] (some (vi (stp (vpar v) 16 x a))) M := by
  have h1 := hW.1
  have hst := stp_rng (vpar v) 16 x a
  refine Cx.of (by decide) rfl (by decide) (Nat.le_of_ble_eq_true rfl) ?_
  refine (show Ev _ none _ _ _ _ _ 0 [_, _, _, _, _] [] _ from ?_)
  refine ev_iconst (q := 1) dX8_stepsTo_0 rfl ?_
  refine ev_istore_3 (q := 2) dX8_stepsTo_1 rfl (by decide) ?_
  refine ev_iload_1 (q := 3) dX8_stepsTo_2 rfl ?_
  refine ev_istore_4 (q := 5) dX8_stepsTo_3 rfl (by decide) ?_
  exact lp_X8_stepsTo hA hW ha ha0 16 x 0 _ (by omega) (by omega) (by omega) (by omega) (by omega) (by split <;> omega)
theorem sub_at : ∀ c d : Fin 16, ((Int32.ofInt (c.val : Int) &&& Int32.ofInt ((Int32.ofInt (d.val : Int) ^^^ Int32.ofInt (-1)).toInt)).toInt = 0 ↔ (Int32.ofInt (d.val : Int) &&& Int32.ofInt (c.val : Int)).toInt = (c.val : Int)) := by decide
theorem sub_eq {c d : Int} (hc : 0 ≤ c ∧ c ≤ 15) (hd : 0 ≤ d ∧ d ≤ 15) : ((Int32.ofInt c &&& Int32.ofInt ((Int32.ofInt d ^^^ Int32.ofInt (-1)).toInt)).toInt = 0 ↔ subB c d = true) := by
  obtain ⟨c', rfl⟩ : ∃ c' : Nat, c = c' := ⟨c.toNat, by omega⟩
  obtain ⟨d', rfl⟩ : ∃ d' : Nat, d = d' := ⟨d.toNat, by omega⟩
  have := sub_at ⟨c', by omega⟩ ⟨d', by omega⟩
  rw [this, subB, decide_eq_true_iff]
theorem bit_at : ∀ (c : Fin 16) (k : Fin 4), (Int32.ofInt ((Int32.ofInt (c.val : Int) >>> (Int32.ofInt (k.val : Int) &&& 31)).toInt) &&& Int32.ofInt 1).toInt = ((c.val / 2 ^ k.val % 2 : Nat) : Int) := by decide
def pk (c : Nat) : Nat → Int
  | 0 => 0
  | j + 1 => pk c j + 10 * ((c / 2 ^ j % 2 : Nat) : Int)
theorem pk_4 : ∀ c : Fin 16, pk c.val 4 = 10 * pop4 (c.val : Int) := by decide
theorem pk_rng (c : Nat) : ∀ j, 0 ≤ pk c j ∧ pk c j ≤ 10 * j
  | 0 => ⟨Int.le_refl _, Int.le_refl _⟩
  | j + 1 => by
    have := pk_rng c j
    have h2 := Nat.mod_lt (c / 2 ^ j) (show 2 > 0 by decide)
    unfold pk
    omega
set_option maxHeartbeats 1000000 in
theorem lp_X8_specificity {l : Launch} {M : ev_M} {v : Vw} {r c : Nat} (hA : Ag (M 101) v) (hr2 : (r : Int) < vrn v) (hr : r < 16) (hc : vpt v r 1 = (c : Int)) (hc2 : c < 16) {b : Int} (hb : 0 ≤ b ∧ b ≤ 2) : ∀ (n j : Nat) (x y : Int), x = j → j + n = 4 → y = b + pk c j → Ev l none 1 kX8_specificity (0, 0) S0 M 34 [some (vr 100), some (vi (r : Int)), some (vi y), some (vi x)] [] (QX (some (vi (b + pk c 4))) S0 M) := by
  intro n
  induction n with
  | zero =>
    intro j x y hx hn hy
    have hj : j = 4 := by omega
    subst hj
    have := pk_rng c 4
    refine ev_iload_3 (q := 35) dX8_specificity_34 rfl ?_
    refine ev_iconst (q := 36) dX8_specificity_35 rfl ?_
    refine ev_icmp_ge (t := 61) (q := 39) dX8_specificity_36 (by decide) rfl (by constructor <;> omega) (by constructor <;> omega) (fun h_36 => ?_) (fun h_36 => ?_)
    · refine ev_iload_2 (q := 62) dX8_specificity_61 rfl ?_
      refine ev_ireturn dX8_specificity_62 rfl rfl (by constructor <;> omega) ?_
      exact ⟨by rw [hy], rfl, rfl⟩
    · omega
  | succ n ih =>
    intro j x y hx hn hy
    subst hx
    have h1 := pk_rng c j
    have h2 := Nat.mod_lt (c / 2 ^ j) (show 2 > 0 by decide)
    have hb := bit_at ⟨c, hc2⟩ ⟨j, by omega⟩
    refine ev_iload_3 (q := 35) dX8_specificity_34 rfl ?_
    refine ev_iconst (q := 36) dX8_specificity_35 rfl ?_
    refine ev_icmp_ge (t := 61) (q := 39) dX8_specificity_36 (by decide) rfl (by constructor <;> omega) (by constructor <;> omega) (fun h_36 => ?_) (fun h_36 => ?_)
    · refine ev_iload_2 (q := 62) dX8_specificity_61 rfl ?_
      refine ev_ireturn dX8_specificity_62 rfl rfl (by constructor <;> omega) ?_
      omega
    · refine ev_iload_2 (q := 40) dX8_specificity_39 rfl ?_
      refine ev_bipush (q := 42) dX8_specificity_40 rfl (by decide) ?_
      refine ev_aload_0 (q := 43) dX8_specificity_42 rfl ?_
      refine ev_iload_1 (q := 44) dX8_specificity_43 rfl ?_
      refine ev_iconst (q := 45) dX8_specificity_44 rfl ?_
      refine ev_callV2i (q := 48) dX8_specificity_45 vs_RX8_58 (by first | assumption | rfl) (c_X8_ofV (w := 1) hA hr2 hr (by decide)) (by decide) (Nat.le_of_ble_eq_true rfl) rfl (fun h_45 => ?_)
      refine ev_iload_3 (q := 49) dX8_specificity_48 rfl ?_
      refine ev_ishr (q := 50) dX8_specificity_49 rfl ?_
      refine ev_iconst (q := 51) dX8_specificity_50 rfl ?_
      refine ev_iand (q := 52) dX8_specificity_51 rfl ?_
      rw [show (Int32.ofInt ((Int32.ofInt (vpt v r 1) >>> (Int32.ofInt (j : Int) &&& 31)).toInt) &&& Int32.ofInt 1).toInt = ((c / 2 ^ j % 2 : Nat) : Int) by rw [hc]; exact hb]
      refine ev_imul (q := 53) dX8_specificity_52 rfl ?_
      refine ev_iadd (q := 54) dX8_specificity_53 rfl ?_
      refine ev_istore_2 (q := 55) dX8_specificity_54 rfl (by decide) ?_
      refine ev_iinc_3 (q := 58) dX8_specificity_55 rfl (by decide) ?_
      refine ev_goto (q := 34) dX8_specificity_58 (by decide) ?_
      refine ih (j + 1) _ _ (by omega) (by omega) ?_
      unfold pk
      omega
set_option maxHeartbeats 1000000 in
theorem c_X8_specificity {l : Launch} {M : ev_M} {v : Vw} {r : Nat} (hA : Ag (M 101) v) (hW : Wf v) (hr2 : (r : Int) < vrn v) : Cx l 1 kX8_specificity yX8_specificity S0 M [vr 100, vi (r : Int)] (some (vi (spc (vpt v r 0) (vpt v r 1) (vpt v r 2)))) M := by
  have h2 := hW.2.1
  have hp := hW.2.2.2.1 r hr2
  obtain ⟨c, hc⟩ : ∃ c : Nat, vpt v r 1 = (c : Int) := ⟨(vpt v r 1).toNat, by omega⟩
  have h4 : pk c 4 = 10 * pop4 (c : Int) := pk_4 ⟨c, by omega⟩
  have hs : ∀ b : Int, 0 ≤ b ∧ b ≤ 2 → b = (if vpt v r 0 = -1 then 0 else 1) + (if vpt v r 2 = -1 then 0 else 1) → b + pk c 4 = spc (vpt v r 0) (vpt v r 1) (vpt v r 2) := fun b _ hb => by
    rw [spc, hc, hb]; omega
  have key : ∀ y : Int, y = (if vpt v r 0 = -1 then 0 else 1) + (if vpt v r 2 = -1 then 0 else 1) → 0 ≤ y ∧ y ≤ 2 → Ev l none 1 kX8_specificity (0, 0) S0 M 34 [some (vr 100), some (vi (r : Int)), some (vi y), some (vi 0)] [] (QX (some (vi (spc (vpt v r 0) (vpt v r 1) (vpt v r 2)))) S0 M) := fun y hy hb => by
    have := lp_X8_specificity (l := l) (M := M) hA hr2 (by omega) hc (by omega) hb 4 0 0 (y + pk c 0) rfl rfl rfl
    rw [hs y hb hy] at this
    rw [show y + pk c 0 = y from Int.add_zero y] at this
    exact this
  refine Cx.of (by decide) rfl (by decide) (Nat.le_of_ble_eq_true rfl) ?_
  refine (show Ev _ none _ _ _ _ _ 0 [_, _, _, _] [] _ from ?_)
  refine ev_aload_0 (q := 1) dX8_specificity_0 rfl ?_
  refine ev_iload_1 (q := 2) dX8_specificity_1 rfl ?_
  refine ev_iconst (q := 3) dX8_specificity_2 rfl ?_
  refine ev_callV2i (q := 6) dX8_specificity_3 vs_RX8_58 (by first | assumption | rfl) (c_X8_ofV (w := 0) hA hr2 (by omega) (by decide)) (by decide) (Nat.le_of_ble_eq_true rfl) rfl (fun h_3 => ?_)
  refine ev_iconst (q := 7) dX8_specificity_6 rfl ?_
  refine ev_icmp_ne (t := 14) (q := 10) dX8_specificity_7 (by decide) rfl (by constructor <;> omega) (by constructor <;> omega) (fun h_7 => ?_) (fun h_7 => ?_)
  · refine ev_iconst (q := 15) dX8_specificity_14 rfl ?_
    refine ev_aload_0 (q := 16) dX8_specificity_15 rfl ?_
    refine ev_iload_1 (q := 17) dX8_specificity_16 rfl ?_
    refine ev_iconst (q := 18) dX8_specificity_17 rfl ?_
    refine ev_callV2i (q := 21) dX8_specificity_18 vs_RX8_58 (by first | assumption | rfl) (c_X8_ofV (w := 2) hA hr2 (by omega) (by decide)) (by decide) (Nat.le_of_ble_eq_true rfl) rfl (fun h_18 => ?_)
    refine ev_iconst (q := 22) dX8_specificity_21 rfl ?_
    refine ev_icmp_ne (t := 29) (q := 25) dX8_specificity_22 (by decide) rfl (by constructor <;> omega) (by constructor <;> omega) (fun h_22 => ?_) (fun h_22 => ?_)
    · refine ev_iconst (q := 30) dX8_specificity_29 rfl ?_
      refine ev_iadd (q := 31) dX8_specificity_30 rfl ?_
      refine ev_istore_2 (q := 32) dX8_specificity_31 rfl (by decide) ?_
      refine ev_iconst (q := 33) dX8_specificity_32 rfl ?_
      refine ev_istore_3 (q := 34) dX8_specificity_33 rfl (by decide) ?_
      exact key _ (by (repeat' split) <;> omega) (by omega)
    · refine ev_iconst (q := 26) dX8_specificity_25 rfl ?_
      refine ev_goto (q := 30) dX8_specificity_26 (by decide) ?_
      refine ev_iadd (q := 31) dX8_specificity_30 rfl ?_
      refine ev_istore_2 (q := 32) dX8_specificity_31 rfl (by decide) ?_
      refine ev_iconst (q := 33) dX8_specificity_32 rfl ?_
      refine ev_istore_3 (q := 34) dX8_specificity_33 rfl (by decide) ?_
      exact key _ (by (repeat' split) <;> omega) (by omega)
  · refine ev_iconst (q := 11) dX8_specificity_10 rfl ?_
    refine ev_goto (q := 15) dX8_specificity_11 (by decide) ?_
    refine ev_aload_0 (q := 16) dX8_specificity_15 rfl ?_
    refine ev_iload_1 (q := 17) dX8_specificity_16 rfl ?_
    refine ev_iconst (q := 18) dX8_specificity_17 rfl ?_
    refine ev_callV2i (q := 21) dX8_specificity_18 vs_RX8_58 (by first | assumption | rfl) (c_X8_ofV (w := 2) hA hr2 (by omega) (by decide)) (by decide) (Nat.le_of_ble_eq_true rfl) rfl (fun h_18 => ?_)
    refine ev_iconst (q := 22) dX8_specificity_21 rfl ?_
    refine ev_icmp_ne (t := 29) (q := 25) dX8_specificity_22 (by decide) rfl (by constructor <;> omega) (by constructor <;> omega) (fun h_22 => ?_) (fun h_22 => ?_)
    · refine ev_iconst (q := 30) dX8_specificity_29 rfl ?_
      refine ev_iadd (q := 31) dX8_specificity_30 rfl ?_
      refine ev_istore_2 (q := 32) dX8_specificity_31 rfl (by decide) ?_
      refine ev_iconst (q := 33) dX8_specificity_32 rfl ?_
      refine ev_istore_3 (q := 34) dX8_specificity_33 rfl (by decide) ?_
      exact key _ (by (repeat' split) <;> omega) (by omega)
    · refine ev_iconst (q := 26) dX8_specificity_25 rfl ?_
      refine ev_goto (q := 30) dX8_specificity_26 (by decide) ?_
      refine ev_iadd (q := 31) dX8_specificity_30 rfl ?_
      refine ev_istore_2 (q := 32) dX8_specificity_31 rfl (by decide) ?_
      refine ev_iconst (q := 33) dX8_specificity_32 rfl ?_
      refine ev_istore_3 (q := 34) dX8_specificity_33 rfl (by decide) ?_
      exact key _ (by (repeat' split) <;> omega) (by omega)

