set_option maxHeartbeats 1000000 in
theorem c_X7_isWithin {l : Launch} {S : List ev_Sh} {M : ev_M} {x a b : Int} (hx : inR x) (ha : inR a) (hb : inR b) : Cx l 0 kX7_isWithin yX7_isWithin S M [vi x, vi a, vi b] (some (vi (if a ≤ x ∧ x ≤ b then 1 else 0))) M := by
  refine Cx.of (by decide) rfl (by decide) (Nat.le_of_ble_eq_true rfl) ?_
  refine (show Ev _ none _ _ _ _ _ 0 [_, _, _] [] _ from ?_)
  refine ev_iload_0 (q := 1) dX7_isWithin_0 rfl ?_
  refine ev_iload_1 (q := 2) dX7_isWithin_1 rfl ?_
  refine ev_icmp_lt (t := 14) (q := 5) dX7_isWithin_2 (by decide) rfl (by constructor <;> omega) (by constructor <;> omega) (fun h_2 => ?_) (fun h_2 => ?_)
  · refine ev_iconst (q := 15) dX7_isWithin_14 rfl ?_
    refine ev_ireturn dX7_isWithin_15 rfl (by first | rfl | decide | (split <;> rfl) | (split <;> decide)) (by constructor <;> omega) ?_
    refine ⟨?_, rfl, ?_⟩
    · first | rfl | (refine congrArg (fun z => some (Sum.inl z)) ?_; first | rfl | omega | (split <;> omega) | (simp [*]; done))
    · first | rfl | (simp [*]; done)
  · refine ev_iload_0 (q := 6) dX7_isWithin_5 rfl ?_
    refine ev_iload_2 (q := 7) dX7_isWithin_6 rfl ?_
    refine ev_icmp_gt (t := 14) (q := 10) dX7_isWithin_7 (by decide) rfl (by constructor <;> omega) (by constructor <;> omega) (fun h_7 => ?_) (fun h_7 => ?_)
    · refine ev_iconst (q := 15) dX7_isWithin_14 rfl ?_
      refine ev_ireturn dX7_isWithin_15 rfl (by first | rfl | decide | (split <;> rfl) | (split <;> decide)) (by constructor <;> omega) ?_
      refine ⟨?_, rfl, ?_⟩
      · first | rfl | (refine congrArg (fun z => some (Sum.inl z)) ?_; first | rfl | omega | (split <;> omega) | (simp [*]; done))
      · first | rfl | (simp [*]; done)
    · refine ev_iconst (q := 11) dX7_isWithin_10 rfl ?_
      refine ev_goto (q := 15) dX7_isWithin_11 (by decide) ?_
      refine ev_ireturn dX7_isWithin_15 rfl (by first | rfl | decide | (split <;> rfl) | (split <;> decide)) (by constructor <;> omega) ?_
      refine ⟨?_, rfl, ?_⟩
      · first | rfl | (refine congrArg (fun z => some (Sum.inl z)) ?_; first | rfl | omega | (split <;> omega) | (simp [*]; done))
      · first | rfl | (simp [*]; done)
set_option maxHeartbeats 1000000 in
theorem c_X7_foundOr {l : Launch} {S : List ev_Sh} {M : ev_M} {x a : Int} (hx : inR x) (ha : inR a) : Cx l 0 kX7_foundOr yX7_foundOr S M [vi x, vi a] (some (vi (if x = -1 then a else x))) M := by
  refine Cx.of (by decide) rfl (by decide) (Nat.le_of_ble_eq_true rfl) ?_
  refine (show Ev _ none _ _ _ _ _ 0 [_, _] [] _ from ?_)
  refine ev_iload_0 (q := 1) dX7_foundOr_0 rfl ?_
  refine ev_iconst (q := 2) dX7_foundOr_1 rfl ?_
  refine ev_icmp_ne (t := 9) (q := 5) dX7_foundOr_2 (by decide) rfl (by constructor <;> omega) (by constructor <;> omega) (fun h_2 => ?_) (fun h_2 => ?_)
  · refine ev_iload_0 (q := 10) dX7_foundOr_9 rfl ?_
    refine ev_ireturn dX7_foundOr_10 rfl rfl (by constructor <;> omega) ?_
    refine ⟨?_, rfl, ?_⟩
    · first | rfl | (refine congrArg (fun z => some (Sum.inl z)) ?_; first | rfl | omega | (split <;> omega) | (simp [*]; done))
    · first | rfl | (simp [*]; done)
  · refine ev_iload_1 (q := 6) dX7_foundOr_5 rfl ?_
    refine ev_goto (q := 10) dX7_foundOr_6 (by decide) ?_
    refine ev_ireturn dX7_foundOr_10 rfl rfl (by constructor <;> omega) ?_
    refine ⟨?_, rfl, ?_⟩
    · first | rfl | (refine congrArg (fun z => some (Sum.inl z)) ?_; first | rfl | omega | (split <;> omega) | (simp [*]; done))
    · first | rfl | (simp [*]; done)
set_option maxHeartbeats 1000000 in
theorem c_X7_isProperty {l : Launch} {S : List ev_Sh} {M : ev_M} {x : Int} (hx : inR x) : Cx l 1 kX7_isProperty yX7_isProperty S M [vi x] (some (vi (if 0 ≤ x ∧ x ≤ 15 then 1 else 0))) M := by
  refine Cx.of (by decide) rfl (by decide) (Nat.le_of_ble_eq_true rfl) ?_
  refine (show Ev _ none _ _ _ _ _ 0 [_] [] _ from ?_)
  refine ev_iload_0 (q := 1) dX7_isProperty_0 rfl ?_
  refine ev_iconst (q := 2) dX7_isProperty_1 rfl ?_
  refine ev_bipush (q := 4) dX7_isProperty_2 rfl (by decide) ?_
  refine ev_callS3i (q := 7) dX7_isProperty_4 ss_RX7_47 (c_X7_isWithin (by constructor <;> omega) (by constructor <;> omega) (by constructor <;> omega)) (by decide) (Nat.le_of_ble_eq_true rfl) rfl (fun h_4 => ?_)
  refine ev_ireturn dX7_isProperty_7 rfl (by first | rfl | decide | (split <;> rfl) | (split <;> decide)) (by constructor <;> omega) ?_
  refine ⟨?_, rfl, ?_⟩
  · first | rfl | (refine congrArg (fun z => some (Sum.inl z)) ?_; first | rfl | omega | (split <;> omega) | (simp [*]; done))
  · first | rfl | (simp [*]; done)
set_option maxHeartbeats 1000000 in
theorem c_X7_isCustom {l : Launch} {S : List ev_Sh} {M : ev_M} {x : Int} (hx : inR x) : Cx l 1 kX7_isCustom yX7_isCustom S M [vi x] (some (vi (if 8 ≤ x ∧ x ≤ 15 then 1 else 0))) M := by
  refine Cx.of (by decide) rfl (by decide) (Nat.le_of_ble_eq_true rfl) ?_
  refine (show Ev _ none _ _ _ _ _ 0 [_] [] _ from ?_)
  refine ev_iload_0 (q := 1) dX7_isCustom_0 rfl ?_
  refine ev_bipush (q := 3) dX7_isCustom_1 rfl (by decide) ?_
  refine ev_bipush (q := 5) dX7_isCustom_3 rfl (by decide) ?_
  refine ev_callS3i (q := 8) dX7_isCustom_5 ss_RX7_47 (c_X7_isWithin (by constructor <;> omega) (by constructor <;> omega) (by constructor <;> omega)) (by decide) (Nat.le_of_ble_eq_true rfl) rfl (fun h_5 => ?_)
  refine ev_ireturn dX7_isCustom_8 rfl (by first | rfl | decide | (split <;> rfl) | (split <;> decide)) (by constructor <;> omega) ?_
  refine ⟨?_, rfl, ?_⟩
  · first | rfl | (refine congrArg (fun z => some (Sum.inl z)) ?_; first | rfl | omega | (split <;> omega) | (simp [*]; done))
  · first | rfl | (simp [*]; done)
set_option maxHeartbeats 1000000 in
theorem c_X2_at {l : Launch} {S : List ev_Sh} {M : ev_M} {r a n : Nat} {x : Int} (hr : S[r]? = some (oRow a)) (ha : S[a]? = some (ia n)) (hn : n ≤ 100000) (hx : inR x) : Cx l 0 kX2_at yX2_at S M [vr r, vi x] (some (vi (if 0 ≤ x ∧ x < n then M a x.toNat else -1))) M := by
  refine Cx.of (by decide) rfl (by decide) (Nat.le_of_ble_eq_true rfl) ?_
  refine (show Ev _ none _ _ _ _ _ 0 [_, _] [] _ from ?_)
  refine ev_iload_1 (q := 1) dX2_at_0 rfl ?_
  refine ev_if_lt (t := 22) (q := 4) dX2_at_1 (by decide) rfl (by constructor <;> omega) (fun h_1 => ?_) (fun h_1 => ?_)
  · refine ev_iconst (q := 23) dX2_at_22 rfl ?_
    refine ev_ireturn dX2_at_23 rfl rfl (by constructor <;> omega) ?_
    refine ⟨?_, rfl, ?_⟩
    · first | rfl | (refine congrArg (fun z => some (Sum.inl z)) ?_; first | rfl | omega | (split <;> omega) | (simp [*]; done))
    · first | rfl | (simp [*]; done)
  · refine ev_iload_1 (q := 5) dX2_at_4 rfl ?_
    refine ev_aload_0 (q := 6) dX2_at_5 rfl ?_
    refine ev_getR (q := 9) dX2_at_6 fl_RX2_15 (by first | assumption | rfl) (by rfl) rfl ?_
    refine ev_alen (q := 10) dX2_at_9 (by first | assumption | rfl) (by decide) rfl ?_
    refine ev_icmp_ge (t := 22) (q := 13) dX2_at_10 (by decide) rfl (by constructor <;> omega) (by constructor <;> omega) (fun h_10 => ?_) (fun h_10 => ?_)
    · refine ev_iconst (q := 23) dX2_at_22 rfl ?_
      refine ev_ireturn dX2_at_23 rfl rfl (by constructor <;> omega) ?_
      refine ⟨?_, rfl, ?_⟩
      · first | rfl | (refine congrArg (fun z => some (Sum.inl z)) ?_; first | rfl | omega | (split <;> omega) | (simp [*]; done))
      · first | rfl | (simp [*]; done)
    · refine ev_aload_0 (q := 14) dX2_at_13 rfl ?_
      refine ev_getR (q := 17) dX2_at_14 fl_RX2_15 (by first | assumption | rfl) (by rfl) rfl ?_
      refine ev_iload_1 (q := 18) dX2_at_17 rfl ?_
      refine ev_iaload (q := 19) dX2_at_18 (by first | assumption | rfl) (by omega) (by first | decide | omega) rfl (fun h_18 => ?_)
      refine ev_goto (q := 23) dX2_at_19 (by decide) ?_
      refine ev_ireturn dX2_at_23 rfl rfl (by constructor <;> omega) ?_
      refine ⟨?_, rfl, ?_⟩
      · first | rfl | (refine congrArg (fun z => some (Sum.inl z)) ?_; first | rfl | omega | (split <;> omega) | (simp [*]; done))
      · first | rfl | (simp [*]; done)
/-- what put leaves: within the row the number, else all as it was -/
def pt (M : ev_M) (a n : Nat) (x v : Int) : ev_M := if 0 ≤ x ∧ x < n then up M a x.toNat v else M
set_option maxHeartbeats 1000000 in
theorem c_X2_put {l : Launch} {S : List ev_Sh} {M : ev_M} {r a n : Nat} {x v : Int} (hr : S[r]? = some (oRow a)) (ha : S[a]? = some (ia n)) (hn : n ≤ 100000) (hx : inR x) (hv : inR v) : Cx l 0 kX2_put yX2_put S M [vr r, vi x, vi v] none (pt M a n x v) := by
  refine Cx.of (by decide) rfl (by decide) (Nat.le_of_ble_eq_true rfl) ?_
  refine (show Ev _ none _ _ _ _ _ 0 [_, _, _] [] _ from ?_)
  refine ev_iload_1 (q := 1) dX2_put_0 rfl ?_
  refine ev_if_lt (t := 20) (q := 4) dX2_put_1 (by decide) rfl (by constructor <;> omega) (fun h_1 => ?_) (fun h_1 => ?_)
  · refine ev_return dX2_put_20 rfl ?_
    refine ⟨rfl, rfl, ?_⟩
    unfold pt
    split <;> first | rfl | omega
  · refine ev_iload_1 (q := 5) dX2_put_4 rfl ?_
    refine ev_aload_0 (q := 6) dX2_put_5 rfl ?_
    refine ev_getR (q := 9) dX2_put_6 fl_RX2_15 (by first | assumption | rfl) (by rfl) rfl ?_
    refine ev_alen (q := 10) dX2_put_9 (by first | assumption | rfl) (by decide) rfl ?_
    refine ev_icmp_ge (t := 20) (q := 13) dX2_put_10 (by decide) rfl (by constructor <;> omega) (by constructor <;> omega) (fun h_10 => ?_) (fun h_10 => ?_)
    · refine ev_return dX2_put_20 rfl ?_
      refine ⟨rfl, rfl, ?_⟩
      unfold pt
      split <;> first | rfl | omega
    · refine ev_aload_0 (q := 14) dX2_put_13 rfl ?_
      refine ev_getR (q := 17) dX2_put_14 fl_RX2_15 (by first | assumption | rfl) (by rfl) rfl ?_
      refine ev_iload_1 (q := 18) dX2_put_17 rfl ?_
      refine ev_iload_2 (q := 19) dX2_put_18 rfl ?_
      refine ev_iastore (q := 20) dX2_put_19 (by first | assumption | rfl) (by omega) (by first | decide | omega) (by constructor <;> omega) rfl ?_
      refine ev_return dX2_put_20 rfl ?_
      refine ⟨rfl, rfl, ?_⟩
      unfold pt
      split <;> first | rfl | omega
theorem c_X2_atR {l : Launch} {S : List ev_Sh} {M : ev_M} {r a n : Nat} {x : Int} (hr : S[r]? = some (oRow a)) (ha : S[a]? = some (ia n)) (hn : n ≤ 100000) (hx : 0 ≤ x ∧ x < n) : Cx l 0 kX2_at yX2_at S M [vr r, vi x] (some (vi (M a x.toNat))) M := by
  have := c_X2_at (l := l) (M := M) hr ha hn (x := x) (by constructor <;> omega)
  rw [if_pos hx] at this
  exact this
theorem c_X2_putR {l : Launch} {S : List ev_Sh} {M : ev_M} {r a n : Nat} {x v : Int} (hr : S[r]? = some (oRow a)) (ha : S[a]? = some (ia n)) (hn : n ≤ 100000) (hx : 0 ≤ x ∧ x < n) (hv : inR v) : Cx l 0 kX2_put yX2_put S M [vr r, vi x, vi v] none (up M a x.toNat v) := by
  have := c_X2_put (l := l) (M := M) hr ha hn (x := x) (v := v) (by constructor <;> omega) hv
  rw [pt, if_pos hx] at this
  exact this

