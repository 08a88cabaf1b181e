def isRu (u pr pa er ea np ne : Nat) : Prop := S0[u]? = some (oRules pr er) ∧ S0[pr]? = some (oRow pa) ∧ S0[pa]? = some (ia np) ∧ S0[er]? = some (oRow ea) ∧ S0[ea]? = some (ia ne) ∧ np ≤ 100000 ∧ ne ≤ 100000
theorem ru9 : isRu 9 10 11 12 13 96 768 := ⟨rfl, rfl, rfl, rfl, rfl, by decide, by decide⟩
theorem ru95 : isRu 95 96 97 98 99 6 48 := ⟨rfl, rfl, rfl, rfl, rfl, by decide, by decide⟩
def cnt (P : Nat → Bool) : Nat → Int
  | 0 => 0
  | n + 1 => cnt P n + (if P n = true then 1 else 0)
def sumN (f : Nat → Int) : Nat → Int
  | 0 => 0
  | n + 1 => sumN f n + f n
def exB (P : Nat → Bool) : Nat → Bool
  | 0 => false
  | n + 1 => exB P n || P n
theorem cnt_rng (P : Nat → Bool) : ∀ n, 0 ≤ cnt P n ∧ cnt P n ≤ n
  | 0 => by simp [cnt]
  | n + 1 => by
    have := cnt_rng P n
    unfold cnt
    split <;> omega
theorem sumN_rng {f : Nat → Int} {K : Int} (hK : 0 ≤ K) : ∀ n, (∀ i, i < n → 0 ≤ f i ∧ f i ≤ K) → 0 ≤ sumN f n ∧ sumN f n ≤ K * n
  | 0, _ => by simp [sumN]
  | n + 1, h => by
    have h1 := sumN_rng hK n (fun i hi => h i (by omega))
    have h2 := h n (by omega)
    unfold sumN
    have e : K * ((n + 1 : Nat) : Int) = K * (n : Int) + K := by
      rw [Int.natCast_add, Int.mul_add]; simp
    omega
theorem exB_iff {P : Nat → Bool} : ∀ {n : Nat}, exB P n = true ↔ ∃ i, i < n ∧ P i = true
  | 0 => by simp [exB]
  | n + 1 => by
    simp only [exB, Bool.or_eq_true, exB_iff (n := n)]
    constructor
    · rintro (⟨i, h1, h2⟩ | h)
      · exact ⟨i, by omega, h2⟩
      · exact ⟨n, by omega, h⟩
    · rintro ⟨i, h1, h2⟩
      by_cases h : i = n
      · subst h; exact Or.inr h2
      · exact Or.inl ⟨i, by omega, h2⟩
set_option maxHeartbeats 1000000 in
theorem c_X3_size {l : Launch} {M : ev_M} : Cx l 0 kX3_size yX3_size S0 M [vr 9] (some (vi (M 9 0))) M := by
  refine Cx.of (by decide) rfl (by decide) (Nat.le_of_ble_eq_true rfl) ?_
  refine (show Ev _ none _ _ _ _ _ 0 [_] [] _ from ?_)
  refine ev_aload_0 (q := 1) dX3_size_0 rfl ?_
  refine ev_getI (q := 4) dX3_size_1 fl_RX3_23 (by first | assumption | rfl) (by rfl) rfl (fun h_1 => ?_)
  refine ev_ireturn dX3_size_4 rfl rfl (by constructor <;> omega) ?_
  refine ⟨?_, rfl, ?_⟩
  · first | rfl | (refine congrArg (fun z => some (Sum.inl z)) ?_; first | rfl | omega | (split <;> omega) | (simp [*]; done))
  · first | rfl | (simp [*]; done)
set_option maxHeartbeats 1000000 in
theorem c_X3_has {l : Launch} {M : ev_M} {x : Int} (hx : inR x) (hs : 0 ≤ M 9 0 ∧ M 9 0 ≤ 16) : Cx l 1 kX3_has yX3_has S0 M [vr 9, vi x] (some (vi (if 0 ≤ x ∧ x < M 9 0 then 1 else 0))) M := by
  refine Cx.of (by decide) rfl (by decide) (Nat.le_of_ble_eq_true rfl) ?_
  refine (show Ev _ none _ _ _ _ _ 0 [_, _] [] _ from ?_)
  refine ev_iload_1 (q := 1) dX3_has_0 rfl ?_
  refine ev_iconst (q := 2) dX3_has_1 rfl ?_
  refine ev_aload_0 (q := 3) dX3_has_2 rfl ?_
  refine ev_getI (q := 6) dX3_has_3 fl_RX3_23 (by first | assumption | rfl) (by rfl) rfl (fun h_3 => ?_)
  refine ev_iconst (q := 7) dX3_has_6 rfl ?_
  refine ev_isub (q := 8) dX3_has_7 rfl ?_
  refine ev_callS3i (q := 11) dX3_has_8 ss_RX3_27 (c_X7_isWithin (by constructor <;> omega) (by constructor <;> omega) (by constructor <;> omega)) (by decide) (Nat.le_of_ble_eq_true rfl) rfl (fun h_8 => ?_)
  refine ev_ireturn dX3_has_11 rfl (by first | rfl | decide | (split <;> rfl) | (split <;> decide)) (by constructor <;> omega) ?_
  refine ⟨?_, rfl, ?_⟩
  · first | rfl | (refine congrArg (fun z => some (Sum.inl z)) ?_; first | rfl | omega | (split <;> omega) | (simp [*]; done))
  · first | rfl | (simp [*]; done)
set_option maxHeartbeats 1000000 in
theorem c_X3_part {l : Launch} {M : ev_M} {r w : Int} (hr : 0 ≤ r ∧ r < 16) (hw : 0 ≤ w ∧ w < 6) : Cx l 1 kX3_part yX3_part S0 M [vr 9, vi r, vi w] (some (vi (M 11 (r * 6 + w).toNat))) M := by
  refine Cx.of (by decide) rfl (by decide) (Nat.le_of_ble_eq_true rfl) ?_
  refine (show Ev _ none _ _ _ _ _ 0 [_, _, _] [] _ from ?_)
  refine ev_aload_0 (q := 1) dX3_part_0 rfl ?_
  refine ev_getR (q := 4) dX3_part_1 fl_RX3_14 (by first | assumption | rfl) (by rfl) rfl ?_
  refine ev_iload_1 (q := 5) dX3_part_4 rfl ?_
  refine ev_bipush (q := 7) dX3_part_5 rfl (by decide) ?_
  refine ev_imul (q := 8) dX3_part_7 rfl ?_
  refine ev_iload_2 (q := 9) dX3_part_8 rfl ?_
  refine ev_iadd (q := 10) dX3_part_9 rfl ?_
  refine ev_callV1i (q := 13) dX3_part_10 vs_RX3_31 (by first | assumption | rfl) (c_X2_atR (by first | assumption | rfl) (by first | assumption | rfl) (by first | decide | omega) (by omega)) (by decide) (Nat.le_of_ble_eq_true rfl) rfl (fun h_10 => ?_)
  refine ev_ireturn dX3_part_13 rfl rfl (by constructor <;> omega) ?_
  refine ⟨?_, rfl, ?_⟩
  · first | rfl | (refine congrArg (fun z => some (Sum.inl z)) ?_; first | rfl | omega | (split <;> omega) | (simp [*]; done))
  · first | rfl | (simp [*]; done)
set_option maxHeartbeats 1000000 in
theorem c_X3_entry {l : Launch} {M : ev_M} {u pr pa er ea np ne : Nat} {r p w : Int} (hu : isRu u pr pa er ea np ne) (hr : 0 ≤ r ∧ r < 16) (hp : 0 ≤ p ∧ p < 100) (hw : 0 ≤ w ∧ w < 3) : Cx l 1 kX3_entry yX3_entry S0 M [vr u, vi r, vi p, vi w] (some (vi (if r * 48 + p * 3 + w < ne then M ea (r * 48 + p * 3 + w).toNat else -1))) M := by
  obtain ⟨u1, u2, u3, u4, u5, u6, u7⟩ := hu
  refine Cx.of (by decide) rfl (by decide) (Nat.le_of_ble_eq_true rfl) ?_
  refine (show Ev _ none _ _ _ _ _ 0 [_, _, _, _] [] _ from ?_)
  refine ev_aload_0 (q := 1) dX3_entry_0 rfl ?_
  refine ev_getR (q := 4) dX3_entry_1 fl_RX3_20 (by first | assumption | rfl) (by rfl) rfl ?_
  refine ev_iload_1 (q := 5) dX3_entry_4 rfl ?_
  refine ev_bipush (q := 7) dX3_entry_5 rfl (by decide) ?_
  refine ev_imul (q := 8) dX3_entry_7 rfl ?_
  refine ev_iload_2 (q := 9) dX3_entry_8 rfl ?_
  refine ev_iconst (q := 10) dX3_entry_9 rfl ?_
  refine ev_imul (q := 11) dX3_entry_10 rfl ?_
  refine ev_iadd (q := 12) dX3_entry_11 rfl ?_
  refine ev_iload_3 (q := 13) dX3_entry_12 rfl ?_
  refine ev_iadd (q := 14) dX3_entry_13 rfl ?_
  refine ev_callV1i (q := 17) dX3_entry_14 vs_RX3_31 (by first | assumption | rfl) (c_X2_at (by first | assumption | rfl) (by first | assumption | rfl) (by omega) (by constructor <;> omega)) (by decide) (Nat.le_of_ble_eq_true rfl) rfl (fun h_14 => ?_)
  refine ev_ireturn dX3_entry_17 rfl rfl (by split <;> (constructor <;> omega)) ?_
  refine ⟨congrArg (fun z => some (Sum.inl z)) ?_, rfl, rfl⟩
  (repeat' split) <;> first | rfl | omega
theorem c_X3_entry9 {l : Launch} {M : ev_M} {r p w : Int} (hr : 0 ≤ r ∧ r < 16) (hp : 0 ≤ p ∧ p < 16) (hw : 0 ≤ w ∧ w < 3) : Cx l 1 kX3_entry yX3_entry S0 M [vr 9, vi r, vi p, vi w] (some (vi (M 13 (r * 48 + p * 3 + w).toNat))) M := by
  have := c_X3_entry (l := l) (M := M) ru9 hr (p := p) (by omega) hw
  rw [if_pos (by omega)] at this
  exact this
set_option maxHeartbeats 1000000 in
theorem c_X3_refers {l : Launch} {M : ev_M} {r p : Int} (hr : 0 ≤ r ∧ r < 16) (hp : 0 ≤ p ∧ p < 16) : Cx l 2 kX3_refers yX3_refers S0 M [vr 9, vi r, vi p] (some (vi (if M 13 (r * 48 + p * 3 + 1).toNat ≠ -1 then 1 else 0))) M := by
  refine Cx.of (by decide) rfl (by decide) (Nat.le_of_ble_eq_true rfl) ?_
  refine (show Ev _ none _ _ _ _ _ 0 [_, _, _] [] _ from ?_)
  refine ev_aload_0 (q := 1) dX3_refers_0 rfl ?_
  refine ev_iload_1 (q := 2) dX3_refers_1 rfl ?_
  refine ev_iload_2 (q := 3) dX3_refers_2 rfl ?_
  refine ev_iconst (q := 4) dX3_refers_3 rfl ?_
  refine ev_callV3i (q := 7) dX3_refers_4 vs_RX3_35 (by first | assumption | rfl) (c_X3_entry9 (by omega) (by omega) (by omega)) (by decide) (Nat.le_of_ble_eq_true rfl) rfl (fun h_4 => ?_)
  refine ev_iconst (q := 8) dX3_refers_7 rfl ?_
  refine ev_icmp_eq (t := 15) (q := 11) dX3_refers_8 (by decide) rfl (by constructor <;> omega) (by constructor <;> omega) (fun h_8 => ?_) (fun h_8 => ?_)
  · refine ev_iconst (q := 16) dX3_refers_15 rfl ?_
    refine ev_ireturn dX3_refers_16 rfl (by first | rfl | decide | (split <;> rfl) | (split <;> decide)) (by constructor <;> omega) ?_
    refine ⟨congrArg (fun z => some (Sum.inl z)) ?_, rfl, rfl⟩
    split <;> omega
  · refine ev_iconst (q := 12) dX3_refers_11 rfl ?_
    refine ev_goto (q := 16) dX3_refers_12 (by decide) ?_
    refine ev_ireturn dX3_refers_16 rfl (by first | rfl | decide | (split <;> rfl) | (split <;> decide)) (by constructor <;> omega) ?_
    refine ⟨congrArg (fun z => some (Sum.inl z)) ?_, rfl, rfl⟩
    split <;> omega
set_option maxHeartbeats 1000000 in
theorem c_X3_declares {l : Launch} {M : ev_M} {r p : Int} (hr : 0 ≤ r ∧ r < 16) (hp : 0 ≤ p ∧ p < 16) : Cx l 2 kX3_declares yX3_declares S0 M [vr 9, vi r, vi p] (some (vi (if M 13 (r * 48 + p * 3 + 0).toNat ≠ -1 ∨ M 13 (r * 48 + p * 3 + 1).toNat ≠ -1 then 1 else 0))) M := by
  refine Cx.of (by decide) rfl (by decide) (Nat.le_of_ble_eq_true rfl) ?_
  refine (show Ev _ none _ _ _ _ _ 0 [_, _, _] [] _ from ?_)
  refine ev_aload_0 (q := 1) dX3_declares_0 rfl ?_
  refine ev_iload_1 (q := 2) dX3_declares_1 rfl ?_
  refine ev_iload_2 (q := 3) dX3_declares_2 rfl ?_
  refine ev_iconst (q := 4) dX3_declares_3 rfl ?_
  refine ev_callV3i (q := 7) dX3_declares_4 vs_RX3_35 (by first | assumption | rfl) (c_X3_entry9 (by omega) (by omega) (by omega)) (by decide) (Nat.le_of_ble_eq_true rfl) rfl (fun h_4 => ?_)
  refine ev_iconst (q := 8) dX3_declares_7 rfl ?_
  refine ev_icmp_ne (t := 22) (q := 11) dX3_declares_8 (by decide) rfl (by constructor <;> omega) (by constructor <;> omega) (fun h_8 => ?_) (fun h_8 => ?_)
  · refine ev_iconst (q := 23) dX3_declares_22 rfl ?_
    refine ev_goto (q := 27) dX3_declares_23 (by decide) ?_
    refine ev_ireturn dX3_declares_27 rfl (by first | rfl | decide | (split <;> rfl) | (split <;> decide)) (by constructor <;> omega) ?_
    refine ⟨congrArg (fun z => some (Sum.inl z)) ?_, rfl, rfl⟩
    split <;> omega
  · refine ev_aload_0 (q := 12) dX3_declares_11 rfl ?_
    refine ev_iload_1 (q := 13) dX3_declares_12 rfl ?_
    refine ev_iload_2 (q := 14) dX3_declares_13 rfl ?_
    refine ev_iconst (q := 15) dX3_declares_14 rfl ?_
    refine ev_callV3i (q := 18) dX3_declares_15 vs_RX3_35 (by first | assumption | rfl) (c_X3_entry9 (by omega) (by omega) (by omega)) (by decide) (Nat.le_of_ble_eq_true rfl) rfl (fun h_15 => ?_)
    refine ev_iconst (q := 19) dX3_declares_18 rfl ?_
    refine ev_icmp_eq (t := 26) (q := 22) dX3_declares_19 (by decide) rfl (by constructor <;> omega) (by constructor <;> omega) (fun h_19 => ?_) (fun h_19 => ?_)
    · refine ev_iconst (q := 27) dX3_declares_26 rfl ?_
      refine ev_ireturn dX3_declares_27 rfl (by first | rfl | decide | (split <;> rfl) | (split <;> decide)) (by constructor <;> omega) ?_
      refine ⟨congrArg (fun z => some (Sum.inl z)) ?_, rfl, rfl⟩
      split <;> omega
    · refine ev_iconst (q := 23) dX3_declares_22 rfl ?_
      refine ev_goto (q := 27) dX3_declares_23 (by decide) ?_
      refine ev_ireturn dX3_declares_27 rfl (by first | rfl | decide | (split <;> rfl) | (split <;> decide)) (by constructor <;> omega) ?_
      refine ⟨congrArg (fun z => some (Sum.inl z)) ?_, rfl, rfl⟩
      split <;> omega
set_option maxHeartbeats 1000000 in
theorem c_X3_declaresD {l : Launch} {M : ev_M} {p : Int} (hp : 0 ≤ p ∧ p < 100) : Cx l 2 kX3_declares yX3_declares S0 M [vr 95, vi 0, vi p] (some (vi (if p < 16 ∧ (M 99 (p * 3 + 0).toNat ≠ -1 ∨ M 99 (p * 3 + 1).toNat ≠ -1) then 1 else 0))) M := by
  have e : ∀ w : Int, 0 * 48 + p * 3 + w = p * 3 + w := fun w => by omega
  refine Cx.of (by decide) rfl (by decide) (Nat.le_of_ble_eq_true rfl) ?_
  refine (show Ev _ none _ _ _ _ _ 0 [_, _, _] [] _ from ?_)
  refine ev_aload_0 (q := 1) dX3_declares_0 rfl ?_
  refine ev_iload_1 (q := 2) dX3_declares_1 rfl ?_
  refine ev_iload_2 (q := 3) dX3_declares_2 rfl ?_
  refine ev_iconst (q := 4) dX3_declares_3 rfl ?_
  refine ev_callV3i (q := 7) dX3_declares_4 vs_RX3_35 (by first | assumption | rfl) (c_X3_entry ru95 (by omega) (by omega) (by omega)) (by decide) (Nat.le_of_ble_eq_true rfl) rfl (fun h_4 => ?_)
  refine ev_iconst (q := 8) dX3_declares_7 rfl ?_
  refine ev_icmp_ne (t := 22) (q := 11) dX3_declares_8 (by decide) rfl (by split <;> (constructor <;> omega)) (by constructor <;> omega) (fun h_8 => ?_) (fun h_8 => ?_)
  · refine ev_iconst (q := 23) dX3_declares_22 rfl ?_
    refine ev_goto (q := 27) dX3_declares_23 (by decide) ?_
    refine ev_ireturn dX3_declares_27 rfl (by first | rfl | decide | (split <;> rfl) | (split <;> decide)) (by constructor <;> omega) ?_
    refine ⟨congrArg (fun z => some (Sum.inl z)) ?_, rfl, rfl⟩
    simp only [e] at *
    split <;> (repeat' split at *) <;> omega
  · refine ev_aload_0 (q := 12) dX3_declares_11 rfl ?_
    refine ev_iload_1 (q := 13) dX3_declares_12 rfl ?_
    refine ev_iload_2 (q := 14) dX3_declares_13 rfl ?_
    refine ev_iconst (q := 15) dX3_declares_14 rfl ?_
    refine ev_callV3i (q := 18) dX3_declares_15 vs_RX3_35 (by first | assumption | rfl) (c_X3_entry ru95 (by omega) (by omega) (by omega)) (by decide) (Nat.le_of_ble_eq_true rfl) rfl (fun h_15 => ?_)
    refine ev_iconst (q := 19) dX3_declares_18 rfl ?_
    refine ev_icmp_eq (t := 26) (q := 22) dX3_declares_19 (by decide) rfl (by split <;> (constructor <;> omega)) (by constructor <;> omega) (fun h_19 => ?_) (fun h_19 => ?_)
    · refine ev_iconst (q := 27) dX3_declares_26 rfl ?_
      refine ev_ireturn dX3_declares_27 rfl (by first | rfl | decide | (split <;> rfl) | (split <;> decide)) (by constructor <;> omega) ?_
      refine ⟨congrArg (fun z => some (Sum.inl z)) ?_, rfl, rfl⟩
      simp only [e] at *
      split <;> (repeat' split at *) <;> omega
    · refine ev_iconst (q := 23) dX3_declares_22 rfl ?_
      refine ev_goto (q := 27) dX3_declares_23 (by decide) ?_
      refine ev_ireturn dX3_declares_27 rfl (by first | rfl | decide | (split <;> rfl) | (split <;> decide)) (by constructor <;> omega) ?_
      refine ⟨congrArg (fun z => some (Sum.inl z)) ?_, rfl, rfl⟩
      simp only [e] at *
      split <;> (repeat' split at *) <;> omega
/-- r declares p, as the entries stand in cell ea -/
def dcl (M : ev_M) (ea : Nat) (r p : Int) : Bool := decide (M ea (r * 48 + p * 3 + 0).toNat ≠ -1 ∨ M ea (r * 48 + p * 3 + 1).toNat ≠ -1)
set_option maxHeartbeats 1000000 in
theorem lp_X3_declarationsOf {l : Launch} {M : ev_M} {r : Int} (hr : 0 ≤ r ∧ r < 16) : ∀ (n j : Nat) (x y z : Int), x = j → j + n = 16 → y = cnt (fun p => dcl M 13 r p) j → z = cnt (fun p => dcl M 13 r p) 16 → Ev l none 3 kX3_declarationsOf (0, 0) S0 M 4 [some (vr 9), some (vi r), some (vi y), some (vi x)] [] (QX (some (vi z)) S0 M) := by
  intro n
  induction n with
  | zero =>
    intro j x y z hx hn hy hz
    have hj : j = 16 := by omega
    subst hj
    have hc := cnt_rng (fun p => dcl M 13 r p) 16
    refine ev_iload_3 (q := 5) dX3_declarationsOf_4 rfl ?_
    refine ev_bipush (q := 7) dX3_declarationsOf_5 rfl (by decide) ?_
    refine ev_icmp_ge (t := 28) (q := 10) dX3_declarationsOf_7 (by decide) rfl (by constructor <;> omega) (by constructor <;> omega) (fun h_7 => ?_) (fun h_7 => ?_)
    · refine ev_iload_2 (q := 29) dX3_declarationsOf_28 rfl ?_
      refine ev_ireturn dX3_declarationsOf_29 rfl rfl (by constructor <;> omega) ?_
      exact ⟨by rw [hy, hz], rfl, rfl⟩
    · omega
  | succ n ih =>
    intro j x y z hx hn hy hz
    have hc := cnt_rng (fun p => dcl M 13 r p) j
    refine ev_iload_3 (q := 5) dX3_declarationsOf_4 rfl ?_
    refine ev_bipush (q := 7) dX3_declarationsOf_5 rfl (by decide) ?_
    refine ev_icmp_ge (t := 28) (q := 10) dX3_declarationsOf_7 (by decide) rfl (by constructor <;> omega) (by constructor <;> omega) (fun h_7 => ?_) (fun h_7 => ?_)
    · omega
    · refine ev_aload_0 (q := 11) dX3_declarationsOf_10 rfl ?_
      refine ev_iload_1 (q := 12) dX3_declarationsOf_11 rfl ?_
      refine ev_iload_3 (q := 13) dX3_declarationsOf_12 rfl ?_
      refine ev_callV2i (q := 16) dX3_declarationsOf_13 vs_RX3_48 (by first | assumption | rfl) (c_X3_declares (by omega) (by omega)) (by decide) (Nat.le_of_ble_eq_true rfl) rfl (fun h_13 => ?_)
      refine ev_b_eq (t := 22) (q := 19) dX3_declarationsOf_16 (by decide) rfl (fun h_16 => ?_) (fun h_16 => ?_)
      · refine ev_iinc_3 (q := 25) dX3_declarationsOf_22 rfl (by decide) ?_
        refine ev_goto (q := 4) dX3_declarationsOf_25 (by decide) ?_
        refine ih (j + 1) _ _ _ (by omega) (by omega) ?_ hz
        unfold cnt
        subst hx
        rw [hy]
        first | (rw [if_pos (by simpa [dcl] using h_16)]; done) | (rw [if_neg (by simpa [dcl] using h_16)]; omega)
      · refine ev_iinc_2 (q := 22) dX3_declarationsOf_19 rfl (by decide) ?_
        refine ev_iinc_3 (q := 25) dX3_declarationsOf_22 rfl (by decide) ?_
        refine ev_goto (q := 4) dX3_declarationsOf_25 (by decide) ?_
        refine ih (j + 1) _ _ _ (by omega) (by omega) ?_ hz
        unfold cnt
        subst hx
        rw [hy]
        first | (rw [if_pos (by simpa [dcl] using h_16)]; done) | (rw [if_neg (by simpa [dcl] using h_16)]; omega)
set_option maxHeartbeats 1000000 in
theorem c_X3_declarationsOf {l : Launch} {M : ev_M} {r : Int} (hr : 0 ≤ r ∧ r < 16) : Cx l 3 kX3_declarationsOf yX3_declarationsOf S0 M [vr 9, vi r] (some (vi (cnt (fun p => dcl M 13 r p) 16))) M := by
  refine Cx.of (by decide) rfl (by decide) (Nat.le_of_ble_eq_true rfl) ?_
  refine (show Ev _ none _ _ _ _ _ 0 [_, _, _, _] [] _ from ?_)
  refine ev_iconst (q := 1) dX3_declarationsOf_0 rfl ?_
  refine ev_istore_2 (q := 2) dX3_declarationsOf_1 rfl (by decide) ?_
  refine ev_iconst (q := 3) dX3_declarationsOf_2 rfl ?_
  refine ev_istore_3 (q := 4) dX3_declarationsOf_3 rfl (by decide) ?_
  exact lp_X3_declarationsOf hr 16 0 0 0 _ rfl rfl rfl rfl
set_option maxHeartbeats 1000000 in
theorem lp_X3_allDeclarations {l : Launch} {M : ev_M} (hs : 0 ≤ M 9 0 ∧ M 9 0 ≤ 16) : ∀ (n j : Nat) (x y z : Int), x = j → j + n = (M 9 0).toNat → y = sumN (fun r => cnt (fun p => dcl M 13 r p) 16) j → z = sumN (fun r => cnt (fun p => dcl M 13 r p) 16) (M 9 0).toNat → Ev l none 4 kX3_allDeclarations (0, 0) S0 M 4 [some (vr 9), some (vi y), some (vi x)] [] (QX (some (vi z)) S0 M) := by
  intro n
  induction n with
  | zero =>
    intro j x y z hx hn hy hz
    have hj : j = (M 9 0).toNat := by omega
    have hc := sumN_rng (f := fun r : Nat => cnt (fun p => dcl M 13 r p) 16) (K := 16) (by omega) j (fun i _ => by have := cnt_rng (fun p => dcl M 13 i p) 16; omega)
    refine ev_iload_2 (q := 5) dX3_allDeclarations_4 rfl ?_
    refine ev_aload_0 (q := 6) dX3_allDeclarations_5 rfl ?_
    refine ev_getI (q := 9) dX3_allDeclarations_6 fl_RX3_23 (by first | assumption | rfl) (by rfl) rfl (fun h_6 => ?_)
    refine ev_icmp_ge (t := 26) (q := 12) dX3_allDeclarations_9 (by decide) rfl (by constructor <;> omega) (by constructor <;> omega) (fun h_9 => ?_) (fun h_9 => ?_)
    · refine ev_iload_1 (q := 27) dX3_allDeclarations_26 rfl ?_
      refine ev_ireturn dX3_allDeclarations_27 rfl rfl (by constructor <;> omega) ?_
      exact ⟨by rw [hy, hz, hj], rfl, rfl⟩
    · omega
  | succ n ih =>
    intro j x y z hx hn hy hz
    have hc := sumN_rng (f := fun r : Nat => cnt (fun p => dcl M 13 r p) 16) (K := 16) (by omega) j (fun i _ => by have := cnt_rng (fun p => dcl M 13 i p) 16; omega)
    refine ev_iload_2 (q := 5) dX3_allDeclarations_4 rfl ?_
    refine ev_aload_0 (q := 6) dX3_allDeclarations_5 rfl ?_
    refine ev_getI (q := 9) dX3_allDeclarations_6 fl_RX3_23 (by first | assumption | rfl) (by rfl) rfl (fun h_6 => ?_)
    refine ev_icmp_ge (t := 26) (q := 12) dX3_allDeclarations_9 (by decide) rfl (by constructor <;> omega) (by constructor <;> omega) (fun h_9 => ?_) (fun h_9 => ?_)
    · omega
    · refine ev_iload_1 (q := 13) dX3_allDeclarations_12 rfl ?_
      refine ev_aload_0 (q := 14) dX3_allDeclarations_13 rfl ?_
      refine ev_iload_2 (q := 15) dX3_allDeclarations_14 rfl ?_
      refine ev_callV1i (q := 18) dX3_allDeclarations_15 vs_RX3_52 (by first | assumption | rfl) (c_X3_declarationsOf (by omega)) (by decide) (Nat.le_of_ble_eq_true rfl) rfl (fun h_15 => ?_)
      refine ev_iadd (q := 19) dX3_allDeclarations_18 rfl ?_
      refine ev_istore_1 (q := 20) dX3_allDeclarations_19 rfl (by decide) ?_
      refine ev_iinc_2 (q := 23) dX3_allDeclarations_20 rfl (by decide) ?_
      refine ev_goto (q := 4) dX3_allDeclarations_23 (by decide) ?_
      refine ih (j + 1) _ _ _ (by omega) (by omega) ?_ hz
      unfold sumN
      rw [hy, hx]
set_option maxHeartbeats 1000000 in
theorem c_X3_allDeclarations {l : Launch} {M : ev_M} (hs : 0 ≤ M 9 0 ∧ M 9 0 ≤ 16) : Cx l 4 kX3_allDeclarations yX3_allDeclarations S0 M [vr 9] (some (vi (sumN (fun r => cnt (fun p => dcl M 13 r p) 16) (M 9 0).toNat))) M := by
  refine Cx.of (by decide) rfl (by decide) (Nat.le_of_ble_eq_true rfl) ?_
  refine (show Ev _ none _ _ _ _ _ 0 [_, _, _] [] _ from ?_)
  refine ev_iconst (q := 1) dX3_allDeclarations_0 rfl ?_
  refine ev_istore_1 (q := 2) dX3_allDeclarations_1 rfl (by decide) ?_
  refine ev_iconst (q := 3) dX3_allDeclarations_2 rfl ?_
  refine ev_istore_2 (q := 4) dX3_allDeclarations_3 rfl (by decide) ?_
  exact lp_X3_allDeclarations hs (M 9 0).toNat 0 0 0 _ rfl (by omega) rfl rfl

