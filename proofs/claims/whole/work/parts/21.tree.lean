/-- steps from x up to a by the parents f, at most n; below 0: a is not on the way -/
def stp (f : Nat → Int) : Nat → Int → Int → Int
  | 0, _, _ => -1
  | n + 1, x, a => if x < 0 then -1 else if x = a then 0 else if stp f n (f x.toNat) a < 0 then -1 else stp f n (f x.toNat) a + 1
/-- from x on up there is an element of the kind k -/
def hka (f g : Nat → Int) : Nat → Int → Int → Bool
  | 0, _, _ => false
  | n + 1, x, k => if x < 0 then false else if g x.toNat = k then true else hka f g n (f x.toNat) k
theorem stp_rng (f : Nat → Int) : ∀ (n : Nat) (x a : Int), -1 ≤ stp f n x a ∧ stp f n x a < n ∨ stp f n x a = -1
  | 0, _, _ => Or.inr rfl
  | n + 1, x, a => by
    have := stp_rng f n (f x.toNat) a
    unfold stp
    split
    · omega
    · split
      · omega
      · split <;> omega
theorem up_at (M : ev_M) (i k : Nat) (x : Int) (a b : Nat) : up M i k x a b = if a = i ∧ b = k then x else M a b := rfl
set_option maxHeartbeats 1000000 in
theorem c_X6_size {l : Launch} {M : ev_M} : Cx l 0 kX6_size yX6_size S0 M [vr 2] (some (vi (M 2 0))) M := by
  refine Cx.of (by decide) rfl (by decide) (Nat.le_of_ble_eq_true rfl) ?_
  refine (show Ev _ none _ _ _ _ _ 0 [_] [] _ from ?_)
  refine ev_aload_0 (q := 1) dX6_size_0 rfl ?_
  refine ev_getI (q := 4) dX6_size_1 fl_RX6_30 (by first | assumption | rfl) (by rfl) rfl (fun h_1 => ?_)
  refine ev_ireturn dX6_size_4 rfl rfl (by constructor <;> omega) ?_
  refine ⟨?_, rfl, ?_⟩
  · first | rfl | (refine congrArg (fun z => some (Sum.inl z)) ?_; first | rfl | omega | (split <;> omega) | (simp [*]; done))
  · first | rfl | (simp [*]; done)
set_option maxHeartbeats 1000000 in
theorem c_X6_has {l : Launch} {M : ev_M} {x : Int} (hx : inR x) (hs : 0 ≤ M 2 0 ∧ M 2 0 ≤ 16) : Cx l 1 kX6_has yX6_has S0 M [vr 2, vi x] (some (vi (if 0 ≤ x ∧ x < M 2 0 then 1 else 0))) M := by
  refine Cx.of (by decide) rfl (by decide) (Nat.le_of_ble_eq_true rfl) ?_
  refine (show Ev _ none _ _ _ _ _ 0 [_, _] [] _ from ?_)
  refine ev_iload_1 (q := 1) dX6_has_0 rfl ?_
  refine ev_iconst (q := 2) dX6_has_1 rfl ?_
  refine ev_aload_0 (q := 3) dX6_has_2 rfl ?_
  refine ev_getI (q := 6) dX6_has_3 fl_RX6_30 (by first | assumption | rfl) (by rfl) rfl (fun h_3 => ?_)
  refine ev_iconst (q := 7) dX6_has_6 rfl ?_
  refine ev_isub (q := 8) dX6_has_7 rfl ?_
  refine ev_callS3i (q := 11) dX6_has_8 ss_RX6_34 (c_X7_isWithin (by constructor <;> omega) (by constructor <;> omega) (by constructor <;> omega)) (by decide) (Nat.le_of_ble_eq_true rfl) rfl (fun h_8 => ?_)
  refine ev_ireturn dX6_has_11 rfl (by first | rfl | decide | (split <;> rfl) | (split <;> decide)) (by constructor <;> omega) ?_
  refine ⟨?_, rfl, ?_⟩
  · first | rfl | (refine congrArg (fun z => some (Sum.inl z)) ?_; first | rfl | omega | (split <;> omega) | (simp [*]; done))
  · first | rfl | (simp [*]; done)
set_option maxHeartbeats 1000000 in
theorem c_X6_parentOf {l : Launch} {M : ev_M} {x : Int} (hx : 0 ≤ x ∧ x < 16) : Cx l 1 kX6_parentOf yX6_parentOf S0 M [vr 2, vi x] (some (vi (M 4 x.toNat))) M := by
  refine Cx.of (by decide) rfl (by decide) (Nat.le_of_ble_eq_true rfl) ?_
  refine (show Ev _ none _ _ _ _ _ 0 [_, _] [] _ from ?_)
  refine ev_aload_0 (q := 1) dX6_parentOf_0 rfl ?_
  refine ev_getR (q := 4) dX6_parentOf_1 fl_RX6_14 (by first | assumption | rfl) (by rfl) rfl ?_
  refine ev_iload_1 (q := 5) dX6_parentOf_4 rfl ?_
  refine ev_callV1i (q := 8) dX6_parentOf_5 vs_RX6_38 (by first | assumption | rfl) (c_X2_atR (by first | assumption | rfl) (by first | assumption | rfl) (by first | decide | omega) (by omega)) (by decide) (Nat.le_of_ble_eq_true rfl) rfl (fun h_5 => ?_)
  refine ev_ireturn dX6_parentOf_8 rfl rfl (by constructor <;> omega) ?_
  refine ⟨?_, rfl, ?_⟩
  · first | rfl | (refine congrArg (fun z => some (Sum.inl z)) ?_; first | rfl | omega | (split <;> omega) | (simp [*]; done))
  · first | rfl | (simp [*]; done)
set_option maxHeartbeats 1000000 in
theorem c_X6_kindOf {l : Launch} {M : ev_M} {x : Int} (hx : 0 ≤ x ∧ x < 16) : Cx l 1 kX6_kindOf yX6_kindOf S0 M [vr 2, vi x] (some (vi (M 6 x.toNat))) M := by
  refine Cx.of (by decide) rfl (by decide) (Nat.le_of_ble_eq_true rfl) ?_
  refine (show Ev _ none _ _ _ _ _ 0 [_, _] [] _ from ?_)
  refine ev_aload_0 (q := 1) dX6_kindOf_0 rfl ?_
  refine ev_getR (q := 4) dX6_kindOf_1 fl_RX6_20 (by first | assumption | rfl) (by rfl) rfl ?_
  refine ev_iload_1 (q := 5) dX6_kindOf_4 rfl ?_
  refine ev_callV1i (q := 8) dX6_kindOf_5 vs_RX6_38 (by first | assumption | rfl) (c_X2_atR (by first | assumption | rfl) (by first | assumption | rfl) (by first | decide | omega) (by omega)) (by decide) (Nat.le_of_ble_eq_true rfl) rfl (fun h_5 => ?_)
  refine ev_ireturn dX6_kindOf_8 rfl rfl (by constructor <;> omega) ?_
  refine ⟨?_, rfl, ?_⟩
  · first | rfl | (refine congrArg (fun z => some (Sum.inl z)) ?_; first | rfl | omega | (split <;> omega) | (simp [*]; done))
  · first | rfl | (simp [*]; done)
set_option maxHeartbeats 1000000 in
theorem c_X6_classesOf {l : Launch} {M : ev_M} {x : Int} (hx : 0 ≤ x ∧ x < 16) : Cx l 1 kX6_classesOf yX6_classesOf S0 M [vr 2, vi x] (some (vi (M 8 x.toNat))) M := by
  refine Cx.of (by decide) rfl (by decide) (Nat.le_of_ble_eq_true rfl) ?_
  refine (show Ev _ none _ _ _ _ _ 0 [_, _] [] _ from ?_)
  refine ev_aload_0 (q := 1) dX6_classesOf_0 rfl ?_
  refine ev_getR (q := 4) dX6_classesOf_1 fl_RX6_23 (by first | assumption | rfl) (by rfl) rfl ?_
  refine ev_iload_1 (q := 5) dX6_classesOf_4 rfl ?_
  refine ev_callV1i (q := 8) dX6_classesOf_5 vs_RX6_38 (by first | assumption | rfl) (c_X2_atR (by first | assumption | rfl) (by first | assumption | rfl) (by first | decide | omega) (by omega)) (by decide) (Nat.le_of_ble_eq_true rfl) rfl (fun h_5 => ?_)
  refine ev_ireturn dX6_classesOf_8 rfl rfl (by constructor <;> omega) ?_
  refine ⟨?_, rfl, ?_⟩
  · first | rfl | (refine congrArg (fun z => some (Sum.inl z)) ?_; first | rfl | omega | (split <;> omega) | (simp [*]; done))
  · first | rfl | (simp [*]; done)
set_option maxHeartbeats 1000000 in
theorem c_X6_setLook {l : Launch} {M : ev_M} {x k c : Int} (hx : 0 ≤ x ∧ x < 16) (hk : inR k) (hc : inR c) : Cx l 1 kX6_setLook yX6_setLook S0 M [vr 2, vi x, vi k, vi c] none (up (up M 6 x.toNat k) 8 x.toNat c) := by
  refine Cx.of (by decide) rfl (by decide) (Nat.le_of_ble_eq_true rfl) ?_
  refine (show Ev _ none _ _ _ _ _ 0 [_, _, _, _] [] _ from ?_)
  refine ev_aload_0 (q := 1) dX6_setLook_0 rfl ?_
  refine ev_getR (q := 4) dX6_setLook_1 fl_RX6_20 (by first | assumption | rfl) (by rfl) rfl ?_
  refine ev_iload_1 (q := 5) dX6_setLook_4 rfl ?_
  refine ev_iload_2 (q := 6) dX6_setLook_5 rfl ?_
  refine ev_callV2v (q := 9) dX6_setLook_6 vs_RX6_26 (by first | assumption | rfl) (c_X2_putR (by first | assumption | rfl) (by first | assumption | rfl) (by first | decide | omega) (by omega) (by constructor <;> omega)) (by decide) (Nat.le_of_ble_eq_true rfl) rfl ?_
  refine ev_aload_0 (q := 10) dX6_setLook_9 rfl ?_
  refine ev_getR (q := 13) dX6_setLook_10 fl_RX6_23 (by first | assumption | rfl) (by rfl) rfl ?_
  refine ev_iload_1 (q := 14) dX6_setLook_13 rfl ?_
  refine ev_iload_3 (q := 15) dX6_setLook_14 rfl ?_
  refine ev_callV2v (q := 18) dX6_setLook_15 vs_RX6_26 (by first | assumption | rfl) (c_X2_putR (by first | assumption | rfl) (by first | assumption | rfl) (by first | decide | omega) (by omega) (by constructor <;> omega)) (by decide) (Nat.le_of_ble_eq_true rfl) rfl ?_
  refine ev_return dX6_setLook_18 rfl ?_
  refine ⟨?_, rfl, ?_⟩
  · first | rfl | (refine congrArg (fun z => some (Sum.inl z)) ?_; first | rfl | omega | (split <;> omega) | (simp [*]; done))
  · first | rfl | (simp [*]; done)
set_option maxHeartbeats 1000000 in
theorem c_X6_append {l : Launch} {M : ev_M} {x k c : Int} (hs : 0 ≤ M 2 0 ∧ M 2 0 < 16) (hx : inR x) (hk : inR k) (hc : inR c) : Cx l 2 kX6_append yX6_append S0 M [vr 2, vi x, vi k, vi c] (some (vi (M 2 0))) (up (up (up (up M 4 (M 2 0).toNat x) 6 (M 2 0).toNat k) 8 (M 2 0).toNat c) 2 0 (M 2 0 + 1)) := by
  refine Cx.of (by decide) rfl (by decide) (Nat.le_of_ble_eq_true rfl) ?_
  refine (show Ev _ none _ _ _ _ _ 0 [_, _, _, _, _] [] _ from ?_)
  refine ev_aload_0 (q := 1) dX6_append_0 rfl ?_
  refine ev_getI (q := 4) dX6_append_1 fl_RX6_30 (by first | assumption | rfl) (by rfl) rfl (fun h_1 => ?_)
  refine ev_istore_4 (q := 6) dX6_append_4 rfl (by decide) ?_
  refine ev_aload_0 (q := 7) dX6_append_6 rfl ?_
  refine ev_getR (q := 10) dX6_append_7 fl_RX6_14 (by first | assumption | rfl) (by rfl) rfl ?_
  refine ev_iload_4 (q := 12) dX6_append_10 rfl ?_
  refine ev_iload_1 (q := 13) dX6_append_12 rfl ?_
  refine ev_callV2v (q := 16) dX6_append_13 vs_RX6_26 (by first | assumption | rfl) (c_X2_putR (by first | assumption | rfl) (by first | assumption | rfl) (by first | decide | omega) (by omega) (by constructor <;> omega)) (by decide) (Nat.le_of_ble_eq_true rfl) rfl ?_
  refine ev_aload_0 (q := 17) dX6_append_16 rfl ?_
  refine ev_iload_4 (q := 19) dX6_append_17 rfl ?_
  refine ev_iload_2 (q := 20) dX6_append_19 rfl ?_
  refine ev_iload_3 (q := 21) dX6_append_20 rfl ?_
  refine ev_callV3v (q := 24) dX6_append_21 vs_RX6_42 (by first | assumption | rfl) (c_X6_setLook (by omega) (by constructor <;> omega) (by constructor <;> omega)) (by decide) (Nat.le_of_ble_eq_true rfl) rfl ?_
  refine ev_aload_0 (q := 25) dX6_append_24 rfl ?_
  refine ev_dup (q := 26) dX6_append_25 rfl ?_
  refine ev_getI (q := 29) dX6_append_26 fl_RX6_30 (by first | assumption | rfl) (by rfl) rfl (fun h_26 => ?_)
  simp only [up_at, Nat.reduceEqDiff, Nat.succ_ne_self, reduceCtorEq, false_and, and_false, and_true, true_and, and_self, if_false, if_true, reduceIte, eq_self] at h_26 ⊢
  refine ev_iconst (q := 30) dX6_append_29 rfl ?_
  refine ev_iadd (q := 31) dX6_append_30 rfl ?_
  refine ev_putI (q := 34) dX6_append_31 fl_RX6_30 (by first | assumption | rfl) (by rfl) rfl (by constructor <;> omega) ?_
  refine ev_iload_4 (q := 36) dX6_append_34 rfl ?_
  refine ev_ireturn dX6_append_36 rfl rfl (by constructor <;> omega) ?_
  refine ⟨?_, rfl, ?_⟩
  · first | rfl | (refine congrArg (fun z => some (Sum.inl z)) ?_; first | rfl | omega | (split <;> omega) | (simp [*]; done))
  · first | rfl | (simp [*]; done)
set_option maxHeartbeats 1000000 in
theorem c_X6_shorten {l : Launch} {M : ev_M} (hs : 1 ≤ M 2 0 ∧ M 2 0 ≤ 16) : Cx l 0 kX6_shorten yX6_shorten S0 M [vr 2] (some (vi (M 2 0 - 1))) (up M 2 0 (M 2 0 - 1)) := by
  refine Cx.of (by decide) rfl (by decide) (Nat.le_of_ble_eq_true rfl) ?_
  refine (show Ev _ none _ _ _ _ _ 0 [_] [] _ from ?_)
  refine ev_aload_0 (q := 1) dX6_shorten_0 rfl ?_
  refine ev_dup (q := 2) dX6_shorten_1 rfl ?_
  refine ev_getI (q := 5) dX6_shorten_2 fl_RX6_30 (by first | assumption | rfl) (by rfl) rfl (fun h_2 => ?_)
  refine ev_iconst (q := 6) dX6_shorten_5 rfl ?_
  refine ev_isub (q := 7) dX6_shorten_6 rfl ?_
  refine ev_putI (q := 10) dX6_shorten_7 fl_RX6_30 (by first | assumption | rfl) (by rfl) rfl (by constructor <;> omega) ?_
  refine ev_aload_0 (q := 11) dX6_shorten_10 rfl ?_
  refine ev_getI (q := 14) dX6_shorten_11 fl_RX6_30 (by first | assumption | rfl) (by rfl) rfl (fun h_11 => ?_)
  refine ev_ireturn dX6_shorten_14 rfl rfl (by constructor <;> omega) ?_
  refine ⟨?_, rfl, ?_⟩
  · first | rfl | (refine congrArg (fun z => some (Sum.inl z)) ?_; first | rfl | omega | (split <;> omega) | (simp [*]; done))
  · first | rfl | (simp [*]; done)

/-- the parents lie below: what the way up needs -/
def Par (M : ev_M) (n : Int) (a : Nat) : Prop := 1 ≤ n ∧ n ≤ 16 ∧ ∀ i : Nat, (i : Int) < n → -1 ≤ M a i ∧ M a i < i
set_option maxHeartbeats 1000000 in
theorem lp_X6_stepsUp {l : Launch} {M : ev_M} {e a : Int} (hp : Par M (M 2 0) 4) (ha : inR a) : ∀ (n : Nat) (pl s r : Int), s = 16 - (n : Int) → n ≤ 16 → -1 ≤ pl → pl < M 2 0 → r = (if stp (M 4) n pl a < 0 then -1 else stp (M 4) n pl a + s) → Ev l none 1 kX6_stepsUp (0, 0) S0 M 5 [some (vr 2), some (vi e), some (vi a), some (vi pl), some (vi s)] [] (QX (some (vi r)) S0 M) := by
  intro n
  induction n with
  | zero =>
    intro pl s r hs hn h0 h1 hr
    obtain ⟨p1, p2, p3⟩ := hp
    unfold stp at hr
    refine ev_iload_4 (q := 7) dX6_stepsUp_5 rfl ?_
    refine ev_bipush (q := 9) dX6_stepsUp_7 rfl (by decide) ?_
    refine ev_icmp_ge (t := 39) (q := 12) dX6_stepsUp_9 (by decide) rfl (by constructor <;> omega) (by constructor <;> omega) (fun h_9 => ?_) (fun h_9 => ?_)
    · refine ev_iconst (q := 40) dX6_stepsUp_39 rfl ?_
      refine ev_ireturn dX6_stepsUp_40 rfl rfl (by constructor <;> omega) ?_
      exact ⟨by rw [hr]; first | rfl | omega, rfl, rfl⟩
    · refine ev_iload_3 (q := 13) dX6_stepsUp_12 rfl ?_
      refine ev_if_lt (t := 39) (q := 16) dX6_stepsUp_13 (by decide) rfl (by constructor <;> omega) (fun h_13 => ?_) (fun h_13 => ?_)
      · refine ev_iconst (q := 40) dX6_stepsUp_39 rfl ?_
        refine ev_ireturn dX6_stepsUp_40 rfl rfl (by constructor <;> omega) ?_
        exact ⟨by rw [hr]; first | rfl | omega, rfl, rfl⟩
      · refine ev_iload_3 (q := 17) dX6_stepsUp_16 rfl ?_
        refine ev_iload_2 (q := 18) dX6_stepsUp_17 rfl ?_
        refine ev_icmp_ne (t := 24) (q := 21) dX6_stepsUp_18 (by decide) rfl (by constructor <;> omega) (by constructor <;> omega) (fun h_18 => ?_) (fun h_18 => ?_)
        · refine ev_aload_0 (q := 25) dX6_stepsUp_24 rfl ?_
          refine ev_getR (q := 28) dX6_stepsUp_25 fl_RX6_14 (by first | assumption | rfl) (by rfl) rfl ?_
          refine ev_iload_3 (q := 29) dX6_stepsUp_28 rfl ?_
          refine ev_callV1i (q := 32) dX6_stepsUp_29 vs_RX6_38 (by first | assumption | rfl) (c_X2_atR (by first | assumption | rfl) (by first | assumption | rfl) (by first | decide | omega) (by omega)) (by decide) (Nat.le_of_ble_eq_true rfl) rfl (fun h_29 => ?_)
          refine ev_istore_3 (q := 33) dX6_stepsUp_32 rfl (by decide) ?_
          refine ev_iinc_4 (q := 36) dX6_stepsUp_33 rfl (by decide) ?_
          refine ev_goto (q := 5) dX6_stepsUp_36 (by decide) ?_
          omega
        · refine ev_iload_4 (q := 23) dX6_stepsUp_21 rfl ?_
          refine ev_ireturn dX6_stepsUp_23 rfl rfl (by constructor <;> omega) ?_
          exact ⟨by rw [hr]; first | rfl | omega, rfl, rfl⟩
  | succ n ih =>
    intro pl s r hs hn h0 h1 hr
    obtain ⟨p1, p2, p3⟩ := id hp
    have hst := stp_rng (M 4) n (M 4 pl.toNat) a
    have hsr := stp_rng (M 4) (n + 1) pl a
    have hpp : 0 ≤ pl → -1 ≤ M 4 pl.toNat ∧ M 4 pl.toNat < pl := fun h => by have := p3 pl.toNat (by omega); omega
    unfold stp at hr hsr
    refine ev_iload_4 (q := 7) dX6_stepsUp_5 rfl ?_
    refine ev_bipush (q := 9) dX6_stepsUp_7 rfl (by decide) ?_
    refine ev_icmp_ge (t := 39) (q := 12) dX6_stepsUp_9 (by decide) rfl (by constructor <;> omega) (by constructor <;> omega) (fun h_9 => ?_) (fun h_9 => ?_)
    · refine ev_iconst (q := 40) dX6_stepsUp_39 rfl ?_
      refine ev_ireturn dX6_stepsUp_40 rfl rfl (by constructor <;> omega) ?_
      refine ⟨congrArg (fun z => some (Sum.inl z)) ?_, rfl, rfl⟩
      rw [hr]; (repeat' split) <;> omega
    · refine ev_iload_3 (q := 13) dX6_stepsUp_12 rfl ?_
      refine ev_if_lt (t := 39) (q := 16) dX6_stepsUp_13 (by decide) rfl (by constructor <;> omega) (fun h_13 => ?_) (fun h_13 => ?_)
      · refine ev_iconst (q := 40) dX6_stepsUp_39 rfl ?_
        refine ev_ireturn dX6_stepsUp_40 rfl rfl (by constructor <;> omega) ?_
        refine ⟨congrArg (fun z => some (Sum.inl z)) ?_, rfl, rfl⟩
        rw [hr]; (repeat' split) <;> omega
      · refine ev_iload_3 (q := 17) dX6_stepsUp_16 rfl ?_
        refine ev_iload_2 (q := 18) dX6_stepsUp_17 rfl ?_
        refine ev_icmp_ne (t := 24) (q := 21) dX6_stepsUp_18 (by decide) rfl (by constructor <;> omega) (by constructor <;> omega) (fun h_18 => ?_) (fun h_18 => ?_)
        · refine ev_aload_0 (q := 25) dX6_stepsUp_24 rfl ?_
          refine ev_getR (q := 28) dX6_stepsUp_25 fl_RX6_14 (by first | assumption | rfl) (by rfl) rfl ?_
          refine ev_iload_3 (q := 29) dX6_stepsUp_28 rfl ?_
          refine ev_callV1i (q := 32) dX6_stepsUp_29 vs_RX6_38 (by first | assumption | rfl) (c_X2_atR (by first | assumption | rfl) (by first | assumption | rfl) (by first | decide | omega) (by omega)) (by decide) (Nat.le_of_ble_eq_true rfl) rfl (fun h_29 => ?_)
          refine ev_istore_3 (q := 33) dX6_stepsUp_32 rfl (by decide) ?_
          refine ev_iinc_4 (q := 36) dX6_stepsUp_33 rfl (by decide) ?_
          refine ev_goto (q := 5) dX6_stepsUp_36 (by decide) ?_
          refine ih _ _ _ ?_ ?_ ?_ ?_ ?_
          · omega
          · omega
          · have := hpp (by omega); omega
          · have := hpp (by omega); omega
          · rw [hr]; (repeat' split) <;> omega
        · refine ev_iload_4 (q := 23) dX6_stepsUp_21 rfl ?_
          refine ev_ireturn dX6_stepsUp_23 rfl rfl (by constructor <;> omega) ?_
          refine ⟨congrArg (fun z => some (Sum.inl z)) ?_, rfl, rfl⟩
          rw [hr]; (repeat' split) <;> omega
set_option maxHeartbeats 1000000 in
theorem c_X6_stepsUp {l : Launch} {M : ev_M} {x a : Int} (hp : Par M (M 2 0) 4) (hx : 0 ≤ x ∧ x < M 2 0) (ha : inR a) : Cx l 1 kX6_stepsUp yX6_stepsUp S0 M [vr 2, vi x, vi a] (some (vi (stp (M 4) 16 x a))) M := by
  obtain ⟨p1, p2, p3⟩ := id hp
  have hst := stp_rng (M 4) 16 x a
  refine Cx.of (by decide) rfl (by decide) (Nat.le_of_ble_eq_true rfl) ?_
  refine (show Ev _ none _ _ _ _ _ 0 [_, _, _, _, _] [] _ from ?_)
  refine ev_iload_1 (q := 1) dX6_stepsUp_0 rfl ?_
  refine ev_istore_3 (q := 2) dX6_stepsUp_1 rfl (by decide) ?_
  refine ev_iconst (q := 3) dX6_stepsUp_2 rfl ?_
  refine ev_istore_4 (q := 5) dX6_stepsUp_3 rfl (by decide) ?_
  exact lp_X6_stepsUp hp ha 16 x 0 _ (by omega) (by omega) (by omega) (by omega) (by split <;> omega)

set_option maxHeartbeats 1000000 in
theorem lp_X6_hasKindAbove {l : Launch} {M : ev_M} {e k : Int} (hp : Par M (M 2 0) 4) (ha : inR k) : ∀ (n : Nat) (pl s r : Int), s = 16 - (n : Int) → n ≤ 16 → -1 ≤ pl → pl < M 2 0 → r = (if hka (M 4) (M 6) n pl k = true then 1 else 0) → Ev l none 1 kX6_hasKindAbove (0, 0) S0 M 12 [some (vr 2), some (vi e), some (vi k), some (vi pl), some (vi s)] [] (QX (some (vi r)) S0 M) := by
  intro n
  induction n with
  | zero =>
    intro pl s r hs hn h0 h1 hr
    obtain ⟨p1, p2, p3⟩ := hp
    refine ev_iload_4 (q := 14) dX6_hasKindAbove_12 rfl ?_
    refine ev_bipush (q := 16) dX6_hasKindAbove_14 rfl (by decide) ?_
    refine ev_icmp_ge (t := 52) (q := 19) dX6_hasKindAbove_16 (by decide) rfl (by constructor <;> omega) (by constructor <;> omega) (fun h_16 => ?_) (fun h_16 => ?_)
    · refine ev_iconst (q := 53) dX6_hasKindAbove_52 rfl ?_
      refine ev_ireturn dX6_hasKindAbove_53 rfl (by first | rfl | decide | (split <;> rfl) | (split <;> decide)) (by constructor <;> omega) ?_
      exact ⟨by rw [hr]; rfl, rfl, rfl⟩
    · refine ev_iload_3 (q := 20) dX6_hasKindAbove_19 rfl ?_
      refine ev_if_lt (t := 52) (q := 23) dX6_hasKindAbove_20 (by decide) rfl (by constructor <;> omega) (fun h_20 => ?_) (fun h_20 => ?_)
      · refine ev_iconst (q := 53) dX6_hasKindAbove_52 rfl ?_
        refine ev_ireturn dX6_hasKindAbove_53 rfl (by first | rfl | decide | (split <;> rfl) | (split <;> decide)) (by constructor <;> omega) ?_
        exact ⟨by rw [hr]; rfl, rfl, rfl⟩
      · omega
  | succ n ih =>
    intro pl s r hs hn h0 h1 hr
    obtain ⟨p1, p2, p3⟩ := id hp
    have hpp : 0 ≤ pl → -1 ≤ M 4 pl.toNat ∧ M 4 pl.toNat < pl := fun h => by have := p3 pl.toNat (by omega); omega
    unfold hka at hr
    refine ev_iload_4 (q := 14) dX6_hasKindAbove_12 rfl ?_
    refine ev_bipush (q := 16) dX6_hasKindAbove_14 rfl (by decide) ?_
    refine ev_icmp_ge (t := 52) (q := 19) dX6_hasKindAbove_16 (by decide) rfl (by constructor <;> omega) (by constructor <;> omega) (fun h_16 => ?_) (fun h_16 => ?_)
    · refine ev_iconst (q := 53) dX6_hasKindAbove_52 rfl ?_
      refine ev_ireturn dX6_hasKindAbove_53 rfl (by first | rfl | decide | (split <;> rfl) | (split <;> decide)) (by constructor <;> omega) ?_
      refine ⟨congrArg (fun z => some (Sum.inl z)) ?_, rfl, rfl⟩
      rw [hr]
      first | omega | (simp [h_20]; done) | (simp [h_20, h_32]; done)
    · refine ev_iload_3 (q := 20) dX6_hasKindAbove_19 rfl ?_
      refine ev_if_lt (t := 52) (q := 23) dX6_hasKindAbove_20 (by decide) rfl (by constructor <;> omega) (fun h_20 => ?_) (fun h_20 => ?_)
      · refine ev_iconst (q := 53) dX6_hasKindAbove_52 rfl ?_
        refine ev_ireturn dX6_hasKindAbove_53 rfl (by first | rfl | decide | (split <;> rfl) | (split <;> decide)) (by constructor <;> omega) ?_
        refine ⟨congrArg (fun z => some (Sum.inl z)) ?_, rfl, rfl⟩
        rw [hr]
        first | omega | (simp [h_20]; done) | (simp [h_20, h_32]; done)
      · refine ev_aload_0 (q := 24) dX6_hasKindAbove_23 rfl ?_
        refine ev_getR (q := 27) dX6_hasKindAbove_24 fl_RX6_20 (by first | assumption | rfl) (by rfl) rfl ?_
        refine ev_iload_3 (q := 28) dX6_hasKindAbove_27 rfl ?_
        refine ev_callV1i (q := 31) dX6_hasKindAbove_28 vs_RX6_38 (by first | assumption | rfl) (c_X2_atR (by first | assumption | rfl) (by first | assumption | rfl) (by first | decide | omega) (by omega)) (by decide) (Nat.le_of_ble_eq_true rfl) rfl (fun h_28 => ?_)
        refine ev_iload_2 (q := 32) dX6_hasKindAbove_31 rfl ?_
        refine ev_icmp_ne (t := 37) (q := 35) dX6_hasKindAbove_32 (by decide) rfl (by constructor <;> omega) (by constructor <;> omega) (fun h_32 => ?_) (fun h_32 => ?_)
        · refine ev_aload_0 (q := 38) dX6_hasKindAbove_37 rfl ?_
          refine ev_getR (q := 41) dX6_hasKindAbove_38 fl_RX6_14 (by first | assumption | rfl) (by rfl) rfl ?_
          refine ev_iload_3 (q := 42) dX6_hasKindAbove_41 rfl ?_
          refine ev_callV1i (q := 45) dX6_hasKindAbove_42 vs_RX6_38 (by first | assumption | rfl) (c_X2_atR (by first | assumption | rfl) (by first | assumption | rfl) (by first | decide | omega) (by omega)) (by decide) (Nat.le_of_ble_eq_true rfl) rfl (fun h_42 => ?_)
          refine ev_istore_3 (q := 46) dX6_hasKindAbove_45 rfl (by decide) ?_
          refine ev_iinc_4 (q := 49) dX6_hasKindAbove_46 rfl (by decide) ?_
          refine ev_goto (q := 12) dX6_hasKindAbove_49 (by decide) ?_
          refine ih _ _ _ ?_ ?_ ?_ ?_ ?_
          · omega
          · omega
          · have := hpp (by omega); omega
          · have := hpp (by omega); omega
          · rw [hr]; simp [h_20, h_32]
        · refine ev_iconst (q := 36) dX6_hasKindAbove_35 rfl ?_
          refine ev_ireturn dX6_hasKindAbove_36 rfl (by first | rfl | decide | (split <;> rfl) | (split <;> decide)) (by constructor <;> omega) ?_
          refine ⟨congrArg (fun z => some (Sum.inl z)) ?_, rfl, rfl⟩
          rw [hr]
          first | omega | (simp [h_20]; done) | (simp [h_20, h_32]; done)
set_option maxHeartbeats 1000000 in
theorem c_X6_hasKindAbove {l : Launch} {M : ev_M} {x k : Int} (hp : Par M (M 2 0) 4) (hx : 0 ≤ x ∧ x < M 2 0) (ha : inR k) : Cx l 1 kX6_hasKindAbove yX6_hasKindAbove S0 M [vr 2, vi x, vi k] (some (vi (if hka (M 4) (M 6) 16 (M 4 x.toNat) k = true then 1 else 0))) M := by
  obtain ⟨p1, p2, p3⟩ := id hp
  have hpp := p3 x.toNat (by omega)
  refine Cx.of (by decide) rfl (by decide) (Nat.le_of_ble_eq_true rfl) ?_
  refine (show Ev _ none _ _ _ _ _ 0 [_, _, _, _, _] [] _ from ?_)
  refine ev_aload_0 (q := 1) dX6_hasKindAbove_0 rfl ?_
  refine ev_getR (q := 4) dX6_hasKindAbove_1 fl_RX6_14 (by first | assumption | rfl) (by rfl) rfl ?_
  refine ev_iload_1 (q := 5) dX6_hasKindAbove_4 rfl ?_
  refine ev_callV1i (q := 8) dX6_hasKindAbove_5 vs_RX6_38 (by first | assumption | rfl) (c_X2_atR (by first | assumption | rfl) (by first | assumption | rfl) (by first | decide | omega) (by omega)) (by decide) (Nat.le_of_ble_eq_true rfl) rfl (fun h_5 => ?_)
  refine ev_istore_3 (q := 9) dX6_hasKindAbove_8 rfl (by decide) ?_
  refine ev_iconst (q := 10) dX6_hasKindAbove_9 rfl ?_
  refine ev_istore_4 (q := 12) dX6_hasKindAbove_10 rfl (by decide) ?_
  exact lp_X6_hasKindAbove hp ha 16 _ 0 _ (by omega) (by omega) (by omega) (by omega) rfl

