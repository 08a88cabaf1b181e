/-- places lo to hi - 1 of cell a hold what stood k places on -/
def shf (M : ev_M) (a lo hi k : Nat) : ev_M := fun i c => if i = a ∧ lo ≤ c ∧ c < hi then M a (c + k) else M i c
/-- places lo to hi - 1 of cell a hold v -/
def fil (M : ev_M) (a lo hi : Nat) (v : Int) : ev_M := fun i c => if i = a ∧ lo ≤ c ∧ c < hi then v else M i c
/-- n places of cell a from lo on hold those of cell b from 0 on -/
def blk (M : ev_M) (a lo n b : Nat) : ev_M := fun i c => if i = a ∧ lo ≤ c ∧ c < lo + n then M b (c - lo) else M i c
theorem shf_at (M : ev_M) (a lo hi k i c : Nat) : shf M a lo hi k i c = if i = a ∧ lo ≤ c ∧ c < hi then M a (c + k) else M i c := rfl
theorem fil_at (M : ev_M) (a lo hi : Nat) (v : Int) (i c : Nat) : fil M a lo hi v i c = if i = a ∧ lo ≤ c ∧ c < hi then v else M i c := rfl
theorem blk_at (M : ev_M) (a lo n b i c : Nat) : blk M a lo n b i c = if i = a ∧ lo ≤ c ∧ c < lo + n then M b (c - lo) else M i c := rfl
theorem cp_at (M : ev_M) (a b n i c : Nat) : cp M a b n i c = if i = a ∧ c < n then M b c else M i c := rfl
theorem shf_0 (M : ev_M) (a lo k : Nat) : shf M a lo lo k = M := by
  funext i c
  simp only [shf]
  rw [if_neg (by omega)]
theorem fil_0 (M : ev_M) (a lo : Nat) (v : Int) : fil M a lo lo v = M := by
  funext i c
  simp only [fil]
  rw [if_neg (by omega)]
theorem blk_0 (M : ev_M) (a lo b : Nat) : blk M a lo 0 b = M := by
  funext i c
  simp only [blk]
  rw [if_neg (by omega)]
theorem shf_s {M : ev_M} {a lo j k : Nat} (h : lo ≤ j) : up (shf M a lo j k) a j (shf M a lo j k a (j + k)) = shf M a lo (j + 1) k := by
  funext i c
  simp only [up_at, shf_at]
  by_cases hi : i = a
  · subst hi
    by_cases hc : c = j
    · subst hc
      simp only [true_and, and_self, if_true]
      rw [if_neg (by omega), if_pos (by omega)]
    · simp only [hc, and_false, if_false, true_and]
      by_cases h1 : lo ≤ c ∧ c < j
      · rw [if_pos h1, if_pos (by omega)]
      · rw [if_neg h1, if_neg (by omega)]
  · simp [hi]
theorem fil_s {M : ev_M} {a lo j : Nat} {v : Int} (h : lo ≤ j) : up (fil M a lo j v) a j v = fil M a lo (j + 1) v := by
  funext i c
  simp only [up_at, fil_at]
  by_cases hi : i = a
  · subst hi
    by_cases hc : c = j
    · subst hc
      simp only [true_and, and_self, if_true]
      rw [if_pos (by omega)]
    · simp only [hc, and_false, if_false, true_and]
      by_cases h1 : lo ≤ c ∧ c < j
      · rw [if_pos h1, if_pos (by omega)]
      · rw [if_neg h1, if_neg (by omega)]
  · simp [hi]
theorem blk_s {M : ev_M} {a lo j b : Nat} (h : a ≠ b) : up (blk M a lo j b) a (lo + j) (blk M a lo j b b j) = blk M a lo (j + 1) b := by
  funext i c
  simp only [up_at, blk_at]
  by_cases hi : i = a
  · subst hi
    by_cases hc : c = lo + j
    · subst hc
      simp only [true_and, and_self, if_true]
      rw [if_neg (fun z => h z.1.symm), if_pos (by omega)]
      congr 1; omega
    · simp only [hc, and_false, if_false, true_and]
      by_cases h1 : lo ≤ c ∧ c < lo + j
      · rw [if_pos h1, if_pos (by omega)]
      · rw [if_neg h1, if_neg (by omega)]
  · simp [hi]
theorem Ev_M {l : Launch} {X : Option (Nat × (Nat → Int))} {d : Nat} {k : ev_K} {b : Nat × Nat} {S : List ev_Sh} {M M' : ev_M} {pc : Nat} {ls : List (Option ev_V)} {st : List ev_V} {Q : Option ev_V → List ev_Sh → ev_M → Prop} (h : M = M') (K : Ev l X d k b S M' pc ls st Q) : Ev l X d k b S M pc ls st Q := h ▸ K
/-- how many of the lowest four bits are set -/
def pop4 (x : Int) : Int := x % 2 + x / 2 % 2 + x / 4 % 2 + x / 8 % 2
theorem pop4_rng {x : Int} (h : 0 ≤ x ∧ x ≤ 15) : 0 ≤ pop4 x ∧ pop4 x ≤ 4 := by unfold pop4; omega
theorem bc_end {l : Launch} {M : ev_M} {x y : Int} {ls : List (Option ev_V)} (hx : 0 ≤ x ∧ x ≤ 15) (hy : y = pop4 x) : Ev l none 0 kJ6_bitCount_0f7a4 (0, 0) S0 M 52 ls [vi y] (QX (some (vi (pop4 x))) S0 M) := by
  have := pop4_rng hx
  exact ev_ireturn dJ6_bitCount_0f7a4_52 rfl rfl (by rw [hy]; constructor <;> omega) ⟨by rw [hy], rfl, rfl⟩
set_option maxHeartbeats 4000000 in
theorem c_bitCount {l : Launch} {M : ev_M} {x : Int} (hx : 0 ≤ x ∧ x ≤ 15) : Cx l 0 kJ6_bitCount_0f7a4 yJ6_bitCount_0f7a4 S0 M [vi x] (some (vi (pop4 x))) M := by
  refine Cx.of (by decide) rfl (by decide) (Nat.le_of_ble_eq_true rfl) ?_
  refine (show Ev _ none _ _ _ _ _ 0 [_] [] _ from ?_)
  refine ev_iload_0 (q := 1) dJ6_bitCount_0f7a4_0 rfl ?_
  refine ev_iload_0 (q := 2) dJ6_bitCount_0f7a4_1 rfl ?_
  refine ev_iconst (q := 3) dJ6_bitCount_0f7a4_2 rfl ?_
  refine ev_iushr (q := 4) dJ6_bitCount_0f7a4_3 rfl ?_
  refine ev_ldcw (n := 1431655765) (q := 7) dJ6_bitCount_0f7a4_4 rfl kc_RJ6_265 (by decide) ?_
  refine ev_iand (q := 8) dJ6_bitCount_0f7a4_7 rfl ?_
  refine ev_isub (q := 9) dJ6_bitCount_0f7a4_8 rfl ?_
  refine ev_istore_0 (q := 10) dJ6_bitCount_0f7a4_9 rfl (by decide) ?_
  refine ev_iload_0 (q := 11) dJ6_bitCount_0f7a4_10 rfl ?_
  refine ev_ldcw (n := 858993459) (q := 14) dJ6_bitCount_0f7a4_11 rfl kc_RJ6_266 (by decide) ?_
  refine ev_iand (q := 15) dJ6_bitCount_0f7a4_14 rfl ?_
  refine ev_iload_0 (q := 16) dJ6_bitCount_0f7a4_15 rfl ?_
  refine ev_iconst (q := 17) dJ6_bitCount_0f7a4_16 rfl ?_
  refine ev_iushr (q := 18) dJ6_bitCount_0f7a4_17 rfl ?_
  refine ev_ldcw (n := 858993459) (q := 21) dJ6_bitCount_0f7a4_18 rfl kc_RJ6_266 (by decide) ?_
  refine ev_iand (q := 22) dJ6_bitCount_0f7a4_21 rfl ?_
  refine ev_iadd (q := 23) dJ6_bitCount_0f7a4_22 rfl ?_
  refine ev_istore_0 (q := 24) dJ6_bitCount_0f7a4_23 rfl (by decide) ?_
  refine ev_iload_0 (q := 25) dJ6_bitCount_0f7a4_24 rfl ?_
  refine ev_iload_0 (q := 26) dJ6_bitCount_0f7a4_25 rfl ?_
  refine ev_iconst (q := 27) dJ6_bitCount_0f7a4_26 rfl ?_
  refine ev_iushr (q := 28) dJ6_bitCount_0f7a4_27 rfl ?_
  refine ev_iadd (q := 29) dJ6_bitCount_0f7a4_28 rfl ?_
  refine ev_ldcw (n := 252645135) (q := 32) dJ6_bitCount_0f7a4_29 rfl kc_RJ6_267 (by decide) ?_
  refine ev_iand (q := 33) dJ6_bitCount_0f7a4_32 rfl ?_
  refine ev_istore_0 (q := 34) dJ6_bitCount_0f7a4_33 rfl (by decide) ?_
  refine ev_iload_0 (q := 35) dJ6_bitCount_0f7a4_34 rfl ?_
  refine ev_iload_0 (q := 36) dJ6_bitCount_0f7a4_35 rfl ?_
  refine ev_bipush (q := 38) dJ6_bitCount_0f7a4_36 rfl (by decide) ?_
  refine ev_iushr (q := 39) dJ6_bitCount_0f7a4_38 rfl ?_
  refine ev_iadd (q := 40) dJ6_bitCount_0f7a4_39 rfl ?_
  refine ev_istore_0 (q := 41) dJ6_bitCount_0f7a4_40 rfl (by decide) ?_
  refine ev_iload_0 (q := 42) dJ6_bitCount_0f7a4_41 rfl ?_
  refine ev_iload_0 (q := 43) dJ6_bitCount_0f7a4_42 rfl ?_
  refine ev_bipush (q := 45) dJ6_bitCount_0f7a4_43 rfl (by decide) ?_
  refine ev_iushr (q := 46) dJ6_bitCount_0f7a4_45 rfl ?_
  refine ev_iadd (q := 47) dJ6_bitCount_0f7a4_46 rfl ?_
  refine ev_istore_0 (q := 48) dJ6_bitCount_0f7a4_47 rfl (by decide) ?_
  refine ev_iload_0 (q := 49) dJ6_bitCount_0f7a4_48 rfl ?_
  refine ev_bipush (q := 51) dJ6_bitCount_0f7a4_49 rfl (by decide) ?_
  refine ev_iand (q := 52) dJ6_bitCount_0f7a4_51 rfl ?_
  refine bc_end hx ?_
  have h16 : x = 0 ∨ x = 1 ∨ x = 2 ∨ x = 3 ∨ x = 4 ∨ x = 5 ∨ x = 6 ∨ x = 7 ∨ x = 8 ∨ x = 9 ∨ x = 10 ∨ x = 11 ∨ x = 12 ∨ x = 13 ∨ x = 14 ∨ x = 15 := by omega
  rcases h16 with h | h | h | h | h | h | h | h | h | h | h | h | h | h | h | h <;> subst h <;> decide +kernel
/-- a rule's specificity, by its kind, classes and ancestor -/
def spc (k c a : Int) : Int := 10 * pop4 c + (if k = -1 then 0 else 1) + (if a = -1 then 0 else 1)
theorem spc_rng {k c a : Int} (h : 0 ≤ c ∧ c ≤ 15) : 0 ≤ spc k c a ∧ spc k c a ≤ 42 := by
  have := pop4_rng h
  unfold spc
  (repeat' split) <;> omega
set_option maxHeartbeats 1000000 in
theorem c_X3_specificity {l : Launch} {M : ev_M} {r : Int} (hr : 0 ≤ r ∧ r < 16) (hc : 0 ≤ M 11 (r * 6 + 1).toNat ∧ M 11 (r * 6 + 1).toNat ≤ 15) : Cx l 1 kX3_specificity yX3_specificity S0 M [vr 9, vi r] (some (vi (spc (M 11 (r * 6 + 0).toNat) (M 11 (r * 6 + 1).toNat) (M 11 (r * 6 + 2).toNat)))) M := by
  have hp := pop4_rng hc
  refine Cx.of (by decide) rfl (by decide) (Nat.le_of_ble_eq_true rfl) ?_
  refine (show Ev _ none _ _ _ _ _ 0 [_, _, _] [] _ from ?_)
  refine ev_iload_1 (q := 1) dX3_specificity_0 rfl ?_
  refine ev_bipush (q := 3) dX3_specificity_1 rfl (by decide) ?_
  refine ev_imul (q := 4) dX3_specificity_3 rfl ?_
  refine ev_istore_2 (q := 5) dX3_specificity_4 rfl (by decide) ?_
  refine ev_bipush (q := 7) dX3_specificity_5 rfl (by decide) ?_
  refine ev_aload_0 (q := 8) dX3_specificity_7 rfl ?_
  refine ev_getR (q := 11) dX3_specificity_8 fl_RX3_14 (by first | assumption | rfl) (by rfl) rfl ?_
  refine ev_iload_2 (q := 12) dX3_specificity_11 rfl ?_
  refine ev_iconst (q := 13) dX3_specificity_12 rfl ?_
  refine ev_iadd (q := 14) dX3_specificity_13 rfl ?_
  refine ev_callV1i (q := 17) dX3_specificity_14 vs_RX3_31 (by first | assumption | rfl) (c_X2_atR (by first | assumption | rfl) (by first | assumption | rfl) (by first | decide | omega) (by omega)) (by decide) (Nat.le_of_ble_eq_true rfl) rfl (fun h_14 => ?_)
  refine ev_callS1i (q := 20) dX3_specificity_17 ss_RX3_43 (c_bitCount (by omega)) (by decide) (Nat.le_of_ble_eq_true rfl) rfl (fun h_17 => ?_)
  refine ev_imul (q := 21) dX3_specificity_20 rfl ?_
  refine ev_aload_0 (q := 22) dX3_specificity_21 rfl ?_
  refine ev_getR (q := 25) dX3_specificity_22 fl_RX3_14 (by first | assumption | rfl) (by rfl) rfl ?_
  refine ev_iload_2 (q := 26) dX3_specificity_25 rfl ?_
  refine ev_iconst (q := 27) dX3_specificity_26 rfl ?_
  refine ev_iadd (q := 28) dX3_specificity_27 rfl ?_
  refine ev_callV1i (q := 31) dX3_specificity_28 vs_RX3_31 (by first | assumption | rfl) (c_X2_atR (by first | assumption | rfl) (by first | assumption | rfl) (by first | decide | omega) (by omega)) (by decide) (Nat.le_of_ble_eq_true rfl) rfl (fun h_28 => ?_)
  refine ev_iconst (q := 32) dX3_specificity_31 rfl ?_
  refine ev_icmp_ne (t := 39) (q := 35) dX3_specificity_32 (by decide) rfl (by constructor <;> omega) (by constructor <;> omega) (fun h_32 => ?_) (fun h_32 => ?_)
  · refine ev_iconst (q := 40) dX3_specificity_39 rfl ?_
    refine ev_iadd (q := 41) dX3_specificity_40 rfl ?_
    refine ev_aload_0 (q := 42) dX3_specificity_41 rfl ?_
    refine ev_getR (q := 45) dX3_specificity_42 fl_RX3_14 (by first | assumption | rfl) (by rfl) rfl ?_
    refine ev_iload_2 (q := 46) dX3_specificity_45 rfl ?_
    refine ev_iconst (q := 47) dX3_specificity_46 rfl ?_
    refine ev_iadd (q := 48) dX3_specificity_47 rfl ?_
    refine ev_callV1i (q := 51) dX3_specificity_48 vs_RX3_31 (by first | assumption | rfl) (c_X2_atR (by first | assumption | rfl) (by first | assumption | rfl) (by first | decide | omega) (by omega)) (by decide) (Nat.le_of_ble_eq_true rfl) rfl (fun h_48 => ?_)
    refine ev_iconst (q := 52) dX3_specificity_51 rfl ?_
    refine ev_icmp_ne (t := 59) (q := 55) dX3_specificity_52 (by decide) rfl (by constructor <;> omega) (by constructor <;> omega) (fun h_52 => ?_) (fun h_52 => ?_)
    · refine ev_iconst (q := 60) dX3_specificity_59 rfl ?_
      refine ev_iadd (q := 61) dX3_specificity_60 rfl ?_
      refine ev_ireturn dX3_specificity_61 rfl rfl (by constructor <;> omega) ?_
      refine ⟨congrArg (fun z => some (Sum.inl z)) ?_, rfl, rfl⟩
      unfold spc
      (repeat' split) <;> omega
    · refine ev_iconst (q := 56) dX3_specificity_55 rfl ?_
      refine ev_goto (q := 60) dX3_specificity_56 (by decide) ?_
      refine ev_iadd (q := 61) dX3_specificity_60 rfl ?_
      refine ev_ireturn dX3_specificity_61 rfl rfl (by constructor <;> omega) ?_
      refine ⟨congrArg (fun z => some (Sum.inl z)) ?_, rfl, rfl⟩
      unfold spc
      (repeat' split) <;> omega
  · refine ev_iconst (q := 36) dX3_specificity_35 rfl ?_
    refine ev_goto (q := 40) dX3_specificity_36 (by decide) ?_
    refine ev_iadd (q := 41) dX3_specificity_40 rfl ?_
    refine ev_aload_0 (q := 42) dX3_specificity_41 rfl ?_
    refine ev_getR (q := 45) dX3_specificity_42 fl_RX3_14 (by first | assumption | rfl) (by rfl) rfl ?_
    refine ev_iload_2 (q := 46) dX3_specificity_45 rfl ?_
    refine ev_iconst (q := 47) dX3_specificity_46 rfl ?_
    refine ev_iadd (q := 48) dX3_specificity_47 rfl ?_
    refine ev_callV1i (q := 51) dX3_specificity_48 vs_RX3_31 (by first | assumption | rfl) (c_X2_atR (by first | assumption | rfl) (by first | assumption | rfl) (by first | decide | omega) (by omega)) (by decide) (Nat.le_of_ble_eq_true rfl) rfl (fun h_48 => ?_)
    refine ev_iconst (q := 52) dX3_specificity_51 rfl ?_
    refine ev_icmp_ne (t := 59) (q := 55) dX3_specificity_52 (by decide) rfl (by constructor <;> omega) (by constructor <;> omega) (fun h_52 => ?_) (fun h_52 => ?_)
    · refine ev_iconst (q := 60) dX3_specificity_59 rfl ?_
      refine ev_iadd (q := 61) dX3_specificity_60 rfl ?_
      refine ev_ireturn dX3_specificity_61 rfl rfl (by constructor <;> omega) ?_
      refine ⟨congrArg (fun z => some (Sum.inl z)) ?_, rfl, rfl⟩
      unfold spc
      (repeat' split) <;> omega
    · refine ev_iconst (q := 56) dX3_specificity_55 rfl ?_
      refine ev_goto (q := 60) dX3_specificity_56 (by decide) ?_
      refine ev_iadd (q := 61) dX3_specificity_60 rfl ?_
      refine ev_ireturn dX3_specificity_61 rfl rfl (by constructor <;> omega) ?_
      refine ⟨congrArg (fun z => some (Sum.inl z)) ?_, rfl, rfl⟩
      unfold spc
      (repeat' split) <;> omega
set_option maxHeartbeats 1000000 in
theorem lp_X2_putAll {l : Launch} {S : List ev_Sh} {M : ev_M} {r a n lo hi : Nat} {v f la : Int} (hr : S[r]? = some (oRow a)) (ha : S[a]? = some (ia n)) (hn : n ≤ 100000) (hv : inR v) (hla : la = (hi : Int) - 1) (hh : hi ≤ n) (hf : inR f) : ∀ (m j : Nat) (x : Int), x = j → j + m = hi → lo ≤ j → Ev l none 1 kX2_putAll (0, 0) S (fil M a lo j v) 3 [some (vr r), some (vi f), some (vi la), some (vi v), some (vi x)] [] (QX none S (fil M a lo hi v)) := by
  intro m
  induction m with
  | zero =>
    intro j x hx hj hl
    have : j = hi := by omega
    subst this
    refine ev_iload_4 (q := 5) dX2_putAll_3 rfl ?_
    refine ev_iload_2 (q := 6) dX2_putAll_5 rfl ?_
    refine ev_icmp_gt (t := 32) (q := 9) dX2_putAll_6 (by decide) rfl (by constructor <;> omega) (by constructor <;> omega) (fun h_6 => ?_) (fun h_6 => ?_)
    · refine ev_return dX2_putAll_32 rfl ?_
      exact ⟨rfl, rfl, rfl⟩
    · omega
  | succ m ih =>
    intro j x hx hj hl
    refine ev_iload_4 (q := 5) dX2_putAll_3 rfl ?_
    refine ev_iload_2 (q := 6) dX2_putAll_5 rfl ?_
    refine ev_icmp_gt (t := 32) (q := 9) dX2_putAll_6 (by decide) rfl (by constructor <;> omega) (by constructor <;> omega) (fun h_6 => ?_) (fun h_6 => ?_)
    · omega
    · refine ev_iload_4 (q := 11) dX2_putAll_9 rfl ?_
      refine ev_aload_0 (q := 12) dX2_putAll_11 rfl ?_
      refine ev_getR (q := 15) dX2_putAll_12 fl_RX2_15 (by first | assumption | rfl) (by rfl) rfl ?_
      refine ev_alen (q := 16) dX2_putAll_15 (by first | assumption | rfl) (by decide) rfl ?_
      refine ev_icmp_ge (t := 32) (q := 19) dX2_putAll_16 (by decide) rfl (by constructor <;> omega) (by constructor <;> omega) (fun h_16 => ?_) (fun h_16 => ?_)
      · omega
      · refine ev_aload_0 (q := 20) dX2_putAll_19 rfl ?_
        refine ev_iload_4 (q := 22) dX2_putAll_20 rfl ?_
        refine ev_iload_3 (q := 23) dX2_putAll_22 rfl ?_
        refine ev_callV2v (q := 26) dX2_putAll_23 vs_RX2_21 (by first | assumption | rfl) (c_X2_putR (by first | assumption | rfl) (by first | assumption | rfl) (by first | decide | omega) (by omega) (by constructor <;> omega)) (by decide) (Nat.le_of_ble_eq_true rfl) rfl ?_
        refine ev_iinc_4 (q := 29) dX2_putAll_26 rfl (by decide) ?_
        refine ev_goto (q := 3) dX2_putAll_29 (by decide) ?_
        refine Ev_M ?_ (ih (j + 1) _ (by omega) (by omega) (by omega))
        rw [show x.toNat = j by omega]
        exact fil_s hl
set_option maxHeartbeats 1000000 in
theorem c_X2_putAll {l : Launch} {S : List ev_Sh} {M : ev_M} {r a n lo hi : Nat} {v f la : Int} (hr : S[r]? = some (oRow a)) (ha : S[a]? = some (ia n)) (hn : n ≤ 100000) (hv : inR v) (hf : f = lo) (hla : la = (hi : Int) - 1) (hl : lo ≤ hi) (hh : hi ≤ n) : Cx l 1 kX2_putAll yX2_putAll S M [vr r, vi f, vi la, vi v] none (fil M a lo hi v) := by
  refine Cx.of (by decide) rfl (by decide) (Nat.le_of_ble_eq_true rfl) ?_
  refine (show Ev _ none _ _ _ _ _ 0 [_, _, _, _, _] [] _ from ?_)
  refine ev_iload_1 (q := 1) dX2_putAll_0 rfl ?_
  refine ev_istore_4 (q := 3) dX2_putAll_1 rfl (by decide) ?_
  refine Ev_M (fil_0 M a lo v).symm ?_
  exact lp_X2_putAll hr ha hn hv hla hh (by constructor <;> omega) (hi - lo) lo _ hf (by omega) (Nat.le_refl _)
set_option maxHeartbeats 1000000 in
theorem c_X3_setDeclaration {l : Launch} {M : ev_M} {r p n c f : Int} (hr : 0 ≤ r ∧ r < 16) (hp : 0 ≤ p ∧ p < 16) (hn : inR n) (hc : inR c) (hf : inR f) : Cx l 1 kX3_setDeclaration yX3_setDeclaration S0 M [vr 9, vi r, vi p, vi n, vi c, vi f] none (up (up (up M 13 (r * 48 + p * 3 + 0).toNat n) 13 (r * 48 + p * 3 + 1).toNat c) 13 (r * 48 + p * 3 + 2).toNat f) := by
  refine Cx.of (by decide) rfl (by decide) (Nat.le_of_ble_eq_true rfl) ?_
  refine (show Ev _ none _ _ _ _ _ 0 [_, _, _, _, _, _, _] [] _ from ?_)
  refine ev_iload_1 (q := 1) dX3_setDeclaration_0 rfl ?_
  refine ev_bipush (q := 3) dX3_setDeclaration_1 rfl (by decide) ?_
  refine ev_imul (q := 4) dX3_setDeclaration_3 rfl ?_
  refine ev_iload_2 (q := 5) dX3_setDeclaration_4 rfl ?_
  refine ev_iconst (q := 6) dX3_setDeclaration_5 rfl ?_
  refine ev_imul (q := 7) dX3_setDeclaration_6 rfl ?_
  refine ev_iadd (q := 8) dX3_setDeclaration_7 rfl ?_
  refine ev_istore_6 (q := 10) dX3_setDeclaration_8 rfl (by decide) ?_
  refine ev_aload_0 (q := 11) dX3_setDeclaration_10 rfl ?_
  refine ev_getR (q := 14) dX3_setDeclaration_11 fl_RX3_20 (by first | assumption | rfl) (by rfl) rfl ?_
  refine ev_iload_6 (q := 16) dX3_setDeclaration_14 rfl ?_
  refine ev_iconst (q := 17) dX3_setDeclaration_16 rfl ?_
  refine ev_iadd (q := 18) dX3_setDeclaration_17 rfl ?_
  refine ev_iload_3 (q := 19) dX3_setDeclaration_18 rfl ?_
  refine ev_callV2v (q := 22) dX3_setDeclaration_19 vs_RX3_58 (by first | assumption | rfl) (c_X2_putR (by first | assumption | rfl) (by first | assumption | rfl) (by first | decide | omega) (by omega) (by constructor <;> omega)) (by decide) (Nat.le_of_ble_eq_true rfl) rfl ?_
  refine ev_aload_0 (q := 23) dX3_setDeclaration_22 rfl ?_
  refine ev_getR (q := 26) dX3_setDeclaration_23 fl_RX3_20 (by first | assumption | rfl) (by rfl) rfl ?_
  refine ev_iload_6 (q := 28) dX3_setDeclaration_26 rfl ?_
  refine ev_iconst (q := 29) dX3_setDeclaration_28 rfl ?_
  refine ev_iadd (q := 30) dX3_setDeclaration_29 rfl ?_
  refine ev_iload_4 (q := 32) dX3_setDeclaration_30 rfl ?_
  refine ev_callV2v (q := 35) dX3_setDeclaration_32 vs_RX3_58 (by first | assumption | rfl) (c_X2_putR (by first | assumption | rfl) (by first | assumption | rfl) (by first | decide | omega) (by omega) (by constructor <;> omega)) (by decide) (Nat.le_of_ble_eq_true rfl) rfl ?_
  refine ev_aload_0 (q := 36) dX3_setDeclaration_35 rfl ?_
  refine ev_getR (q := 39) dX3_setDeclaration_36 fl_RX3_20 (by first | assumption | rfl) (by rfl) rfl ?_
  refine ev_iload_6 (q := 41) dX3_setDeclaration_39 rfl ?_
  refine ev_iconst (q := 42) dX3_setDeclaration_41 rfl ?_
  refine ev_iadd (q := 43) dX3_setDeclaration_42 rfl ?_
  refine ev_iload_5 (q := 45) dX3_setDeclaration_43 rfl ?_
  refine ev_callV2v (q := 48) dX3_setDeclaration_45 vs_RX3_58 (by first | assumption | rfl) (c_X2_putR (by first | assumption | rfl) (by first | assumption | rfl) (by first | decide | omega) (by omega) (by constructor <;> omega)) (by decide) (Nat.le_of_ble_eq_true rfl) rfl ?_
  refine ev_return dX3_setDeclaration_48 rfl ?_
  refine ⟨?_, rfl, ?_⟩
  · first | rfl | (refine congrArg (fun z => some (Sum.inl z)) ?_; first | rfl | omega | (split <;> omega) | (simp [*]; done))
  · first | rfl | (simp [*]; done)
set_option maxHeartbeats 1000000 in
theorem c_X3_setDeclarationD {l : Launch} {M : ev_M} {p n c f : Int} (hp : 0 ≤ p ∧ p < 100) (hn : inR n) (hc : inR c) (hf : inR f) : Cx l 1 kX3_setDeclaration yX3_setDeclaration S0 M [vr 95, vi 0, vi p, vi n, vi c, vi f] none (if p < 16 then up (up (up M 99 (p * 3 + 0).toNat n) 99 (p * 3 + 1).toNat c) 99 (p * 3 + 2).toNat f else M) := by
  have e : ∀ w : Int, 0 * 48 + p * 3 + w = p * 3 + w := fun w => by omega
  refine Cx.of (by decide) rfl (by decide) (Nat.le_of_ble_eq_true rfl) ?_
  refine (show Ev _ none _ _ _ _ _ 0 [_, _, _, _, _, _, _] [] _ from ?_)
  refine ev_iload_1 (q := 1) dX3_setDeclaration_0 rfl ?_
  refine ev_bipush (q := 3) dX3_setDeclaration_1 rfl (by decide) ?_
  refine ev_imul (q := 4) dX3_setDeclaration_3 rfl ?_
  refine ev_iload_2 (q := 5) dX3_setDeclaration_4 rfl ?_
  refine ev_iconst (q := 6) dX3_setDeclaration_5 rfl ?_
  refine ev_imul (q := 7) dX3_setDeclaration_6 rfl ?_
  refine ev_iadd (q := 8) dX3_setDeclaration_7 rfl ?_
  refine ev_istore_6 (q := 10) dX3_setDeclaration_8 rfl (by decide) ?_
  refine ev_aload_0 (q := 11) dX3_setDeclaration_10 rfl ?_
  refine ev_getR (q := 14) dX3_setDeclaration_11 fl_RX3_20 (by first | assumption | rfl) (by rfl) rfl ?_
  refine ev_iload_6 (q := 16) dX3_setDeclaration_14 rfl ?_
  refine ev_iconst (q := 17) dX3_setDeclaration_16 rfl ?_
  refine ev_iadd (q := 18) dX3_setDeclaration_17 rfl ?_
  refine ev_iload_3 (q := 19) dX3_setDeclaration_18 rfl ?_
  refine ev_callV2v (q := 22) dX3_setDeclaration_19 vs_RX3_58 (by first | assumption | rfl) (c_X2_put (by first | assumption | rfl) (by first | assumption | rfl) (by omega) (by constructor <;> omega) (by constructor <;> omega)) (by decide) (Nat.le_of_ble_eq_true rfl) rfl ?_
  refine ev_aload_0 (q := 23) dX3_setDeclaration_22 rfl ?_
  refine ev_getR (q := 26) dX3_setDeclaration_23 fl_RX3_20 (by first | assumption | rfl) (by rfl) rfl ?_
  refine ev_iload_6 (q := 28) dX3_setDeclaration_26 rfl ?_
  refine ev_iconst (q := 29) dX3_setDeclaration_28 rfl ?_
  refine ev_iadd (q := 30) dX3_setDeclaration_29 rfl ?_
  refine ev_iload_4 (q := 32) dX3_setDeclaration_30 rfl ?_
  refine ev_callV2v (q := 35) dX3_setDeclaration_32 vs_RX3_58 (by first | assumption | rfl) (c_X2_put (by first | assumption | rfl) (by first | assumption | rfl) (by omega) (by constructor <;> omega) (by constructor <;> omega)) (by decide) (Nat.le_of_ble_eq_true rfl) rfl ?_
  refine ev_aload_0 (q := 36) dX3_setDeclaration_35 rfl ?_
  refine ev_getR (q := 39) dX3_setDeclaration_36 fl_RX3_20 (by first | assumption | rfl) (by rfl) rfl ?_
  refine ev_iload_6 (q := 41) dX3_setDeclaration_39 rfl ?_
  refine ev_iconst (q := 42) dX3_setDeclaration_41 rfl ?_
  refine ev_iadd (q := 43) dX3_setDeclaration_42 rfl ?_
  refine ev_iload_5 (q := 45) dX3_setDeclaration_43 rfl ?_
  refine ev_callV2v (q := 48) dX3_setDeclaration_45 vs_RX3_58 (by first | assumption | rfl) (c_X2_put (by first | assumption | rfl) (by first | assumption | rfl) (by omega) (by constructor <;> omega) (by constructor <;> omega)) (by decide) (Nat.le_of_ble_eq_true rfl) rfl ?_
  refine ev_return dX3_setDeclaration_48 rfl ?_
  refine ⟨rfl, rfl, ?_⟩
  simp only [e, pt]
  by_cases h : p < 16
  · rw [if_pos (by omega), if_pos (by omega), if_pos (by omega), if_pos h]
  · rw [if_neg (by omega), if_neg (by omega), if_neg (by omega), if_neg h]
/-- the numbers behind append -/
def apM (M : ev_M) (u pa ea : Nat) (k c a y s i : Int) : ev_M := up (fil (up (up (up (up (up (up M pa (M u 0 * 6 + 0).toNat k) pa (M u 0 * 6 + 1).toNat c) pa (M u 0 * 6 + 2).toNat a) pa (M u 0 * 6 + 3).toNat y) pa (M u 0 * 6 + 4).toNat s) pa (M u 0 * 6 + 5).toNat i) ea (48 * (M u 0).toNat) (48 * (M u 0).toNat + 48) (-1)) u 0 (M u 0 + 1)
set_option maxHeartbeats 2000000 in
theorem c_X3_append {l : Launch} {M : ev_M} {u pr pa er ea np ne : Nat} {k c a y s i : Int} (hu : isRu u pr pa er ea np ne) (h1 : pa ≠ u) (h2 : ea ≠ u) (hs : 0 ≤ M u 0 ∧ M u 0 < 16) (hnp : M u 0 * 6 + 6 ≤ np) (hne : M u 0 * 48 + 48 ≤ ne) (hk : inR k) (hc : inR c) (ha : inR a) (hy : inR y) (hsc : inR s) (hi : inR i) : Cx l 2 kX3_append yX3_append S0 M [vr u, vi k, vi c, vi a, vi y, vi s, vi i] (some (vi (M u 0))) (apM M u pa ea k c a y s i) := by
  obtain ⟨u1, u2, u3, u4, u5, u6, u7⟩ := hu
  have e0 : (fil (up (up (up (up (up (up M pa (M u 0 * 6 + 0).toNat k) pa (M u 0 * 6 + 1).toNat c) pa (M u 0 * 6 + 2).toNat a) pa (M u 0 * 6 + 3).toNat y) pa (M u 0 * 6 + 4).toNat s) pa (M u 0 * 6 + 5).toNat i) ea (48 * (M u 0).toNat) (48 * (M u 0).toNat + 48) (-1)) u 0 = M u 0 := by
    simp [up_at, fil_at, Ne.symm h1, Ne.symm h2]
  refine Cx.of (by decide) rfl (by decide) (Nat.le_of_ble_eq_true rfl) ?_
  refine (show Ev _ none _ _ _ _ _ 0 [_, _, _, _, _, _, _, _, _] [] _ from ?_)
  refine ev_aload_0 (q := 1) dX3_append_0 rfl ?_
  refine ev_getI (q := 4) dX3_append_1 fl_RX3_23 (by first | assumption | rfl) (by rfl) rfl (fun h_1 => ?_)
  refine ev_istore_7 (q := 6) dX3_append_4 rfl (by decide) ?_
  refine ev_iload_7 (q := 8) dX3_append_6 rfl ?_
  refine ev_bipush (q := 10) dX3_append_8 rfl (by decide) ?_
  refine ev_imul (q := 11) dX3_append_10 rfl ?_
  refine ev_istore_8 (q := 13) dX3_append_11 rfl (by decide) ?_
  refine ev_aload_0 (q := 14) dX3_append_13 rfl ?_
  refine ev_getR (q := 17) dX3_append_14 fl_RX3_14 (by first | assumption | rfl) (by rfl) rfl ?_
  refine ev_iload_8 (q := 19) dX3_append_17 rfl ?_
  refine ev_iconst (q := 20) dX3_append_19 rfl ?_
  refine ev_iadd (q := 21) dX3_append_20 rfl ?_
  refine ev_iload_1 (q := 22) dX3_append_21 rfl ?_
  refine ev_callV2v (q := 25) dX3_append_22 vs_RX3_58 (by first | assumption | rfl) (c_X2_putR (by first | assumption | rfl) (by first | assumption | rfl) (by first | decide | omega) (by omega) (by constructor <;> omega)) (by decide) (Nat.le_of_ble_eq_true rfl) rfl ?_
  refine ev_aload_0 (q := 26) dX3_append_25 rfl ?_
  refine ev_getR (q := 29) dX3_append_26 fl_RX3_14 (by first | assumption | rfl) (by rfl) rfl ?_
  refine ev_iload_8 (q := 31) dX3_append_29 rfl ?_
  refine ev_iconst (q := 32) dX3_append_31 rfl ?_
  refine ev_iadd (q := 33) dX3_append_32 rfl ?_
  refine ev_iload_2 (q := 34) dX3_append_33 rfl ?_
  refine ev_callV2v (q := 37) dX3_append_34 vs_RX3_58 (by first | assumption | rfl) (c_X2_putR (by first | assumption | rfl) (by first | assumption | rfl) (by first | decide | omega) (by omega) (by constructor <;> omega)) (by decide) (Nat.le_of_ble_eq_true rfl) rfl ?_
  refine ev_aload_0 (q := 38) dX3_append_37 rfl ?_
  refine ev_getR (q := 41) dX3_append_38 fl_RX3_14 (by first | assumption | rfl) (by rfl) rfl ?_
  refine ev_iload_8 (q := 43) dX3_append_41 rfl ?_
  refine ev_iconst (q := 44) dX3_append_43 rfl ?_
  refine ev_iadd (q := 45) dX3_append_44 rfl ?_
  refine ev_iload_3 (q := 46) dX3_append_45 rfl ?_
  refine ev_callV2v (q := 49) dX3_append_46 vs_RX3_58 (by first | assumption | rfl) (c_X2_putR (by first | assumption | rfl) (by first | assumption | rfl) (by first | decide | omega) (by omega) (by constructor <;> omega)) (by decide) (Nat.le_of_ble_eq_true rfl) rfl ?_
  refine ev_aload_0 (q := 50) dX3_append_49 rfl ?_
  refine ev_getR (q := 53) dX3_append_50 fl_RX3_14 (by first | assumption | rfl) (by rfl) rfl ?_
  refine ev_iload_8 (q := 55) dX3_append_53 rfl ?_
  refine ev_iconst (q := 56) dX3_append_55 rfl ?_
  refine ev_iadd (q := 57) dX3_append_56 rfl ?_
  refine ev_iload_4 (q := 59) dX3_append_57 rfl ?_
  refine ev_callV2v (q := 62) dX3_append_59 vs_RX3_58 (by first | assumption | rfl) (c_X2_putR (by first | assumption | rfl) (by first | assumption | rfl) (by first | decide | omega) (by omega) (by constructor <;> omega)) (by decide) (Nat.le_of_ble_eq_true rfl) rfl ?_
  refine ev_aload_0 (q := 63) dX3_append_62 rfl ?_
  refine ev_getR (q := 66) dX3_append_63 fl_RX3_14 (by first | assumption | rfl) (by rfl) rfl ?_
  refine ev_iload_8 (q := 68) dX3_append_66 rfl ?_
  refine ev_iconst (q := 69) dX3_append_68 rfl ?_
  refine ev_iadd (q := 70) dX3_append_69 rfl ?_
  refine ev_iload_5 (q := 72) dX3_append_70 rfl ?_
  refine ev_callV2v (q := 75) dX3_append_72 vs_RX3_58 (by first | assumption | rfl) (c_X2_putR (by first | assumption | rfl) (by first | assumption | rfl) (by first | decide | omega) (by omega) (by constructor <;> omega)) (by decide) (Nat.le_of_ble_eq_true rfl) rfl ?_
  refine ev_aload_0 (q := 76) dX3_append_75 rfl ?_
  refine ev_getR (q := 79) dX3_append_76 fl_RX3_14 (by first | assumption | rfl) (by rfl) rfl ?_
  refine ev_iload_8 (q := 81) dX3_append_79 rfl ?_
  refine ev_iconst (q := 82) dX3_append_81 rfl ?_
  refine ev_iadd (q := 83) dX3_append_82 rfl ?_
  refine ev_iload_6 (q := 85) dX3_append_83 rfl ?_
  refine ev_callV2v (q := 88) dX3_append_85 vs_RX3_58 (by first | assumption | rfl) (c_X2_putR (by first | assumption | rfl) (by first | assumption | rfl) (by first | decide | omega) (by omega) (by constructor <;> omega)) (by decide) (Nat.le_of_ble_eq_true rfl) rfl ?_
  refine ev_aload_0 (q := 89) dX3_append_88 rfl ?_
  refine ev_getR (q := 92) dX3_append_89 fl_RX3_20 (by first | assumption | rfl) (by rfl) rfl ?_
  refine ev_iload_7 (q := 94) dX3_append_92 rfl ?_
  refine ev_bipush (q := 96) dX3_append_94 rfl (by decide) ?_
  refine ev_imul (q := 97) dX3_append_96 rfl ?_
  refine ev_iload_7 (q := 99) dX3_append_97 rfl ?_
  refine ev_iconst (q := 100) dX3_append_99 rfl ?_
  refine ev_iadd (q := 101) dX3_append_100 rfl ?_
  refine ev_bipush (q := 103) dX3_append_101 rfl (by decide) ?_
  refine ev_imul (q := 104) dX3_append_103 rfl ?_
  refine ev_iconst (q := 105) dX3_append_104 rfl ?_
  refine ev_isub (q := 106) dX3_append_105 rfl ?_
  refine ev_iconst (q := 107) dX3_append_106 rfl ?_
  refine ev_callV3v (q := 110) dX3_append_107 vs_RX3_62 (by first | assumption | rfl) (c_X2_putAll (lo := 48 * (M u 0).toNat) (hi := 48 * (M u 0).toNat + 48) (by first | assumption | rfl) (by first | assumption | rfl) (by omega) (by constructor <;> omega) (by omega) (by omega) (by omega) (by omega)) (by decide) (Nat.le_of_ble_eq_true rfl) rfl ?_
  refine ev_aload_0 (q := 111) dX3_append_110 rfl ?_
  refine ev_dup (q := 112) dX3_append_111 rfl ?_
  refine ev_getI (q := 115) dX3_append_112 fl_RX3_23 (by first | assumption | rfl) (by rfl) rfl (fun h_112 => ?_)
  rw [e0] at *
  refine ev_iconst (q := 116) dX3_append_115 rfl ?_
  refine ev_iadd (q := 117) dX3_append_116 rfl ?_
  refine ev_putI (q := 120) dX3_append_117 fl_RX3_23 (by first | assumption | rfl) (by rfl) rfl (by constructor <;> omega) ?_
  refine ev_iload_7 (q := 122) dX3_append_120 rfl ?_
  refine ev_ireturn dX3_append_122 rfl rfl (by constructor <;> omega) ?_
  exact ⟨rfl, rfl, rfl⟩

