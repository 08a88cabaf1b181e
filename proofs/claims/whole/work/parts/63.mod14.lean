section Cnts
variable {l : Launch} {M : ev_M} {v : Vw}
theorem sumN_rb {f : Nat → Int} {b : Int} (hb : 0 ≤ b) : ∀ n, (∀ i, i < n → 0 ≤ f i ∧ f i ≤ b) → 0 ≤ sumN f n ∧ sumN f n ≤ n * b
  | 0, _ => ⟨Int.le_refl _, by simp [sumN]⟩
  | n + 1, h => by
    have h1 := sumN_rb hb n (fun i hi => h i (by omega))
    have h2 := h n (by omega)
    unfold sumN
    rw [show ((n + 1 : Nat) : Int) * b = (n : Int) * b + b by rw [Int.natCast_add, Int.add_mul]; simp]
    omega
/-- a declaration of the sort that is asked for -/
def srt (v : Vw) (b : Bool) (r p : Nat) : Bool := if b = true then decide (ven v r p 1 ≠ -1) else dclV v p r
theorem agE_s {r p : Nat} {s a c : Int} (h : AgE s a c (ven v r p)) (b : Bool) : (srt v b r p = true ↔ s = 2 ∨ b = false ∧ s = 1) := by
  unfold srt dclV
  rcases h with ⟨q1, q2, q3, q4⟩ | ⟨q1, q2, q3, q4, q5⟩ | ⟨q1, q2, q3, q4, q5⟩ <;> cases b <;> simp [q1, q2, q3, q4] <;> omega
set_option maxHeartbeats 1000000 in
theorem lp_X8_declarations {r : Nat} (hA : Ag (M 101) v) (hW : Wf v) (hr : (r : Int) < vrn v) : ∀ (n j : Nat) (x y : Int), x = j → j + n = 16 → y = cnt (fun p => dclV v p r) j → Ev l none 1 kX8_declarations (0, 0) S0 M 4 [some (vr 100), some (vi (r : Int)), some (vi y), some (vi x)] [] (QX (some (vi (dsV v r))) S0 M) := by
  have h2 := hW.2.1
  intro n
  induction n with
  | zero =>
    intro j x y hx hn hy
    have hj : j = 16 := by omega
    have hc := cnt_rng (fun p => dclV v p r) j
    refine ev_iload_3 (q := 5) dX8_declarations_4 rfl ?_
    refine ev_bipush (q := 7) dX8_declarations_5 rfl (by decide) ?_
    refine ev_icmp_ge (t := 37) (q := 10) dX8_declarations_7 (by decide) rfl (by constructor <;> omega) (by constructor <;> omega) (fun h_7 => ?_) (fun h_7 => ?_)
    · refine ev_iload_2 (q := 38) dX8_declarations_37 rfl ?_
      refine ev_ireturn dX8_declarations_38 rfl rfl (by constructor <;> omega) ?_
      exact ⟨by rw [hy, hj]; rfl, rfl, rfl⟩
    · omega
  | succ n ih =>
    intro j x y hx hn hy
    have hc := cnt_rng (fun p => dclV v p r) j
    have hE := agE_d (hA.2.2.2.2 r j hr (by omega))
    have hy2 := (sy_N r j).1
    subst hx
    refine ev_iload_3 (q := 5) dX8_declarations_4 rfl ?_
    refine ev_bipush (q := 7) dX8_declarations_5 rfl (by decide) ?_
    refine ev_icmp_ge (t := 37) (q := 10) dX8_declarations_7 (by decide) rfl (by constructor <;> omega) (by constructor <;> omega) (fun h_7 => ?_) (fun h_7 => ?_)
    · refine ev_iload_2 (q := 38) dX8_declarations_37 rfl ?_
      refine ev_ireturn dX8_declarations_38 rfl rfl (by constructor <;> omega) ?_
      omega
    · refine ev_iload_2 (q := 11) dX8_declarations_10 rfl ?_
      refine ev_aload_0 (q := 12) dX8_declarations_11 rfl ?_
      refine ev_getR (q := 15) dX8_declarations_12 fl_RX8_7 (by first | assumption | rfl) (by rfl) rfl ?_
      refine ev_iload_1 (q := 16) dX8_declarations_15 rfl ?_
      refine ev_iload_3 (q := 17) dX8_declarations_16 rfl ?_
      refine ev_callS2i (q := 20) dX8_declarations_17 ss_RX8_78 (c_X8_says (by omega) (by omega)) (by decide) (Nat.le_of_ble_eq_true rfl) rfl (fun h_17 => ?_)
      refine ev_iaload (q := 21) dX8_declarations_20 (by first | assumption | rfl) (by omega) (by first | decide | omega) rfl (fun h_20 => ?_)
      rw [hy2] at h_20 ⊢
      refine ev_if_ne (t := 28) (q := 24) dX8_declarations_21 (by decide) rfl (by constructor <;> omega) (fun h_21 => ?_) (fun h_21 => ?_)
      · refine ev_iconst (q := 29) dX8_declarations_28 rfl ?_
        refine ev_iadd (q := 30) dX8_declarations_29 rfl ?_
        refine ev_istore_2 (q := 31) dX8_declarations_30 rfl (by decide) ?_
        refine ev_iinc_3 (q := 34) dX8_declarations_31 rfl (by decide) ?_
        refine ev_goto (q := 4) dX8_declarations_34 (by decide) ?_
        refine ih (j + 1) _ _ rfl (by omega) ?_
        unfold cnt
        rw [hy]
        first | (rw [if_pos (hE.2.1 (by omega))]; done) | (rw [if_neg (fun q => absurd (hE.2.2 q) (by omega))])
      · refine ev_iconst (q := 25) dX8_declarations_24 rfl ?_
        refine ev_goto (q := 29) dX8_declarations_25 (by decide) ?_
        refine ev_iadd (q := 30) dX8_declarations_29 rfl ?_
        refine ev_istore_2 (q := 31) dX8_declarations_30 rfl (by decide) ?_
        refine ev_iinc_3 (q := 34) dX8_declarations_31 rfl (by decide) ?_
        refine ev_goto (q := 4) dX8_declarations_34 (by decide) ?_
        refine ih (j + 1) _ _ rfl (by omega) ?_
        unfold cnt
        rw [hy]
        first | (rw [if_pos (hE.2.1 (by omega))]; done) | (rw [if_neg (fun q => absurd (hE.2.2 q) (by omega))])
set_option maxHeartbeats 1000000 in
theorem c_X8_declarations {r : Nat} (hA : Ag (M 101) v) (hW : Wf v) (hr : (r : Int) < vrn v) : Cx l 1 kX8_declarations yX8_declarations S0 M [vr 100, vi (r : Int)] (some (vi (dsV v r))) M := by
  refine Cx.of (by decide) rfl (by decide) (Nat.le_of_ble_eq_true rfl) ?_
  refine (show Ev _ none _ _ _ _ _ 0 [_, _, _, _] [] _ from ?_)
  refine ev_iconst (q := 1) dX8_declarations_0 rfl ?_
  refine ev_istore_2 (q := 2) dX8_declarations_1 rfl (by decide) ?_
  refine ev_iconst (q := 3) dX8_declarations_2 rfl ?_
  refine ev_istore_3 (q := 4) dX8_declarations_3 rfl (by decide) ?_
  exact lp_X8_declarations hA hW hr 16 0 _ _ rfl rfl rfl
set_option maxHeartbeats 2000000 in
theorem lp_inRules_i {b : Bool} {r : Nat} {z : Int} {Q : Option ev_V → List ev_Sh → ev_M → Prop} (hA : Ag (M 101) v) (hW : Wf v) (hr : (r : Int) < vrn v) (hz : 0 ≤ z ∧ z ≤ 1000) (K : ∀ w, Ev l none 1 kX8_inRules (0, 0) S0 M 72 [some (vr 100), some (vi (b01 b)), some (vi (z + cnt (fun p => srt v b r p) 16)), some (vi (r : Int)), w] [] Q) : ∀ (n j : Nat) (x y : Int), x = j → j + n = 16 → y = z + cnt (fun p => srt v b r p) j → Ev l none 1 kX8_inRules (0, 0) S0 M 17 [some (vr 100), some (vi (b01 b)), some (vi y), some (vi (r : Int)), some (vi x)] [] Q := by
  have h2 := hW.2.1
  have hbr := b01_rng b
  intro n
  induction n with
  | zero =>
    intro j x y hx hn hy
    have hj : j = 16 := by omega
    refine ev_iload_4 (q := 19) dX8_inRules_17 rfl ?_
    refine ev_bipush (q := 21) dX8_inRules_19 rfl (by decide) ?_
    refine ev_icmp_ge (t := 72) (q := 24) dX8_inRules_21 (by decide) rfl (by constructor <;> omega) (by constructor <;> omega) (fun h_21 => ?_) (fun h_21 => ?_)
    · rw [hy, hj]
      exact K _
    · omega
  | succ n ih =>
    intro j x y hx hn hy
    have hc := cnt_rng (fun p => srt v b r p) j
    have hE := agE_s (hA.2.2.2.2 r j hr (by omega)) b
    have hE2 := agE_d (hA.2.2.2.2 r j hr (by omega))
    have hy2 := (sy_N r j).1
    subst hx
    refine ev_iload_4 (q := 19) dX8_inRules_17 rfl ?_
    refine ev_bipush (q := 21) dX8_inRules_19 rfl (by decide) ?_
    refine ev_icmp_ge (t := 72) (q := 24) dX8_inRules_21 (by decide) rfl (by constructor <;> omega) (by constructor <;> omega) (fun h_21 => ?_) (fun h_21 => ?_)
    · omega
    · refine ev_iload_2 (q := 25) dX8_inRules_24 rfl ?_
      refine ev_aload_0 (q := 26) dX8_inRules_25 rfl ?_
      refine ev_getR (q := 29) dX8_inRules_26 fl_RX8_7 (by first | assumption | rfl) (by rfl) rfl ?_
      refine ev_iload_3 (q := 30) dX8_inRules_29 rfl ?_
      refine ev_iload_4 (q := 32) dX8_inRules_30 rfl ?_
      refine ev_callS2i (q := 35) dX8_inRules_32 ss_RX8_78 (c_X8_says (by omega) (by omega)) (by decide) (Nat.le_of_ble_eq_true rfl) rfl (fun h_32 => ?_)
      refine ev_iaload (q := 36) dX8_inRules_35 (by first | assumption | rfl) (by omega) (by first | decide | omega) rfl (fun h_35 => ?_)
      rw [hy2] at h_35 ⊢
      refine ev_iconst (q := 37) dX8_inRules_36 rfl ?_
      refine ev_icmp_eq (t := 59) (q := 40) dX8_inRules_37 (by decide) rfl (by constructor <;> omega) (by constructor <;> omega) (fun h_37 => ?_) (fun h_37 => ?_)
      · refine ev_iconst (q := 60) dX8_inRules_59 rfl ?_
        refine ev_goto (q := 64) dX8_inRules_60 (by decide) ?_
        refine ev_iadd (q := 65) dX8_inRules_64 rfl ?_
        refine ev_istore_2 (q := 66) dX8_inRules_65 rfl (by decide) ?_
        refine ev_iinc_4 (q := 69) dX8_inRules_66 rfl (by decide) ?_
        refine ev_goto (q := 17) dX8_inRules_69 (by decide) ?_
        refine ih (j + 1) _ _ rfl (by omega) ?_
        unfold cnt
        rw [hy]
        first
        | (rw [if_pos (hE.2 (Or.inl h_37))]; omega)
        | (rw [if_pos (hE.2 (Or.inr ⟨b01_t.1 h_41, h_56⟩))]; omega)
        | (rw [if_neg (fun q => (hE.1 q).elim h_37 (fun z => h_56 z.2))]; omega)
        | (rw [if_neg (fun q => (hE.1 q).elim h_37 (fun z => h_41 (b01_t.2 z.1)))]; omega)
      · refine ev_iload_1 (q := 41) dX8_inRules_40 rfl ?_
        refine ev_if_ne (t := 63) (q := 44) dX8_inRules_41 (by decide) rfl (by constructor <;> omega) (fun h_41 => ?_) (fun h_41 => ?_)
        · refine ev_iconst (q := 64) dX8_inRules_63 rfl ?_
          refine ev_iadd (q := 65) dX8_inRules_64 rfl ?_
          refine ev_istore_2 (q := 66) dX8_inRules_65 rfl (by decide) ?_
          refine ev_iinc_4 (q := 69) dX8_inRules_66 rfl (by decide) ?_
          refine ev_goto (q := 17) dX8_inRules_69 (by decide) ?_
          refine ih (j + 1) _ _ rfl (by omega) ?_
          unfold cnt
          rw [hy]
          first
          | (rw [if_pos (hE.2 (Or.inl h_37))]; omega)
          | (rw [if_pos (hE.2 (Or.inr ⟨b01_t.1 h_41, h_56⟩))]; omega)
          | (rw [if_neg (fun q => (hE.1 q).elim h_37 (fun z => h_56 z.2))]; omega)
          | (rw [if_neg (fun q => (hE.1 q).elim h_37 (fun z => h_41 (b01_t.2 z.1)))]; omega)
        · refine ev_aload_0 (q := 45) dX8_inRules_44 rfl ?_
          refine ev_getR (q := 48) dX8_inRules_45 fl_RX8_7 (by first | assumption | rfl) (by rfl) rfl ?_
          refine ev_iload_3 (q := 49) dX8_inRules_48 rfl ?_
          refine ev_iload_4 (q := 51) dX8_inRules_49 rfl ?_
          refine ev_callS2i (q := 54) dX8_inRules_51 ss_RX8_78 (c_X8_says (by omega) (by omega)) (by decide) (Nat.le_of_ble_eq_true rfl) rfl (fun h_51 => ?_)
          refine ev_iaload (q := 55) dX8_inRules_54 (by first | assumption | rfl) (by omega) (by first | decide | omega) rfl (fun h_54 => ?_)
          rw [hy2] at h_54 ⊢
          refine ev_iconst (q := 56) dX8_inRules_55 rfl ?_
          refine ev_icmp_ne (t := 63) (q := 59) dX8_inRules_56 (by decide) rfl (by constructor <;> omega) (by constructor <;> omega) (fun h_56 => ?_) (fun h_56 => ?_)
          · refine ev_iconst (q := 64) dX8_inRules_63 rfl ?_
            refine ev_iadd (q := 65) dX8_inRules_64 rfl ?_
            refine ev_istore_2 (q := 66) dX8_inRules_65 rfl (by decide) ?_
            refine ev_iinc_4 (q := 69) dX8_inRules_66 rfl (by decide) ?_
            refine ev_goto (q := 17) dX8_inRules_69 (by decide) ?_
            refine ih (j + 1) _ _ rfl (by omega) ?_
            unfold cnt
            rw [hy]
            first
            | (rw [if_pos (hE.2 (Or.inl h_37))]; omega)
            | (rw [if_pos (hE.2 (Or.inr ⟨b01_t.1 h_41, h_56⟩))]; omega)
            | (rw [if_neg (fun q => (hE.1 q).elim h_37 (fun z => h_56 z.2))]; omega)
            | (rw [if_neg (fun q => (hE.1 q).elim h_37 (fun z => h_41 (b01_t.2 z.1)))]; omega)
          · refine ev_iconst (q := 60) dX8_inRules_59 rfl ?_
            refine ev_goto (q := 64) dX8_inRules_60 (by decide) ?_
            refine ev_iadd (q := 65) dX8_inRules_64 rfl ?_
            refine ev_istore_2 (q := 66) dX8_inRules_65 rfl (by decide) ?_
            refine ev_iinc_4 (q := 69) dX8_inRules_66 rfl (by decide) ?_
            refine ev_goto (q := 17) dX8_inRules_69 (by decide) ?_
            refine ih (j + 1) _ _ rfl (by omega) ?_
            unfold cnt
            rw [hy]
            first
            | (rw [if_pos (hE.2 (Or.inl h_37))]; omega)
            | (rw [if_pos (hE.2 (Or.inr ⟨b01_t.1 h_41, h_56⟩))]; omega)
            | (rw [if_neg (fun q => (hE.1 q).elim h_37 (fun z => h_56 z.2))]; omega)
            | (rw [if_neg (fun q => (hE.1 q).elim h_37 (fun z => h_41 (b01_t.2 z.1)))]; omega)
set_option maxHeartbeats 2000000 in
theorem lp_inRules {b : Bool} (hA : Ag (M 101) v) (hW : Wf v) : ∀ (n j : Nat) (x y : Int) (w : Option ev_V), x = j → j + n = (vrn v).toNat → y = sumN (fun r => cnt (fun p => srt v b r p) 16) j → Ev l none 1 kX8_inRules (0, 0) S0 M 4 [some (vr 100), some (vi (b01 b)), some (vi y), some (vi x), w] [] (QX (some (vi (sumN (fun r => cnt (fun p => srt v b r p) 16) (vrn v).toNat))) S0 M) := by
  have h2 := hW.2.1
  have hn1 := hA.2.1
  intro n
  induction n with
  | zero =>
    intro j x y w hx hn hy
    have hj : j = (vrn v).toNat := by omega
    have hs := sumN_rb (f := fun r => cnt (fun p => srt v b r p) 16) (b := 16) (by decide) j (fun i hi => cnt_rng _ 16)
    refine ev_iload_3 (q := 5) dX8_inRules_4 rfl ?_
    refine ev_aload_0 (q := 6) dX8_inRules_5 rfl ?_
    refine ev_getR (q := 9) dX8_inRules_6 fl_RX8_7 (by first | assumption | rfl) (by rfl) rfl ?_
    refine ev_iconst (q := 10) dX8_inRules_9 rfl ?_
    refine ev_iaload (q := 11) dX8_inRules_10 (by first | assumption | rfl) (by omega) (by first | decide | omega) rfl (fun h_10 => ?_)
    rw [z1, hn1] at h_10 ⊢
    refine ev_icmp_ge (t := 78) (q := 14) dX8_inRules_11 (by decide) rfl (by constructor <;> omega) (by constructor <;> omega) (fun h_11 => ?_) (fun h_11 => ?_)
    · refine ev_iload_2 (q := 79) dX8_inRules_78 rfl ?_
      refine ev_ireturn dX8_inRules_79 rfl rfl (by constructor <;> omega) ?_
      exact ⟨by rw [hy, hj], rfl, rfl⟩
    · omega
  | succ n ih =>
    intro j x y w hx hn hy
    have hs := sumN_rb (f := fun r => cnt (fun p => srt v b r p) 16) (b := 16) (by decide) j (fun i hi => cnt_rng _ 16)
    subst hx
    refine ev_iload_3 (q := 5) dX8_inRules_4 rfl ?_
    refine ev_aload_0 (q := 6) dX8_inRules_5 rfl ?_
    refine ev_getR (q := 9) dX8_inRules_6 fl_RX8_7 (by first | assumption | rfl) (by rfl) rfl ?_
    refine ev_iconst (q := 10) dX8_inRules_9 rfl ?_
    refine ev_iaload (q := 11) dX8_inRules_10 (by first | assumption | rfl) (by omega) (by first | decide | omega) rfl (fun h_10 => ?_)
    rw [z1, hn1] at h_10 ⊢
    refine ev_icmp_ge (t := 78) (q := 14) dX8_inRules_11 (by decide) rfl (by constructor <;> omega) (by constructor <;> omega) (fun h_11 => ?_) (fun h_11 => ?_)
    · omega
    · refine ev_iconst (q := 15) dX8_inRules_14 rfl ?_
      refine ev_istore_4 (q := 17) dX8_inRules_15 rfl (by decide) ?_
      refine lp_inRules_i (z := y) hA hW (by omega) (by omega) (fun w2 => ?_) 16 0 _ _ rfl rfl (Int.add_zero y).symm
      refine ev_iinc_3 (q := 75) dX8_inRules_72 rfl (by decide) ?_
      refine ev_goto (q := 4) dX8_inRules_75 (by decide) ?_
      refine ih (j + 1) _ _ _ rfl (by omega) ?_
      rw [hy]
      rfl
set_option maxHeartbeats 2000000 in
theorem c_X8_inRules {b : Bool} (hA : Ag (M 101) v) (hW : Wf v) : Cx l 1 kX8_inRules yX8_inRules S0 M [vr 100, vi (b01 b)] (some (vi (sumN (fun r => cnt (fun p => srt v b r p) 16) (vrn v).toNat))) M := by
  have h2 := hW.2.1
  refine Cx.of (by decide) rfl (by decide) (Nat.le_of_ble_eq_true rfl) ?_
  refine (show Ev _ none _ _ _ _ _ 0 [_, _, _, _, _] [] _ from ?_)
  refine ev_iconst (q := 1) dX8_inRules_0 rfl ?_
  refine ev_istore_2 (q := 2) dX8_inRules_1 rfl (by decide) ?_
  refine ev_iconst (q := 3) dX8_inRules_2 rfl ?_
  refine ev_istore_3 (q := 4) dX8_inRules_3 rfl (by decide) ?_
  exact lp_inRules hA hW (vrn v).toNat 0 _ _ _ rfl (by omega) rfl
set_option maxHeartbeats 2000000 in
theorem lp_count {hs tl w : Int} (hA : Ag (M 101) v) (hW : Wf v) (h4 : w = 4) : ∀ (n j : Nat) (x y : Int) (M1 : ev_M), x = j → j + n = (vel v).toNat → y = sumN (ccV v) j → O9 M M1 → Ev l none 9 kX8_count (0, 0) S0 M1 65 [some (vr 100), some (vi w), some (vi y), some (vi x)] [] (QI S0 (fun x M2 => ((¬ (0 ≤ w ∧ w ≤ 6) ∧ x = -11) ∨ ((0 ≤ w ∧ w ≤ 6) ∧ x = coV v hs tl w)) ∧ Mq M M2)) := by
  have h1 := hW.1
  intro n
  induction n with
  | zero =>
    intro j x y M1 hx hn hy hO
    have hj : j = (vel v).toNat := by omega
    have hsr := sumN_rb (f := ccV v) (b := 8) (by decide) j (fun i hi => cnt_rng _ 8)
    have hA1 := hO.ag hA
    have hn1 := hA1.1
    refine ev_iload_3 (q := 66) dX8_count_65 rfl ?_
    refine ev_aload_0 (q := 67) dX8_count_66 rfl ?_
    refine ev_getR (q := 70) dX8_count_67 fl_RX8_7 (by first | assumption | rfl) (by rfl) rfl ?_
    refine ev_iconst (q := 71) dX8_count_70 rfl ?_
    refine ev_iaload (q := 72) dX8_count_71 (by first | assumption | rfl) (by omega) (by first | decide | omega) rfl (fun h_71 => ?_)
    rw [z0, hn1] at h_71 ⊢
    refine ev_icmp_ge (t := 89) (q := 75) dX8_count_72 (by decide) rfl (by constructor <;> omega) (by constructor <;> omega) (fun h_72 => ?_) (fun h_72 => ?_)
    · refine ev_iload_2 (q := 90) dX8_count_89 rfl ?_
      refine ev_ireturn dX8_count_90 rfl rfl (by constructor <;> omega) ?_
      exact ⟨_, rfl, rfl, Or.inr ⟨by omega, by rw [coV, if_neg (by omega), if_neg (by omega), if_neg (by omega), if_neg (by omega), if_pos h4, hy, hj]⟩, hO.q⟩
    · omega
  | succ n ih =>
    intro j x y M1 hx hn hy hO
    have hsr := sumN_rb (f := ccV v) (b := 8) (by decide) j (fun i hi => cnt_rng _ 8)
    have hcc : 0 ≤ ccV v j ∧ ccV v j ≤ 8 := cnt_rng _ 8
    have hA1 := hO.ag hA
    have hn1 := hA1.1
    subst hx
    refine ev_iload_3 (q := 66) dX8_count_65 rfl ?_
    refine ev_aload_0 (q := 67) dX8_count_66 rfl ?_
    refine ev_getR (q := 70) dX8_count_67 fl_RX8_7 (by first | assumption | rfl) (by rfl) rfl ?_
    refine ev_iconst (q := 71) dX8_count_70 rfl ?_
    refine ev_iaload (q := 72) dX8_count_71 (by first | assumption | rfl) (by omega) (by first | decide | omega) rfl (fun h_71 => ?_)
    rw [z0, hn1] at h_71 ⊢
    refine ev_icmp_ge (t := 89) (q := 75) dX8_count_72 (by decide) rfl (by constructor <;> omega) (by constructor <;> omega) (fun h_72 => ?_) (fun h_72 => ?_)
    · refine ev_iload_2 (q := 90) dX8_count_89 rfl ?_
      refine ev_ireturn dX8_count_90 rfl rfl (by constructor <;> omega) ?_
      omega
    · refine ev_iload_2 (q := 76) dX8_count_75 rfl ?_
      refine ev_aload_0 (q := 77) dX8_count_76 rfl ?_
      refine ev_iload_3 (q := 78) dX8_count_77 rfl ?_
      refine ev_callV1iR (q := 81) dX8_count_78 vs_RX8_75 (by first | assumption | rfl) (c_X8_cycles hA1 hW (by omega)) (by decide) (Nat.le_of_ble_eq_true rfl) rfl (fun x_78 M_78 hq_78 h_78 => ?_)
      obtain ⟨rfl, o2⟩ := hq_78
      refine ev_iadd (q := 82) dX8_count_81 rfl ?_
      refine ev_istore_2 (q := 83) dX8_count_82 rfl (by decide) ?_
      refine ev_iinc_3 (q := 86) dX8_count_83 rfl (by decide) ?_
      refine ev_goto (q := 65) dX8_count_86 (by decide) ?_
      exact ih (j + 1) _ _ _ rfl (by omega) (by rw [hy]; rfl) (hO.trans o2)
set_option maxHeartbeats 4000000 in
theorem m_count {w : Int} (hA : Ag (M 101) v) (hW : Wf v) (hw : inR w) : Ri l 9 kX8_count yX8_count S0 M [vr 100, vi w] (fun x M2 => ((¬ (0 ≤ w ∧ w ≤ 6) ∧ x = -11) ∨ ((0 ≤ w ∧ w ≤ 6) ∧ x = coV v (M 100 2) (M 100 4) w)) ∧ Mq M M2) := by
  have h1 := hW.1
  have h2 := hW.2.1
  have hn := hA.1
  have hn1 := hA.2.1
  refine Ri.of (by decide) rfl (by decide) (Nat.le_of_ble_eq_true rfl) ?_
  refine (show Ev _ none _ _ _ _ _ 0 [_, _, _, _] [] _ from ?_)
  refine ev_iconst (q := 1) dX8_count_0 rfl ?_
  refine ev_istore_2 (q := 2) dX8_count_1 rfl (by decide) ?_
  refine ev_iload_1 (q := 3) dX8_count_2 rfl ?_
  by_cases g_3 : w < 0 ∨ 6 < w
  · refine ev_tableOut (t := 101) dX8_count_3 (by constructor <;> omega) g_3 (by decide) ?_
    refine ev_bipush (q := 103) dX8_count_101 rfl (by decide) ?_
    refine ev_ireturn dX8_count_103 rfl rfl (by constructor <;> omega) ?_
    exact ⟨_, rfl, rfl, Or.inl ⟨by omega, rfl⟩, Mq.rfl'⟩
  · have g2_3 : w = 0 ∨ w = 1 ∨ w = 2 ∨ w = 3 ∨ w = 4 ∨ w = 5 ∨ w = 6 := by omega
    rcases g2_3 with g_3 | g_3 | g_3 | g_3 | g_3 | g_3 | g_3
    · refine ev_tableIn (t := 44) dX8_count_3 (by constructor <;> omega) (by omega) (by omega) (by rw [g_3]; rfl) (by decide) ?_
      refine ev_aload_0 (q := 45) dX8_count_44 rfl ?_
      refine ev_getR (q := 48) dX8_count_45 fl_RX8_7 (by first | assumption | rfl) (by rfl) rfl ?_
      refine ev_iload_1 (q := 49) dX8_count_48 rfl ?_
      refine ev_iaload (q := 50) dX8_count_49 (by first | assumption | rfl) (by omega) (by first | decide | omega) rfl (fun h_49 => ?_)
      subst g_3
      first | (rw [z0, hn] at h_49 ⊢) | (rw [z1, hn1] at h_49 ⊢)
      refine ev_ireturn dX8_count_50 rfl rfl (by constructor <;> omega) ?_
      exact ⟨_, rfl, rfl, Or.inr ⟨by omega, rfl⟩, Mq.rfl'⟩
    · refine ev_tableIn (t := 44) dX8_count_3 (by constructor <;> omega) (by omega) (by omega) (by rw [g_3]; rfl) (by decide) ?_
      refine ev_aload_0 (q := 45) dX8_count_44 rfl ?_
      refine ev_getR (q := 48) dX8_count_45 fl_RX8_7 (by first | assumption | rfl) (by rfl) rfl ?_
      refine ev_iload_1 (q := 49) dX8_count_48 rfl ?_
      refine ev_iaload (q := 50) dX8_count_49 (by first | assumption | rfl) (by omega) (by first | decide | omega) rfl (fun h_49 => ?_)
      subst g_3
      first | (rw [z0, hn] at h_49 ⊢) | (rw [z1, hn1] at h_49 ⊢)
      refine ev_ireturn dX8_count_50 rfl rfl (by constructor <;> omega) ?_
      exact ⟨_, rfl, rfl, Or.inr ⟨by omega, rfl⟩, Mq.rfl'⟩
    · refine ev_tableIn (t := 51) dX8_count_3 (by constructor <;> omega) (by omega) (by omega) (by rw [g_3]; rfl) (by decide) ?_
      refine ev_aload_0 (q := 52) dX8_count_51 rfl ?_
      refine ev_iconst (q := 53) dX8_count_52 rfl ?_
      refine ev_callV1i (q := 56) dX8_count_53 vs_RX8_81 (by first | assumption | rfl) (c_X8_inRules (b := false) hA hW) (by decide) (Nat.le_of_ble_eq_true rfl) rfl (fun h_53 => ?_)
      refine ev_ireturn dX8_count_56 rfl rfl (by constructor <;> omega) ?_
      exact ⟨_, rfl, rfl, Or.inr ⟨by omega, by rw [coV, if_neg (by omega), if_neg (by omega), if_pos g_3]; exact sumN_congr _ (fun r _ => rfl)⟩, Mq.rfl'⟩
    · refine ev_tableIn (t := 57) dX8_count_3 (by constructor <;> omega) (by omega) (by omega) (by rw [g_3]; rfl) (by decide) ?_
      refine ev_aload_0 (q := 58) dX8_count_57 rfl ?_
      refine ev_iconst (q := 59) dX8_count_58 rfl ?_
      refine ev_callV1i (q := 62) dX8_count_59 vs_RX8_81 (by first | assumption | rfl) (c_X8_inRules (b := true) hA hW) (by decide) (Nat.le_of_ble_eq_true rfl) rfl (fun h_59 => ?_)
      refine ev_ireturn dX8_count_62 rfl rfl (by constructor <;> omega) ?_
      exact ⟨_, rfl, rfl, Or.inr ⟨by omega, by rw [coV, if_neg (by omega), if_neg (by omega), if_neg (by omega), if_pos g_3]; exact sumN_congr _ (fun r _ => rfl)⟩, Mq.rfl'⟩
    · refine ev_tableIn (t := 63) dX8_count_3 (by constructor <;> omega) (by omega) (by omega) (by rw [g_3]; rfl) (by decide) ?_
      refine ev_iconst (q := 64) dX8_count_63 rfl ?_
      refine ev_istore_3 (q := 65) dX8_count_64 rfl (by decide) ?_
      exact lp_count hA hW g_3 (vel v).toNat 0 _ _ _ rfl (by omega) rfl (fun _ _ => rfl)
    · refine ev_tableIn (t := 91) dX8_count_3 (by constructor <;> omega) (by omega) (by omega) (by rw [g_3]; rfl) (by decide) ?_
      refine ev_aload_0 (q := 92) dX8_count_91 rfl ?_
      refine ev_getI (q := 95) dX8_count_92 fl_RX8_43 (by first | assumption | rfl) (by rfl) rfl (fun h_92 => ?_)
      refine ev_ireturn dX8_count_95 rfl rfl (by constructor <;> omega) ?_
      exact ⟨_, rfl, rfl, Or.inr ⟨by omega, by rw [coV, if_neg (by omega), if_neg (by omega), if_neg (by omega), if_neg (by omega), if_neg (by omega), if_pos g_3]⟩, Mq.rfl'⟩
    · refine ev_tableIn (t := 96) dX8_count_3 (by constructor <;> omega) (by omega) (by omega) (by rw [g_3]; rfl) (by decide) ?_
      refine ev_aload_0 (q := 97) dX8_count_96 rfl ?_
      refine ev_getI (q := 100) dX8_count_97 fl_RX8_85 (by first | assumption | rfl) (by rfl) rfl (fun h_97 => ?_)
      refine ev_ireturn dX8_count_100 rfl rfl (by constructor <;> omega) ?_
      exact ⟨_, rfl, rfl, Or.inr ⟨by omega, by rw [coV, if_neg (by omega), if_neg (by omega), if_neg (by omega), if_neg (by omega), if_neg (by omega), if_neg (by omega)]⟩, Mq.rfl'⟩
end Cnts

