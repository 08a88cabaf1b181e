/-- what the winner itself gives, the values of the element's properties being V -/
def gvn (v : Vw) (e : Nat) (V : Nat → Int) (p : Nat) : Int := if winV v e p = -1 then -1 else if ven v (winV v e p).toNat p 0 ≠ -1 then ven v (winV v e p).toNat p 0 else if V (ven v (winV v e p).toNat p 1).toNat = -1 then ven v (winV v e p).toNat p 2 else V (ven v (winV v e p).toNat p 1).toNat
abbrev cyB (v : Vw) (e p : Nat) : Prop := 8 ≤ p ∧ cycV v e p > 0
abbrev inB (p : Nat) : Prop := 8 ≤ p ∨ p % 2 = 0
def gx (v : Vw) (e : Nat) (V : Nat → Int) (p : Nat) : Int := if cyB v e p then -1 else gvn v e V p
/-- value and source of p on e; pv, ps: those of the parent -/
def gpr (v : Vw) (e : Nat) (V pv ps : Nat → Int) (p : Nat) : Int × Int := if gx v e V p = -1 ∧ ¬ cyB v e p ∧ inB p ∧ e ≠ 0 then (pv p, ps p) else (gx v e V p, if gx v e V p = -1 then -1 else e)
def gvM (v : Vw) (e p : Nat) (M : ev_M) : ev_M := up (up M 89 (16 * e + p) (gpr v e (fun q => M 89 (16 * e + q)) (fun q => M 89 (16 * (vpar v e).toNat + q)) (fun q => M 91 (16 * (vpar v e).toNat + q)) p).1) 91 (16 * e + p) (gpr v e (fun q => M 89 (16 * e + q)) (fun q => M 89 (16 * (vpar v e).toNat + q)) (fun q => M 91 (16 * (vpar v e).toNat + q)) p).2
theorem bst_best {P : Nat → Bool} {s : Nat → Int} {lim : Int} : ∀ n, (∀ r, r < n → -1 ≤ s r) → ((bst P s lim n).1 = -1 ∧ (bst P s lim n).2 = -1 ∧ ∀ r, r < n → P r = true → s r = -1 ∨ lim ≤ s r) ∨ (∃ i, i < n ∧ (bst P s lim n).1 = (i : Int) ∧ P i = true ∧ (bst P s lim n).2 = s i ∧ 0 ≤ s i ∧ s i < lim ∧ ∀ r, r < n → P r = true → s r < lim → s r ≤ s i)
  | 0, _ => Or.inl ⟨rfl, rfl, fun r hr => by omega⟩
  | n + 1, hs => by
    have h := bst_best n (fun r hr => hs r (by omega)) (P := P) (s := s) (lim := lim)
    have hsn := hs n (by omega)
    have hr := bst_rng P s lim n
    unfold bst
    by_cases hq : (if P n = true then s n else -1) > (bst P s lim n).2 ∧ (if P n = true then s n else -1) < lim
    · rw [if_pos hq]
      by_cases hP : P n = true
      · rw [if_pos hP] at hq ⊢
        refine Or.inr ⟨n, by omega, rfl, hP, rfl, by omega, hq.2, fun r hr1 hr2 hr3 => ?_⟩
        by_cases hrn : r = n
        · rw [hrn]; omega
        · rcases h with ⟨h1, h2, h3⟩ | ⟨i, h1, h2, h3, h4, h5, h6, h7⟩
          · have := h3 r (by omega) hr2
            omega
          · have := h7 r (by omega) hr2 hr3
            omega
      · rw [if_neg hP] at hq
        omega
    · rw [if_neg hq]
      rcases h with ⟨h1, h2, h3⟩ | ⟨i, h1, h2, h3, h4, h5, h6, h7⟩
      · refine Or.inl ⟨h1, h2, fun r hr1 hr2 => ?_⟩
        by_cases hrn : r = n
        · rw [hrn] at hr2 ⊢
          rw [if_pos hr2, h2] at hq
          omega
        · exact h3 r (by omega) hr2
      · refine Or.inr ⟨i, by omega, h2, h3, h4, h5, h6, fun r hr1 hr2 hr3 => ?_⟩
        by_cases hrn : r = n
        · rw [hrn] at hr2 hr3 ⊢
          rw [if_pos hr2, h4] at hq
          omega
        · exact h7 r (by omega) hr2 hr3
/-- the winner, told by what it is -/
theorem winV_spec {v : Vw} (h : Wf v) (e p : Nat) : (winV v e p = -1 ∧ ∀ r : Nat, (r : Int) < vrn v → dclV v p r = true → fitB v r e = false) ∨ (∃ i : Nat, (i : Int) < vrn v ∧ winV v e p = i ∧ dclV v p i = true ∧ fitB v i e = true ∧ ∀ r : Nat, (r : Int) < vrn v → dclV v p r = true → fitB v r e = true → strV v r e ≤ strV v i e) := by
  have h2 := h.2.1
  have hb := bst_best (P := dclV v p) (s := fun r => strV v r e) (lim := 1073741824) (vrn v).toNat (fun r hr => (strV_rng h (e := e) (r := r) (by omega)).1)
  have hfit : ∀ r : Nat, (r : Int) < vrn v → fitB v r e = true → 0 ≤ strV v r e := fun r hr hf => by
    have := accV_rng h (e := e) hr 6 (by omega)
    unfold strV
    rw [if_pos hf]
    exact this.1
  have hnf : ∀ r : Nat, fitB v r e = false → strV v r e = -1 := fun r hf => by
    unfold strV
    rw [if_neg (by rw [hf]; decide)]
  rcases hb with ⟨b1, b2, b3⟩ | ⟨i, b1, b2, b3, b4, b5, b6, b7⟩
  · refine Or.inl ⟨b1, fun r hr hd => ?_⟩
    have := b3 r (by omega) hd
    have h3 := strV_rng h (e := e) (r := r) hr
    cases hf : fitB v r e with
    | false => rfl
    | true => have := hfit r hr hf; omega
  · refine Or.inr ⟨i, by omega, b2, b3, ?_, fun r hr hd hf => b7 r (by omega) hd (by have := strV_rng h (e := e) (r := r) hr; omega)⟩
    cases hf : fitB v i e with
    | true => rfl
    | false => have := hnf i hf; omega
theorem winV_rng {v : Vw} (h : Wf v) (e p : Nat) : -1 ≤ winV v e p ∧ winV v e p < vrn v ∧ winV v e p < 16 := stV_rng h e p 1073741824
/-- a winner's entry: a number, or else where it refers -/
theorem winV_ent {v : Vw} (h : Wf v) {e p : Nat} (hp : p < 16) (hw : winV v e p ≠ -1) : (-1 ≤ ven v (winV v e p).toNat p 0 ∧ ven v (winV v e p).toNat p 0 ≤ 999) ∧ (ven v (winV v e p).toNat p 0 = -1 → 8 ≤ ven v (winV v e p).toNat p 1 ∧ ven v (winV v e p).toNat p 1 ≤ 15) ∧ (-1 ≤ ven v (winV v e p).toNat p 2 ∧ ven v (winV v e p).toNat p 2 ≤ 999) := by
  have hr := winV_rng h e p
  have he := h.2.2.2.2 (winV v e p).toNat p (by omega) hp
  refine ⟨he.1, fun h0 => ?_, he.2.2.1⟩
  rcases winV_spec h e p with ⟨h1, -⟩ | ⟨i, h1, h2, h3, -⟩
  · exact absurd h1 hw
  · have hd := of_decide_eq_true h3
    rw [h2] at h0 he ⊢
    simp only [Int.toNat_natCast] at h0 he ⊢
    have := he.2.1
    omega
set_option maxHeartbeats 2000000 in
theorem c_X1_given {l : Launch} {M : ev_M} {v : Vw} {e p : Nat} (hR : RM M) (hv : cV M 1 = v) (h : Wf v) (he : e < 16) (hp : p < 16) (hw : M 85 (16 * e + p) = winV v e p) : Cx l 2 kX1_given yX1_given S0 M [vr 81, vr 9, vi (e : Int), vi (p : Int)] (some (vi (gvn v e (fun q => M 89 (16 * e + q)) p))) M := by
  have hr := winV_rng h e p
  have hwe := winV_ent h (e := e) hp
  have hwp : M 85 ((e : Int) * 16 + (p : Int)).toNat = winV v e p := by
    rw [show ((e : Int) * 16 + (p : Int)).toNat = 16 * e + p by omega]
    exact hw
  have hRv := hR 89 ((e : Int) * 16 + ven v (winV v e p).toNat p 1).toNat
  have hve : 8 ≤ ven v (winV v e p).toNat p 1 → ((e : Int) * 16 + ven v (winV v e p).toNat p 1).toNat = 16 * e + (ven v (winV v e p).toNat p 1).toNat := fun q => by omega
  unfold gvn
  dsimp only
  generalize hW : winV v e p = W at *
  refine Cx.of (by decide) rfl (by decide) (Nat.le_of_ble_eq_true rfl) ?_
  refine (show Ev _ none _ _ _ _ _ 0 [_, _, _, _, _, _, _] [] _ from ?_)
  refine ev_aload_0 (q := 1) dX1_given_0 rfl ?_
  refine ev_iload_2 (q := 2) dX1_given_1 rfl ?_
  refine ev_iload_3 (q := 3) dX1_given_2 rfl ?_
  refine ev_callV2i (q := 6) dX1_given_3 vs_RX1_102 (by first | assumption | rfl) (c_X1_winnerOn (by omega) (by omega)) (by decide) (Nat.le_of_ble_eq_true rfl) rfl (fun h_3 => ?_)
  rw [hwp] at *
  refine ev_istore_4 (q := 8) dX1_given_6 rfl (by decide) ?_
  refine ev_iload_4 (q := 10) dX1_given_8 rfl ?_
  refine ev_iconst (q := 11) dX1_given_10 rfl ?_
  refine ev_icmp_ne (t := 16) (q := 14) dX1_given_11 (by decide) rfl (by constructor <;> omega) (by constructor <;> omega) (fun h_11 => ?_) (fun h_11 => ?_)
  · refine ev_aload_1 (q := 17) dX1_given_16 rfl ?_
    refine ev_iload_4 (q := 19) dX1_given_17 rfl ?_
    refine ev_iload_3 (q := 20) dX1_given_19 rfl ?_
    refine ev_iconst (q := 21) dX1_given_20 rfl ?_
    refine ev_callV3i (q := 24) dX1_given_21 vs_RX1_105 (by first | assumption | rfl) (c_X3_entryN (r := W.toNat) (p := p) (w := 0) hv (by omega) (by omega) (by decide)) (by decide) (Nat.le_of_ble_eq_true rfl) rfl (fun h_21 => ?_)
    refine ev_istore_5 (q := 26) dX1_given_24 rfl (by decide) ?_
    refine ev_iload_5 (q := 28) dX1_given_26 rfl ?_
    refine ev_iconst (q := 29) dX1_given_28 rfl ?_
    refine ev_icmp_eq (t := 35) (q := 32) dX1_given_29 (by decide) rfl (by constructor <;> omega) (by constructor <;> omega) (fun h_29 => ?_) (fun h_29 => ?_)
    · refine ev_aload_0 (q := 36) dX1_given_35 rfl ?_
      refine ev_iload_2 (q := 37) dX1_given_36 rfl ?_
      refine ev_aload_1 (q := 38) dX1_given_37 rfl ?_
      refine ev_iload_4 (q := 40) dX1_given_38 rfl ?_
      refine ev_iload_3 (q := 41) dX1_given_40 rfl ?_
      refine ev_iconst (q := 42) dX1_given_41 rfl ?_
      refine ev_callV3i (q := 45) dX1_given_42 vs_RX1_105 (by first | assumption | rfl) (c_X3_entryN (r := W.toNat) (p := p) (w := 1) hv (by omega) (by omega) (by decide)) (by decide) (Nat.le_of_ble_eq_true rfl) rfl (fun h_42 => ?_)
      have hw2 := hwe h_11
      refine ev_callV2i (q := 48) dX1_given_45 vs_RX1_127 (by first | assumption | rfl) (c_X1_valueOn (by omega) (by omega)) (by decide) (Nat.le_of_ble_eq_true rfl) rfl (fun h_45 => ?_)
      rw [hve (by omega)] at *
      refine ev_istore_6 (q := 50) dX1_given_48 rfl (by decide) ?_
      refine ev_iload_6 (q := 52) dX1_given_50 rfl ?_
      refine ev_aload_1 (q := 53) dX1_given_52 rfl ?_
      refine ev_iload_4 (q := 55) dX1_given_53 rfl ?_
      refine ev_iload_3 (q := 56) dX1_given_55 rfl ?_
      refine ev_iconst (q := 57) dX1_given_56 rfl ?_
      refine ev_callV3i (q := 60) dX1_given_57 vs_RX1_105 (by first | assumption | rfl) (c_X3_entryN (r := W.toNat) (p := p) (w := 2) hv (by omega) (by omega) (by decide)) (by decide) (Nat.le_of_ble_eq_true rfl) rfl (fun h_57 => ?_)
      refine ev_callS2i (q := 63) dX1_given_60 ss_RX1_133 (c_X7_foundOr (by constructor <;> omega) (by constructor <;> omega)) (by decide) (Nat.le_of_ble_eq_true rfl) rfl (fun h_60 => ?_)
      refine ev_ireturn dX1_given_63 rfl rfl h_60 ?_
      exact ⟨by rw [if_neg h_11]; rw [if_neg (show ¬ (ven v W.toNat p 0 ≠ -1) by omega)], rfl, rfl⟩
    · refine ev_iload_5 (q := 34) dX1_given_32 rfl ?_
      refine ev_ireturn dX1_given_34 rfl rfl (by constructor <;> omega) ?_
      exact ⟨by rw [if_neg h_11, if_pos (by omega)], rfl, rfl⟩
  · refine ev_iconst (q := 15) dX1_given_14 rfl ?_
    refine ev_ireturn dX1_given_15 rfl rfl (by constructor <;> omega) ?_
    exact ⟨by rw [if_pos h_11], rfl, rfl⟩

