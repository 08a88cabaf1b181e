section Fuel
variable {v : Vw} {e : Nat}
theorem VAn_congr (h : Wf v) {pv pv' ps ps' : Nat → Int} (hp : e ≠ 0 → ∀ q, q < 16 → pv q = pv' q ∧ ps q = ps' q) : ∀ (k p : Nat), p < 16 → VAn v e pv ps k p = VAn v e pv' ps' k p
  | 0, _, _ => rfl
  | k + 1, p, hq => by
    unfold VAn
    refine gpr_congr ?_ (fun h0 => hp h0 p hq)
    by_cases hb : bs v e p
    · exact Or.inl hb
    · exact Or.inr (by rw [VAn_congr h hp k _ (rf_rng h hq hb).2])
theorem slv_fuel (h : Wf v) : ∀ (n m e : Nat), e < n → e < m → (e : Int) < vel v → ∀ p, p < 16 → slv v n e p = slv v m e p
  | 0, _, _, h1, _, _, _, _ => by omega
  | n + 1, m, e, h1, h2, h3, p, hp => by
    obtain ⟨m, rfl⟩ : ∃ k, m = k + 1 := ⟨m - 1, by omega⟩
    have hpar := (h.2.2.1 e h3).1
    have hq : e ≠ 0 → ∀ q, q < 16 → (slv v n (vpar v e).toNat q).1 = (slv v m (vpar v e).toNat q).1 ∧ (slv v n (vpar v e).toNat q).2 = (slv v m (vpar v e).toNat q).2 := fun h0 q hq => by
      rw [slv_fuel h n m (vpar v e).toNat (by omega) (by omega) (by omega) q hq]
      exact ⟨rfl, rfl⟩
    show gpr v e _ _ _ p = gpr v e _ _ _ p
    refine gpr_congr ?_ (fun h0 => hq h0 p hp)
    by_cases hb : bs v e p
    · exact Or.inl hb
    · exact Or.inr (by rw [VAn_congr h hq 9 _ (rf_rng h hp hb).2])
/-- the values and the sources, each by the others -/
theorem slv_fix (h : Wf v) (he : (e : Int) < vel v) {p : Nat} (hp : p < 16) : slv v 17 e p = gpr v e (fun q => (slv v 17 e q).1) (fun q => (slv v 17 (vpar v e).toNat q).1) (fun q => (slv v 17 (vpar v e).toNat q).2) p := by
  have h1 := h.1
  have hpar := (h.2.2.1 e he).1
  have hf : e ≠ 0 → ∀ q, q < 16 → slv v 16 (vpar v e).toNat q = slv v 17 (vpar v e).toNat q := fun h0 q hq => slv_fuel h 16 17 _ (by omega) (by omega) (by omega) q hq
  have hc : ∀ q, 8 ≤ q → q < 16 → slv v 17 e q = VAn v e (fun q => (slv v 16 (vpar v e).toNat q).1) (fun q => (slv v 16 (vpar v e).toNat q).2) 9 q := fun q a b => VAn_fix (Dn_all h ⟨a, b⟩)
  show gpr v e (fun q => (VAn v e (fun q => (slv v 16 (vpar v e).toNat q).1) (fun q => (slv v 16 (vpar v e).toNat q).2) 9 q).1) _ _ p = _
  refine gpr_congr ?_ (fun h0 => by rw [hf h0 p hp]; exact ⟨rfl, rfl⟩)
  by_cases hb : bs v e p
  · exact Or.inl hb
  · have hr := rf_rng h hp hb
    exact Or.inr (by rw [hc _ hr.1 hr.2])
theorem gvn_congr {V V' : Nat → Int} {p : Nat} (h : winV v e p = -1 ∨ ven v (winV v e p).toNat p 0 ≠ -1 ∨ V (rf v e p) = V' (rf v e p)) : gvn v e V p = gvn v e V' p := by
  unfold gvn
  by_cases hw : winV v e p = -1
  · rw [if_pos hw, if_pos hw]
  · rw [if_neg hw, if_neg hw]
    by_cases h0 : ven v (winV v e p).toNat p 0 ≠ -1
    · rw [if_pos h0, if_pos h0]
    · rw [if_neg h0, if_neg h0]
      rcases h with h | h | h
      · exact absurd h hw
      · exact absurd h h0
      · unfold rf at h
        rw [h]
end Fuel
section Giv
variable {l : Launch} {M : ev_M} {v : Vw} {e p : Nat}
set_option maxHeartbeats 2000000 in
theorem c_X8_given (hA : Ag (M 101) v) (hW : Wf v) (he : (e : Int) < vel v) (hp : p < 16) : Ri l 5 kX8_given yX8_given S0 M [vr 100, vi (e : Int), vi (p : Int)] (fun x M2 => x = gvn v e (fun q => M 106 (16 * e + q)) p ∧ O9 M M2) := by
  have hw := winV_rng hW e p
  have h1 := hW.1
  have h2 := hW.2.1
  have hws := winV_spec hW e p
  refine Ri.of (by decide) rfl (by decide) (Nat.le_of_ble_eq_true rfl) ?_
  refine (show Ev _ none _ _ _ _ _ 0 [_, _, _, _, _, _] [] _ from ?_)
  refine ev_aload_0 (q := 1) dX8_given_0 rfl ?_
  refine ev_iload_1 (q := 2) dX8_given_1 rfl ?_
  refine ev_iload_2 (q := 3) dX8_given_2 rfl ?_
  refine ev_callV2iR (q := 6) dX8_given_3 vs_RX8_118 (by first | assumption | rfl) (c_X8_winnerOf hA hW he hp) (by decide) (Nat.le_of_ble_eq_true rfl) rfl (fun x_3 M_3 hq_3 h_3 => ?_)
  obtain ⟨rfl, o2⟩ := hq_3
  have hA1 := o2.ag hA
  refine ev_istore_3 (q := 7) dX8_given_6 rfl (by decide) ?_
  refine ev_iload_3 (q := 8) dX8_given_7 rfl ?_
  refine ev_iconst (q := 9) dX8_given_8 rfl ?_
  refine ev_icmp_ne (t := 14) (q := 12) dX8_given_9 (by decide) rfl (by constructor <;> omega) (by constructor <;> omega) (fun h_9 => ?_) (fun h_9 => ?_)
  · obtain ⟨r, hr⟩ : ∃ r : Nat, winV v e p = r := ⟨(winV v e p).toNat, by omega⟩
    have hE := hA1.2.2.2.2 r p (by omega) hp
    have hN := hW.2.2.2.2 r p (by omega) hp
    have hL := agE_l hE
    have hD := agE_d hE
    have hy := sy_N r p
    have hdc : dclV v p r = true := by
      rcases hws with ⟨q, _⟩ | ⟨i, i1, i2, i3, _⟩
      · exact absurd q h_9
      · have : i = r := by omega
        rw [← this]; exact i3
    have hg : gvn v e (fun q => M 106 (16 * e + q)) p = if ven v r p 0 ≠ -1 then ven v r p 0 else if M 106 (16 * e + (ven v r p 1).toNat) = -1 then ven v r p 2 else M 106 (16 * e + (ven v r p 1).toNat) := by rw [gvn, if_neg h_9, hr, Int.toNat_natCast]
    have hs0 := hD.2.2 hdc
    rw [hr]
    refine ev_iload_3 (q := 15) dX8_given_14 rfl ?_
    refine ev_iload_2 (q := 16) dX8_given_15 rfl ?_
    refine ev_callS2i (q := 19) dX8_given_16 ss_RX8_78 (c_X8_says (by omega) (by omega)) (by decide) (Nat.le_of_ble_eq_true rfl) rfl (fun h_16 => ?_)
    refine ev_istore_4 (q := 21) dX8_given_19 rfl (by decide) ?_
    refine ev_aload_0 (q := 22) dX8_given_21 rfl ?_
    refine ev_getR (q := 25) dX8_given_22 fl_RX8_7 (by first | assumption | rfl) (by rfl) rfl ?_
    refine ev_iload_4 (q := 27) dX8_given_25 rfl ?_
    refine ev_iaload (q := 28) dX8_given_27 (by first | assumption | rfl) (by omega) (by first | decide | omega) rfl (fun h_27 => ?_)
    rw [hy.1] at h_27 ⊢
    refine ev_iconst (q := 29) dX8_given_28 rfl ?_
    refine ev_icmp_ne (t := 42) (q := 32) dX8_given_29 (by decide) rfl (by constructor <;> omega) (by constructor <;> omega) (fun h_29 => ?_) (fun h_29 => ?_)
    · refine ev_aload_0 (q := 43) dX8_given_42 rfl ?_
      refine ev_getR (q := 46) dX8_given_43 fl_RX8_26 (by first | assumption | rfl) (by rfl) rfl ?_
      refine ev_bipush (q := 48) dX8_given_46 rfl (by decide) ?_
      refine ev_iload_1 (q := 49) dX8_given_48 rfl ?_
      refine ev_imul (q := 50) dX8_given_49 rfl ?_
      refine ev_aload_0 (q := 51) dX8_given_50 rfl ?_
      refine ev_getR (q := 54) dX8_given_51 fl_RX8_7 (by first | assumption | rfl) (by rfl) rfl ?_
      refine ev_iload_4 (q := 56) dX8_given_54 rfl ?_
      refine ev_iconst (q := 57) dX8_given_56 rfl ?_
      refine ev_iadd (q := 58) dX8_given_57 rfl ?_
      refine ev_iaload (q := 59) dX8_given_58 (by first | assumption | rfl) (by omega) (by first | decide | omega) rfl (fun h_58 => ?_)
      rw [hy.2.1] at h_58 ⊢
      have hE2 : ven v r p 0 = -1 ∧ ven v r p 1 = M_3 101 (147 + 48 * r + 3 * p) ∧ 8 ≤ M_3 101 (147 + 48 * r + 3 * p) ∧ ven v r p 2 = M_3 101 (148 + 48 * r + 3 * p) := by
        rcases hE with ⟨q1, q2, q3, q4⟩ | ⟨q1, q2, q3, q4, q5⟩ | ⟨q1, q2, q3, q4, q5⟩
        · omega
        · omega
        · exact ⟨q2, q3, q4, q5⟩
      obtain ⟨u1, u2, u3, u4⟩ := hE2
      rw [if_neg (fun q => q u1)] at hg
      rw [← u2]
      refine ev_iadd (q := 60) dX8_given_59 rfl ?_
      refine ev_iaload (q := 61) dX8_given_60 (by first | assumption | rfl) (by omega) (by first | decide | omega) rfl (fun h_60 => ?_)
      rw [show (16 * (e : Int) + ven v r p 1).toNat = 16 * e + (ven v r p 1).toNat by omega, o2 106 (by decide)] at h_60 ⊢
      refine ev_istore_5 (q := 63) dX8_given_61 rfl (by decide) ?_
      refine ev_iload_5 (q := 65) dX8_given_63 rfl ?_
      refine ev_iconst (q := 66) dX8_given_65 rfl ?_
      refine ev_icmp_ne (t := 81) (q := 69) dX8_given_66 (by decide) rfl (by constructor <;> omega) (by constructor <;> omega) (fun h_66 => ?_) (fun h_66 => ?_)
      · refine ev_iload_5 (q := 83) dX8_given_81 rfl ?_
        refine ev_ireturn dX8_given_83 rfl rfl (by constructor <;> omega) ?_
        first | exact ⟨_, rfl, rfl, by rw [hg, if_pos h_66], o2⟩ | exact ⟨_, rfl, rfl, by rw [hg, if_neg h_66], o2⟩
      · refine ev_aload_0 (q := 70) dX8_given_69 rfl ?_
        refine ev_getR (q := 73) dX8_given_70 fl_RX8_7 (by first | assumption | rfl) (by rfl) rfl ?_
        refine ev_iload_4 (q := 75) dX8_given_73 rfl ?_
        refine ev_iconst (q := 76) dX8_given_75 rfl ?_
        refine ev_iadd (q := 77) dX8_given_76 rfl ?_
        refine ev_iaload (q := 78) dX8_given_77 (by first | assumption | rfl) (by omega) (by first | decide | omega) rfl (fun h_77 => ?_)
        rw [hy.2.2, ← u4] at h_77 ⊢
        refine ev_goto (q := 83) dX8_given_78 (by decide) ?_
        refine ev_ireturn dX8_given_83 rfl rfl (by constructor <;> omega) ?_
        first | exact ⟨_, rfl, rfl, by rw [hg, if_pos h_66], o2⟩ | exact ⟨_, rfl, rfl, by rw [hg, if_neg h_66], o2⟩
    · refine ev_aload_0 (q := 33) dX8_given_32 rfl ?_
      refine ev_getR (q := 36) dX8_given_33 fl_RX8_7 (by first | assumption | rfl) (by rfl) rfl ?_
      refine ev_iload_4 (q := 38) dX8_given_36 rfl ?_
      refine ev_iconst (q := 39) dX8_given_38 rfl ?_
      refine ev_iadd (q := 40) dX8_given_39 rfl ?_
      refine ev_iaload (q := 41) dX8_given_40 (by first | assumption | rfl) (by omega) (by first | decide | omega) rfl (fun h_40 => ?_)
      rw [hy.2.1] at h_40 ⊢
      refine ev_ireturn dX8_given_41 rfl rfl (by constructor <;> omega) ?_
      refine ⟨_, rfl, rfl, ?_, o2⟩
      rcases hE with ⟨q1, q2, q3, q4⟩ | ⟨q1, q2, q3, q4, q5⟩ | ⟨q1, q2, q3, q4, q5⟩
      · omega
      · rw [hg, q2, if_pos (by omega)]
      · omega
  · refine ev_iconst (q := 13) dX8_given_12 rfl ?_
    refine ev_ireturn dX8_given_13 rfl rfl (by constructor <;> omega) ?_
    exact ⟨_, rfl, rfl, by rw [gvn, if_pos h_9], o2⟩
/-- one value is settled -/
def setM (M : ev_M) (e p : Nat) (g : Int) (b : Bool) (a : Int) : ev_M := up (up M 107 (16 * e + p) (if g = -1 then 0 else 1)) 106 (16 * e + p) (if g = -1 then (if b = true then a else -1) else g)
theorem setM_eq {M : ev_M} {e p : Nat} {g a x y : Int} {b : Bool} (hx : x = if g = -1 then 0 else 1) (hy : y = if g = -1 then (if b = true then a else -1) else g) : up (up M 107 (16 * e + p) x) 106 (16 * e + p) y = setM M e p g b a := by rw [hx, hy]; rfl
set_option maxHeartbeats 2000000 in
theorem c_X8_settles {b : Bool} (hA : Ag (M 101) v) (hW : Wf v) (he : (e : Int) < vel v) (hp : p < 16) (hgr : inR (gvn v e (fun q => M 106 (16 * e + q)) p)) : Rv l 6 kX8_settles yX8_settles S0 M [vr 100, vi (e : Int), vi (p : Int), vi (b01 b)] (fun M2 => ∃ M3, O9 M M3 ∧ M2 = setM M3 e p (gvn v e (fun q => M 106 (16 * e + q)) p) b (if e = 0 then -1 else M 106 (16 * (vpar v e).toNat + p))) := by
  have h1 := hW.1
  have hpar := (hW.2.2.1 e he).1
  have hb := b01_rng b
  have hbt : b01 b = 0 → ¬ b = true := fun q z => by subst z; exact absurd q (by decide)
  have hbf : ¬ b01 b = 0 → b = true := fun q => by cases b with | true => rfl | false => exact absurd rfl q
  have ei : (16 * (e : Int) + (p : Int)).toNat = 16 * e + p := by omega
  refine Rv.of (by decide) rfl (by decide) (Nat.le_of_ble_eq_true rfl) ?_
  refine (show Ev _ none _ _ _ _ _ 0 [_, _, _, _, _, _, _] [] _ from ?_)
  refine ev_bipush (q := 2) dX8_settles_0 rfl (by decide) ?_
  refine ev_iload_1 (q := 3) dX8_settles_2 rfl ?_
  refine ev_imul (q := 4) dX8_settles_3 rfl ?_
  refine ev_iload_2 (q := 5) dX8_settles_4 rfl ?_
  refine ev_iadd (q := 6) dX8_settles_5 rfl ?_
  refine ev_istore_4 (q := 8) dX8_settles_6 rfl (by decide) ?_
  refine ev_aload_0 (q := 9) dX8_settles_8 rfl ?_
  refine ev_iload_1 (q := 10) dX8_settles_9 rfl ?_
  refine ev_iload_2 (q := 11) dX8_settles_10 rfl ?_
  refine ev_callV2iR (q := 14) dX8_settles_11 vs_RX8_124 (by first | assumption | rfl) (c_X8_given hA hW he hp) (by decide) (Nat.le_of_ble_eq_true rfl) rfl (fun x_11 M_11 hq_11 h_11 => ?_)
  obtain ⟨rfl, o2⟩ := hq_11
  have hA1 := o2.ag hA
  generalize hg : gvn v e (fun q => M 106 (16 * e + q)) p = g at *
  refine ev_istore_5 (q := 16) dX8_settles_14 rfl (by decide) ?_
  refine ev_aload_0 (q := 17) dX8_settles_16 rfl ?_
  refine ev_getR (q := 20) dX8_settles_17 fl_RX8_29 (by first | assumption | rfl) (by rfl) rfl ?_
  refine ev_iload_4 (q := 22) dX8_settles_20 rfl ?_
  refine ev_iload_5 (q := 24) dX8_settles_22 rfl ?_
  refine ev_iconst (q := 25) dX8_settles_24 rfl ?_
  refine ev_icmp_eq (t := 32) (q := 28) dX8_settles_25 (by decide) rfl (by constructor <;> omega) (by constructor <;> omega) (fun h_25 => ?_) (fun h_25 => ?_)
  · refine ev_iconst (q := 33) dX8_settles_32 rfl ?_
    refine ev_bastore (q := 34) dX8_settles_33 (by first | assumption | rfl) (by omega) (by first | decide | omega) (by constructor <;> omega) (by first | exact Or.inl rfl | exact Or.inr rfl | omega) rfl ?_
    rw [ei]
    refine ev_iload_1 (q := 35) dX8_settles_34 rfl ?_
    refine ev_if_ne (t := 42) (q := 38) dX8_settles_35 (by decide) rfl (by constructor <;> omega) (fun h_35 => ?_) (fun h_35 => ?_)
    · refine ev_aload_0 (q := 43) dX8_settles_42 rfl ?_
      refine ev_getR (q := 46) dX8_settles_43 fl_RX8_26 (by first | assumption | rfl) (by rfl) rfl ?_
      refine ev_bipush (q := 48) dX8_settles_46 rfl (by decide) ?_
      refine ev_aload_0 (q := 49) dX8_settles_48 rfl ?_
      refine ev_getR (q := 52) dX8_settles_49 fl_RX8_7 (by first | assumption | rfl) (by rfl) rfl ?_
      refine ev_iconst (q := 53) dX8_settles_52 rfl ?_
      refine ev_iload_1 (q := 54) dX8_settles_53 rfl ?_
      refine ev_iadd (q := 55) dX8_settles_54 rfl ?_
      refine ev_iaload (q := 56) dX8_settles_55 (by first | assumption | rfl) (by omega) (by first | decide | omega) rfl (fun h_55 => ?_)
      simp only [up_at, Nat.reduceEqDiff, false_and, if_false] at h_55 ⊢
      rw [(hA1.2.2.1 (e : Int) (by omega) (by omega)).1, Int.toNat_natCast] at h_55 ⊢
      refine ev_imul (q := 57) dX8_settles_56 rfl ?_
      refine ev_iload_2 (q := 58) dX8_settles_57 rfl ?_
      refine ev_iadd (q := 59) dX8_settles_58 rfl ?_
      refine ev_iaload (q := 60) dX8_settles_59 (by first | assumption | rfl) (by omega) (by first | decide | omega) rfl (fun h_59 => ?_)
      first
      | (simp only [up_at, Nat.reduceEqDiff, false_and, if_false] at h_59 ⊢
         rw [show (16 * vpar v e + (p : Int)).toNat = 16 * (vpar v e).toNat + p by omega, o2 106 (by decide)] at h_59 ⊢
         have ha : M 106 (16 * (vpar v e).toNat + p) = (if e = 0 then -1 else M 106 (16 * (vpar v e).toNat + p)) := by rw [if_neg (by omega)]
         generalize hz : (if e = 0 then -1 else M 106 (16 * (vpar v e).toNat + p)) = z at *
         rw [ha] at h_59 ⊢)
      | (have ha : -1 = (if e = 0 then -1 else M 106 (16 * (vpar v e).toNat + p)) := by rw [if_pos (by omega)]
         generalize hz : (if e = 0 then -1 else M 106 (16 * (vpar v e).toNat + p)) = z at *
         rw [show vi (-1) = vi z by rw [← ha]])
      refine ev_istore_6 (q := 62) dX8_settles_60 rfl (by decide) ?_
      refine ev_aload_0 (q := 63) dX8_settles_62 rfl ?_
      refine ev_getR (q := 66) dX8_settles_63 fl_RX8_26 (by first | assumption | rfl) (by rfl) rfl ?_
      refine ev_iload_4 (q := 68) dX8_settles_66 rfl ?_
      refine ev_iload_5 (q := 70) dX8_settles_68 rfl ?_
      refine ev_iconst (q := 71) dX8_settles_70 rfl ?_
      refine ev_icmp_eq (t := 79) (q := 74) dX8_settles_71 (by decide) rfl (by constructor <;> omega) (by constructor <;> omega) (fun h_71 => ?_) (fun h_71 => ?_)
      · refine ev_iload_3 (q := 80) dX8_settles_79 rfl ?_
        refine ev_if_eq (t := 88) (q := 83) dX8_settles_80 (by decide) rfl (by constructor <;> omega) (fun h_80 => ?_) (fun h_80 => ?_)
        · refine ev_iconst (q := 89) dX8_settles_88 rfl ?_
          refine ev_iastore (q := 90) dX8_settles_89 (by first | assumption | rfl) (by omega) (by first | decide | omega) (by constructor <;> omega) rfl ?_
          rw [ei]
          refine ev_return dX8_settles_90 rfl ?_
          refine ⟨rfl, rfl, _, o2, setM_eq ?_ ?_⟩
          · first | exact absurd (show g = -1 by assumption) (show ¬ g = -1 by assumption) | rw [if_pos (show g = -1 by assumption)] | rw [if_neg (show ¬ g = -1 by assumption)]
          · first | exact absurd (show g = -1 by assumption) (show ¬ g = -1 by assumption) | rw [if_neg (show ¬ g = -1 by assumption)] | rw [if_pos (show g = -1 by assumption), if_neg (hbt (by assumption))] | rw [if_pos (show g = -1 by assumption), if_pos (hbf (by assumption))]
        · refine ev_iload_6 (q := 85) dX8_settles_83 rfl ?_
          refine ev_goto (q := 89) dX8_settles_85 (by decide) ?_
          refine ev_iastore (q := 90) dX8_settles_89 (by first | assumption | rfl) (by omega) (by first | decide | omega) (by constructor <;> omega) rfl ?_
          rw [ei]
          refine ev_return dX8_settles_90 rfl ?_
          refine ⟨rfl, rfl, _, o2, setM_eq ?_ ?_⟩
          · first | exact absurd (show g = -1 by assumption) (show ¬ g = -1 by assumption) | rw [if_pos (show g = -1 by assumption)] | rw [if_neg (show ¬ g = -1 by assumption)]
          · first | exact absurd (show g = -1 by assumption) (show ¬ g = -1 by assumption) | rw [if_neg (show ¬ g = -1 by assumption)] | rw [if_pos (show g = -1 by assumption), if_neg (hbt (by assumption))] | rw [if_pos (show g = -1 by assumption), if_pos (hbf (by assumption))]
      · refine ev_iload_5 (q := 76) dX8_settles_74 rfl ?_
        refine ev_goto (q := 89) dX8_settles_76 (by decide) ?_
        refine ev_iastore (q := 90) dX8_settles_89 (by first | assumption | rfl) (by omega) (by first | decide | omega) (by constructor <;> omega) rfl ?_
        rw [ei]
        refine ev_return dX8_settles_90 rfl ?_
        refine ⟨rfl, rfl, _, o2, setM_eq ?_ ?_⟩
        · first | exact absurd (show g = -1 by assumption) (show ¬ g = -1 by assumption) | rw [if_pos (show g = -1 by assumption)] | rw [if_neg (show ¬ g = -1 by assumption)]
        · first | exact absurd (show g = -1 by assumption) (show ¬ g = -1 by assumption) | rw [if_neg (show ¬ g = -1 by assumption)] | rw [if_pos (show g = -1 by assumption), if_neg (hbt (by assumption))] | rw [if_pos (show g = -1 by assumption), if_pos (hbf (by assumption))]
    · refine ev_iconst (q := 39) dX8_settles_38 rfl ?_
      refine ev_goto (q := 60) dX8_settles_39 (by decide) ?_
      first
      | (simp only [up_at, Nat.reduceEqDiff, false_and, if_false] at h_59 ⊢
         rw [show (16 * vpar v e + (p : Int)).toNat = 16 * (vpar v e).toNat + p by omega, o2 106 (by decide)] at h_59 ⊢
         have ha : M 106 (16 * (vpar v e).toNat + p) = (if e = 0 then -1 else M 106 (16 * (vpar v e).toNat + p)) := by rw [if_neg (by omega)]
         generalize hz : (if e = 0 then -1 else M 106 (16 * (vpar v e).toNat + p)) = z at *
         rw [ha] at h_59 ⊢)
      | (have ha : -1 = (if e = 0 then -1 else M 106 (16 * (vpar v e).toNat + p)) := by rw [if_pos (by omega)]
         generalize hz : (if e = 0 then -1 else M 106 (16 * (vpar v e).toNat + p)) = z at *
         rw [show vi (-1) = vi z by rw [← ha]])
      refine ev_istore_6 (q := 62) dX8_settles_60 rfl (by decide) ?_
      refine ev_aload_0 (q := 63) dX8_settles_62 rfl ?_
      refine ev_getR (q := 66) dX8_settles_63 fl_RX8_26 (by first | assumption | rfl) (by rfl) rfl ?_
      refine ev_iload_4 (q := 68) dX8_settles_66 rfl ?_
      refine ev_iload_5 (q := 70) dX8_settles_68 rfl ?_
      refine ev_iconst (q := 71) dX8_settles_70 rfl ?_
      refine ev_icmp_eq (t := 79) (q := 74) dX8_settles_71 (by decide) rfl (by constructor <;> omega) (by constructor <;> omega) (fun h_71 => ?_) (fun h_71 => ?_)
      · refine ev_iload_3 (q := 80) dX8_settles_79 rfl ?_
        refine ev_if_eq (t := 88) (q := 83) dX8_settles_80 (by decide) rfl (by constructor <;> omega) (fun h_80 => ?_) (fun h_80 => ?_)
        · refine ev_iconst (q := 89) dX8_settles_88 rfl ?_
          refine ev_iastore (q := 90) dX8_settles_89 (by first | assumption | rfl) (by omega) (by first | decide | omega) (by constructor <;> omega) rfl ?_
          rw [ei]
          refine ev_return dX8_settles_90 rfl ?_
          refine ⟨rfl, rfl, _, o2, setM_eq ?_ ?_⟩
          · first | exact absurd (show g = -1 by assumption) (show ¬ g = -1 by assumption) | rw [if_pos (show g = -1 by assumption)] | rw [if_neg (show ¬ g = -1 by assumption)]
          · first | exact absurd (show g = -1 by assumption) (show ¬ g = -1 by assumption) | rw [if_neg (show ¬ g = -1 by assumption)] | rw [if_pos (show g = -1 by assumption), if_neg (hbt (by assumption))] | rw [if_pos (show g = -1 by assumption), if_pos (hbf (by assumption))]
        · refine ev_iload_6 (q := 85) dX8_settles_83 rfl ?_
          refine ev_goto (q := 89) dX8_settles_85 (by decide) ?_
          refine ev_iastore (q := 90) dX8_settles_89 (by first | assumption | rfl) (by omega) (by first | decide | omega) (by constructor <;> omega) rfl ?_
          rw [ei]
          refine ev_return dX8_settles_90 rfl ?_
          refine ⟨rfl, rfl, _, o2, setM_eq ?_ ?_⟩
          · first | exact absurd (show g = -1 by assumption) (show ¬ g = -1 by assumption) | rw [if_pos (show g = -1 by assumption)] | rw [if_neg (show ¬ g = -1 by assumption)]
          · first | exact absurd (show g = -1 by assumption) (show ¬ g = -1 by assumption) | rw [if_neg (show ¬ g = -1 by assumption)] | rw [if_pos (show g = -1 by assumption), if_neg (hbt (by assumption))] | rw [if_pos (show g = -1 by assumption), if_pos (hbf (by assumption))]
      · refine ev_iload_5 (q := 76) dX8_settles_74 rfl ?_
        refine ev_goto (q := 89) dX8_settles_76 (by decide) ?_
        refine ev_iastore (q := 90) dX8_settles_89 (by first | assumption | rfl) (by omega) (by first | decide | omega) (by constructor <;> omega) rfl ?_
        rw [ei]
        refine ev_return dX8_settles_90 rfl ?_
        refine ⟨rfl, rfl, _, o2, setM_eq ?_ ?_⟩
        · first | exact absurd (show g = -1 by assumption) (show ¬ g = -1 by assumption) | rw [if_pos (show g = -1 by assumption)] | rw [if_neg (show ¬ g = -1 by assumption)]
        · first | exact absurd (show g = -1 by assumption) (show ¬ g = -1 by assumption) | rw [if_neg (show ¬ g = -1 by assumption)] | rw [if_pos (show g = -1 by assumption), if_neg (hbt (by assumption))] | rw [if_pos (show g = -1 by assumption), if_pos (hbf (by assumption))]
  · refine ev_iconst (q := 29) dX8_settles_28 rfl ?_
    refine ev_goto (q := 33) dX8_settles_29 (by decide) ?_
    refine ev_bastore (q := 34) dX8_settles_33 (by first | assumption | rfl) (by omega) (by first | decide | omega) (by constructor <;> omega) (by first | exact Or.inl rfl | exact Or.inr rfl | omega) rfl ?_
    rw [ei]
    refine ev_iload_1 (q := 35) dX8_settles_34 rfl ?_
    refine ev_if_ne (t := 42) (q := 38) dX8_settles_35 (by decide) rfl (by constructor <;> omega) (fun h_35 => ?_) (fun h_35 => ?_)
    · refine ev_aload_0 (q := 43) dX8_settles_42 rfl ?_
      refine ev_getR (q := 46) dX8_settles_43 fl_RX8_26 (by first | assumption | rfl) (by rfl) rfl ?_
      refine ev_bipush (q := 48) dX8_settles_46 rfl (by decide) ?_
      refine ev_aload_0 (q := 49) dX8_settles_48 rfl ?_
      refine ev_getR (q := 52) dX8_settles_49 fl_RX8_7 (by first | assumption | rfl) (by rfl) rfl ?_
      refine ev_iconst (q := 53) dX8_settles_52 rfl ?_
      refine ev_iload_1 (q := 54) dX8_settles_53 rfl ?_
      refine ev_iadd (q := 55) dX8_settles_54 rfl ?_
      refine ev_iaload (q := 56) dX8_settles_55 (by first | assumption | rfl) (by omega) (by first | decide | omega) rfl (fun h_55 => ?_)
      simp only [up_at, Nat.reduceEqDiff, false_and, if_false] at h_55 ⊢
      rw [(hA1.2.2.1 (e : Int) (by omega) (by omega)).1, Int.toNat_natCast] at h_55 ⊢
      refine ev_imul (q := 57) dX8_settles_56 rfl ?_
      refine ev_iload_2 (q := 58) dX8_settles_57 rfl ?_
      refine ev_iadd (q := 59) dX8_settles_58 rfl ?_
      refine ev_iaload (q := 60) dX8_settles_59 (by first | assumption | rfl) (by omega) (by first | decide | omega) rfl (fun h_59 => ?_)
      first
      | (simp only [up_at, Nat.reduceEqDiff, false_and, if_false] at h_59 ⊢
         rw [show (16 * vpar v e + (p : Int)).toNat = 16 * (vpar v e).toNat + p by omega, o2 106 (by decide)] at h_59 ⊢
         have ha : M 106 (16 * (vpar v e).toNat + p) = (if e = 0 then -1 else M 106 (16 * (vpar v e).toNat + p)) := by rw [if_neg (by omega)]
         generalize hz : (if e = 0 then -1 else M 106 (16 * (vpar v e).toNat + p)) = z at *
         rw [ha] at h_59 ⊢)
      | (have ha : -1 = (if e = 0 then -1 else M 106 (16 * (vpar v e).toNat + p)) := by rw [if_pos (by omega)]
         generalize hz : (if e = 0 then -1 else M 106 (16 * (vpar v e).toNat + p)) = z at *
         rw [show vi (-1) = vi z by rw [← ha]])
      refine ev_istore_6 (q := 62) dX8_settles_60 rfl (by decide) ?_
      refine ev_aload_0 (q := 63) dX8_settles_62 rfl ?_
      refine ev_getR (q := 66) dX8_settles_63 fl_RX8_26 (by first | assumption | rfl) (by rfl) rfl ?_
      refine ev_iload_4 (q := 68) dX8_settles_66 rfl ?_
      refine ev_iload_5 (q := 70) dX8_settles_68 rfl ?_
      refine ev_iconst (q := 71) dX8_settles_70 rfl ?_
      refine ev_icmp_eq (t := 79) (q := 74) dX8_settles_71 (by decide) rfl (by constructor <;> omega) (by constructor <;> omega) (fun h_71 => ?_) (fun h_71 => ?_)
      · refine ev_iload_3 (q := 80) dX8_settles_79 rfl ?_
        refine ev_if_eq (t := 88) (q := 83) dX8_settles_80 (by decide) rfl (by constructor <;> omega) (fun h_80 => ?_) (fun h_80 => ?_)
        · refine ev_iconst (q := 89) dX8_settles_88 rfl ?_
          refine ev_iastore (q := 90) dX8_settles_89 (by first | assumption | rfl) (by omega) (by first | decide | omega) (by constructor <;> omega) rfl ?_
          rw [ei]
          refine ev_return dX8_settles_90 rfl ?_
          refine ⟨rfl, rfl, _, o2, setM_eq ?_ ?_⟩
          · first | exact absurd (show g = -1 by assumption) (show ¬ g = -1 by assumption) | rw [if_pos (show g = -1 by assumption)] | rw [if_neg (show ¬ g = -1 by assumption)]
          · first | exact absurd (show g = -1 by assumption) (show ¬ g = -1 by assumption) | rw [if_neg (show ¬ g = -1 by assumption)] | rw [if_pos (show g = -1 by assumption), if_neg (hbt (by assumption))] | rw [if_pos (show g = -1 by assumption), if_pos (hbf (by assumption))]
        · refine ev_iload_6 (q := 85) dX8_settles_83 rfl ?_
          refine ev_goto (q := 89) dX8_settles_85 (by decide) ?_
          refine ev_iastore (q := 90) dX8_settles_89 (by first | assumption | rfl) (by omega) (by first | decide | omega) (by constructor <;> omega) rfl ?_
          rw [ei]
          refine ev_return dX8_settles_90 rfl ?_
          refine ⟨rfl, rfl, _, o2, setM_eq ?_ ?_⟩
          · first | exact absurd (show g = -1 by assumption) (show ¬ g = -1 by assumption) | rw [if_pos (show g = -1 by assumption)] | rw [if_neg (show ¬ g = -1 by assumption)]
          · first | exact absurd (show g = -1 by assumption) (show ¬ g = -1 by assumption) | rw [if_neg (show ¬ g = -1 by assumption)] | rw [if_pos (show g = -1 by assumption), if_neg (hbt (by assumption))] | rw [if_pos (show g = -1 by assumption), if_pos (hbf (by assumption))]
      · refine ev_iload_5 (q := 76) dX8_settles_74 rfl ?_
        refine ev_goto (q := 89) dX8_settles_76 (by decide) ?_
        refine ev_iastore (q := 90) dX8_settles_89 (by first | assumption | rfl) (by omega) (by first | decide | omega) (by constructor <;> omega) rfl ?_
        rw [ei]
        refine ev_return dX8_settles_90 rfl ?_
        refine ⟨rfl, rfl, _, o2, setM_eq ?_ ?_⟩
        · first | exact absurd (show g = -1 by assumption) (show ¬ g = -1 by assumption) | rw [if_pos (show g = -1 by assumption)] | rw [if_neg (show ¬ g = -1 by assumption)]
        · first | exact absurd (show g = -1 by assumption) (show ¬ g = -1 by assumption) | rw [if_neg (show ¬ g = -1 by assumption)] | rw [if_pos (show g = -1 by assumption), if_neg (hbt (by assumption))] | rw [if_pos (show g = -1 by assumption), if_pos (hbf (by assumption))]
    · refine ev_iconst (q := 39) dX8_settles_38 rfl ?_
      refine ev_goto (q := 60) dX8_settles_39 (by decide) ?_
      first
      | (simp only [up_at, Nat.reduceEqDiff, false_and, if_false] at h_59 ⊢
         rw [show (16 * vpar v e + (p : Int)).toNat = 16 * (vpar v e).toNat + p by omega, o2 106 (by decide)] at h_59 ⊢
         have ha : M 106 (16 * (vpar v e).toNat + p) = (if e = 0 then -1 else M 106 (16 * (vpar v e).toNat + p)) := by rw [if_neg (by omega)]
         generalize hz : (if e = 0 then -1 else M 106 (16 * (vpar v e).toNat + p)) = z at *
         rw [ha] at h_59 ⊢)
      | (have ha : -1 = (if e = 0 then -1 else M 106 (16 * (vpar v e).toNat + p)) := by rw [if_pos (by omega)]
         generalize hz : (if e = 0 then -1 else M 106 (16 * (vpar v e).toNat + p)) = z at *
         rw [show vi (-1) = vi z by rw [← ha]])
      refine ev_istore_6 (q := 62) dX8_settles_60 rfl (by decide) ?_
      refine ev_aload_0 (q := 63) dX8_settles_62 rfl ?_
      refine ev_getR (q := 66) dX8_settles_63 fl_RX8_26 (by first | assumption | rfl) (by rfl) rfl ?_
      refine ev_iload_4 (q := 68) dX8_settles_66 rfl ?_
      refine ev_iload_5 (q := 70) dX8_settles_68 rfl ?_
      refine ev_iconst (q := 71) dX8_settles_70 rfl ?_
      refine ev_icmp_eq (t := 79) (q := 74) dX8_settles_71 (by decide) rfl (by constructor <;> omega) (by constructor <;> omega) (fun h_71 => ?_) (fun h_71 => ?_)
      · refine ev_iload_3 (q := 80) dX8_settles_79 rfl ?_
        refine ev_if_eq (t := 88) (q := 83) dX8_settles_80 (by decide) rfl (by constructor <;> omega) (fun h_80 => ?_) (fun h_80 => ?_)
        · refine ev_iconst (q := 89) dX8_settles_88 rfl ?_
          refine ev_iastore (q := 90) dX8_settles_89 (by first | assumption | rfl) (by omega) (by first | decide | omega) (by constructor <;> omega) rfl ?_
          rw [ei]
          refine ev_return dX8_settles_90 rfl ?_
          refine ⟨rfl, rfl, _, o2, setM_eq ?_ ?_⟩
          · first | exact absurd (show g = -1 by assumption) (show ¬ g = -1 by assumption) | rw [if_pos (show g = -1 by assumption)] | rw [if_neg (show ¬ g = -1 by assumption)]
          · first | exact absurd (show g = -1 by assumption) (show ¬ g = -1 by assumption) | rw [if_neg (show ¬ g = -1 by assumption)] | rw [if_pos (show g = -1 by assumption), if_neg (hbt (by assumption))] | rw [if_pos (show g = -1 by assumption), if_pos (hbf (by assumption))]
        · refine ev_iload_6 (q := 85) dX8_settles_83 rfl ?_
          refine ev_goto (q := 89) dX8_settles_85 (by decide) ?_
          refine ev_iastore (q := 90) dX8_settles_89 (by first | assumption | rfl) (by omega) (by first | decide | omega) (by constructor <;> omega) rfl ?_
          rw [ei]
          refine ev_return dX8_settles_90 rfl ?_
          refine ⟨rfl, rfl, _, o2, setM_eq ?_ ?_⟩
          · first | exact absurd (show g = -1 by assumption) (show ¬ g = -1 by assumption) | rw [if_pos (show g = -1 by assumption)] | rw [if_neg (show ¬ g = -1 by assumption)]
          · first | exact absurd (show g = -1 by assumption) (show ¬ g = -1 by assumption) | rw [if_neg (show ¬ g = -1 by assumption)] | rw [if_pos (show g = -1 by assumption), if_neg (hbt (by assumption))] | rw [if_pos (show g = -1 by assumption), if_pos (hbf (by assumption))]
      · refine ev_iload_5 (q := 76) dX8_settles_74 rfl ?_
        refine ev_goto (q := 89) dX8_settles_76 (by decide) ?_
        refine ev_iastore (q := 90) dX8_settles_89 (by first | assumption | rfl) (by omega) (by first | decide | omega) (by constructor <;> omega) rfl ?_
        rw [ei]
        refine ev_return dX8_settles_90 rfl ?_
        refine ⟨rfl, rfl, _, o2, setM_eq ?_ ?_⟩
        · first | exact absurd (show g = -1 by assumption) (show ¬ g = -1 by assumption) | rw [if_pos (show g = -1 by assumption)] | rw [if_neg (show ¬ g = -1 by assumption)]
        · first | exact absurd (show g = -1 by assumption) (show ¬ g = -1 by assumption) | rw [if_neg (show ¬ g = -1 by assumption)] | rw [if_pos (show g = -1 by assumption), if_neg (hbt (by assumption))] | rw [if_pos (show g = -1 by assumption), if_pos (hbf (by assumption))]
end Giv

