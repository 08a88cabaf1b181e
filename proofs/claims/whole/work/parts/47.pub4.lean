/-- value and source of p on e, by going up -/
def slv (v : Vw) : Nat → Nat → Nat → Int × Int
  | 0, _, _ => (-1, -1)
  | n + 1, e, p => gpr v e (fun q => (VAn v e (fun q => (slv v n (vpar v e).toNat q).1) (fun q => (slv v n (vpar v e).toNat q).2) 9 q).1) (fun q => (slv v n (vpar v e).toNat q).1) (fun q => (slv v n (vpar v e).toNat q).2) p
/-- who holds the equations holds the values -/
theorem slv_eq {v : Vw} (h : Wf v) {A B : Nat → Nat → Int} : ∀ (n e : Nat), e < n → (e : Int) < vel v → (∀ d : Nat, d ≤ e → ∀ p, p < 16 → (A d p, B d p) = gpr v d (A d) (A (vpar v d).toNat) (B (vpar v d).toNat) p) → ∀ p, p < 16 → (A e p, B e p) = slv v n e p := by
  intro n
  induction n with
  | zero => intro e he; omega
  | succ n ih =>
    intro e hen he hAB p hp
    have hpar := (h.2.2.1 e he).1
    have hpv : e ≠ 0 → ∀ q, q < 16 → A (vpar v e).toNat q = (slv v n (vpar v e).toNat q).1 ∧ B (vpar v e).toNat q = (slv v n (vpar v e).toNat q).2 := fun he0 q hq => by
      have := ih (vpar v e).toNat (by omega) (by omega) (fun d hd => hAB d (by omega)) q hq
      rw [← this]
      exact ⟨rfl, rfl⟩
    have hcu : ∀ (k : Nat) (q : Nat), 8 ≤ q → q < 16 → Dn v e k q → (A e q, B e q) = VAn v e (fun q => (slv v n (vpar v e).toNat q).1) (fun q => (slv v n (vpar v e).toNat q).2) k q := by
      intro k
      induction k with
      | zero => intro q _ _ hd; exact hd.elim
      | succ k ihk =>
        intro q h8 h16 hd
        rw [hAB e (Nat.le_refl _) q h16]
        refine gpr_congr ?_ (fun he0 => hpv he0 q h16)
        by_cases hb : bs v e q
        · exact Or.inl hb
        · have hr := rf_rng h h16 hb
          rcases hd with hd | hd
          · exact absurd hd hb
          · have := ihk (rf v e q) hr.1 hr.2 hd
            exact Or.inr (congrArg Prod.fst this)
    rw [hAB e (Nat.le_refl _) p hp]
    show _ = gpr v e _ _ _ p
    refine gpr_congr ?_ (fun he0 => hpv he0 p hp)
    by_cases hb : bs v e p
    · exact Or.inl hb
    · have hr := rf_rng h hp hb
      have := hcu 9 (rf v e p) hr.1 hr.2 (Dn_mono _ _ (Dn_all h hr))
      exact Or.inr (congrArg Prod.fst this)
theorem slv_of {v : Vw} {M2 : ev_M} (h : Wf v) (hO : OutOK v M2) {e p : Nat} (he : (e : Int) < vel v) (hp : p < 16) : (M2 89 (16 * e + p), M2 91 (16 * e + p)) = slv v 17 e p := by
  have h1 := h.1
  exact slv_eq h (A := fun e p => M2 89 (16 * e + p)) (B := fun e p => M2 91 (16 * e + p)) 17 e (by omega) he (fun d hd q hq => (hO.2.2 d (by omega)).2.2.2 q hq) p hp
def vaV (v : Vw) (e p : Nat) : Int := if (slv v 17 e p).1 = -1 then (if 8 ≤ p then -14 else 0) else (slv v 17 e p).1
set_option maxHeartbeats 4000000 in
theorem p_value {l : Launch} {M : ev_M} {e p : Int} (he : inR e) (hp : inR p) (h : IC M) : Ri l 6 kX7_value yX7_value S0 M [vr 0, vi e, vi p] (fun x M2 => ((¬ ((0 ≤ e ∧ e < M 2 0) ∧ 0 ≤ p ∧ p ≤ 15) ∧ x = -11) ∨ (((0 ≤ e ∧ e < M 2 0) ∧ 0 ≤ p ∧ p ≤ 15) ∧ x = vaV (cV M 1) e.toNat p.toNat)) ∧ Qy M M2) := by
  have hn : 1 ≤ M 2 0 ∧ M 2 0 ≤ 16 := h.1.1
  have hW := h.1
  refine Ct.of (by decide) rfl (by decide) (Nat.le_of_ble_eq_true rfl) (Ev_RM (fun hR => ?_))
  refine (show Ev _ none _ _ _ _ _ 0 [_, _, _] [] _ from ?_)
  refine ev_aload_0 (q := 1) dX7_value_0 rfl ?_
  refine ev_getR (q := 4) dX7_value_1 fl_RX7_10 (by first | assumption | rfl) (by rfl) rfl ?_
  refine ev_getR (q := 7) dX7_value_4 fl_RX7_37 (by first | assumption | rfl) (by rfl) rfl ?_
  refine ev_iload_1 (q := 8) dX7_value_7 rfl ?_
  refine ev_callV1i (q := 11) dX7_value_8 vs_RX7_41 (by first | assumption | rfl) (c_X6_has (by constructor <;> omega) (by omega)) (by decide) (Nat.le_of_ble_eq_true rfl) rfl (fun h_8 => ?_)
  refine ev_b_eq (t := 21) (q := 14) dX7_value_11 (by decide) rfl (fun h_11 => ?_) (fun h_11 => ?_)
  · refine ev_bipush (q := 23) dX7_value_21 rfl (by decide) ?_
    refine ev_ireturn dX7_value_23 rfl rfl (by constructor <;> omega) ?_
    exact ⟨_, rfl, rfl, Or.inl ⟨by omega, rfl⟩, Or.inl rfl⟩
  · refine ev_iload_2 (q := 15) dX7_value_14 rfl ?_
    refine ev_callS1i (q := 18) dX7_value_15 ss_RX7_130 (c_X7_isProperty (by constructor <;> omega)) (by decide) (Nat.le_of_ble_eq_true rfl) rfl (fun h_15 => ?_)
    refine ev_b_ne (t := 24) (q := 21) dX7_value_18 (by decide) rfl (fun h_18 => ?_) (fun h_18 => ?_)
    · refine ev_aload_0 (q := 25) dX7_value_24 rfl ?_
      refine ev_getR (q := 28) dX7_value_25 fl_RX7_26 (by first | assumption | rfl) (by rfl) rfl ?_
      refine ev_aload_0 (q := 29) dX7_value_28 rfl ?_
      refine ev_getR (q := 32) dX7_value_29 fl_RX7_10 (by first | assumption | rfl) (by rfl) rfl ?_
      refine ev_callV1rQ (q := 35) dX7_value_32 vs_RX7_92 (by first | assumption | rfl) (c_X1_of hR rfl hW h.2.2.2.2.2.1 h.2.2.2.2.2.2) (by decide) (Nat.le_of_ble_eq_true rfl) rfl (fun M_32 hq_32 => ?_)
      obtain ⟨o1, o2, o3⟩ := hq_32
      have o5 := slv_of hW o2 (e := e.toNat) (p := p.toNat) (by show ((e.toNat : Nat) : Int) < M 2 0; omega) (by omega)
      rw [show 16 * e.toNat + p.toNat = (e * 16 + p).toNat by omega] at o5
      have o6 : M_32 89 (e * 16 + p).toNat = (slv (cV M 1) 17 e.toNat p.toNat).1 := congrArg Prod.fst o5
      refine ev_iload_1 (q := 36) dX7_value_35 rfl ?_
      refine ev_iload_2 (q := 37) dX7_value_36 rfl ?_
      refine ev_callV2i (q := 40) dX7_value_37 vs_RX7_165 (by first | assumption | rfl) (c_X1_valueOn (by omega) (by omega)) (by decide) (Nat.le_of_ble_eq_true rfl) rfl (fun h_37 => ?_)
      refine ev_iload_2 (q := 41) dX7_value_40 rfl ?_
      refine ev_callS1i (q := 44) dX7_value_41 ss_RX7_140 (c_X7_isCustom (by constructor <;> omega)) (by decide) (Nat.le_of_ble_eq_true rfl) rfl (fun h_41 => ?_)
      refine ev_b_eq (t := 52) (q := 47) dX7_value_44 (by decide) rfl (fun h_44 => ?_) (fun h_44 => ?_)
      · refine ev_iconst (q := 53) dX7_value_52 rfl ?_
        refine ev_callS2i (q := 56) dX7_value_53 ss_RX7_159 (c_X7_foundOr (by constructor <;> omega) (by constructor <;> omega)) (by decide) (Nat.le_of_ble_eq_true rfl) rfl (fun h_53 => ?_)
        refine ev_ireturn dX7_value_56 rfl rfl (by constructor <;> omega) ?_
        first | exact ⟨_, rfl, rfl, Or.inr ⟨by omega, by rw [o6, vaV, if_pos (show 8 ≤ p.toNat by omega)]⟩, Or.inr ⟨o1, o2, o3⟩⟩ | exact ⟨_, rfl, rfl, Or.inr ⟨by omega, by rw [o6, vaV, if_neg (show ¬ 8 ≤ p.toNat by omega)]⟩, Or.inr ⟨o1, o2, o3⟩⟩
      · refine ev_bipush (q := 49) dX7_value_47 rfl (by decide) ?_
        refine ev_goto (q := 53) dX7_value_49 (by decide) ?_
        refine ev_callS2i (q := 56) dX7_value_53 ss_RX7_159 (c_X7_foundOr (by constructor <;> omega) (by constructor <;> omega)) (by decide) (Nat.le_of_ble_eq_true rfl) rfl (fun h_53 => ?_)
        refine ev_ireturn dX7_value_56 rfl rfl (by constructor <;> omega) ?_
        first | exact ⟨_, rfl, rfl, Or.inr ⟨by omega, by rw [o6, vaV, if_pos (show 8 ≤ p.toNat by omega)]⟩, Or.inr ⟨o1, o2, o3⟩⟩ | exact ⟨_, rfl, rfl, Or.inr ⟨by omega, by rw [o6, vaV, if_neg (show ¬ 8 ≤ p.toNat by omega)]⟩, Or.inr ⟨o1, o2, o3⟩⟩
    · refine ev_bipush (q := 23) dX7_value_21 rfl (by decide) ?_
      refine ev_ireturn dX7_value_23 rfl rfl (by constructor <;> omega) ?_
      exact ⟨_, rfl, rfl, Or.inl ⟨by omega, rfl⟩, Or.inl rfl⟩
def frV (v : Vw) (e p : Nat) : Int := if (slv v 17 e p).2 = -1 then -14 else (slv v 17 e p).2
set_option maxHeartbeats 4000000 in
theorem p_from {l : Launch} {M : ev_M} {e p : Int} (he : inR e) (hp : inR p) (h : IC M) : Ri l 6 kX7_from yX7_from S0 M [vr 0, vi e, vi p] (fun x M2 => ((¬ ((0 ≤ e ∧ e < M 2 0) ∧ 0 ≤ p ∧ p ≤ 15) ∧ x = -11) ∨ (((0 ≤ e ∧ e < M 2 0) ∧ 0 ≤ p ∧ p ≤ 15) ∧ x = frV (cV M 1) e.toNat p.toNat)) ∧ Qy M M2) := by
  have hn : 1 ≤ M 2 0 ∧ M 2 0 ≤ 16 := h.1.1
  have hW := h.1
  refine Ct.of (by decide) rfl (by decide) (Nat.le_of_ble_eq_true rfl) (Ev_RM (fun hR => ?_))
  refine (show Ev _ none _ _ _ _ _ 0 [_, _, _] [] _ from ?_)
  refine ev_aload_0 (q := 1) dX7_from_0 rfl ?_
  refine ev_getR (q := 4) dX7_from_1 fl_RX7_10 (by first | assumption | rfl) (by rfl) rfl ?_
  refine ev_getR (q := 7) dX7_from_4 fl_RX7_37 (by first | assumption | rfl) (by rfl) rfl ?_
  refine ev_iload_1 (q := 8) dX7_from_7 rfl ?_
  refine ev_callV1i (q := 11) dX7_from_8 vs_RX7_41 (by first | assumption | rfl) (c_X6_has (by constructor <;> omega) (by omega)) (by decide) (Nat.le_of_ble_eq_true rfl) rfl (fun h_8 => ?_)
  refine ev_b_eq (t := 21) (q := 14) dX7_from_11 (by decide) rfl (fun h_11 => ?_) (fun h_11 => ?_)
  · refine ev_bipush (q := 23) dX7_from_21 rfl (by decide) ?_
    refine ev_ireturn dX7_from_23 rfl rfl (by constructor <;> omega) ?_
    exact ⟨_, rfl, rfl, Or.inl ⟨by omega, rfl⟩, Or.inl rfl⟩
  · refine ev_iload_2 (q := 15) dX7_from_14 rfl ?_
    refine ev_callS1i (q := 18) dX7_from_15 ss_RX7_130 (c_X7_isProperty (by constructor <;> omega)) (by decide) (Nat.le_of_ble_eq_true rfl) rfl (fun h_15 => ?_)
    refine ev_b_ne (t := 24) (q := 21) dX7_from_18 (by decide) rfl (fun h_18 => ?_) (fun h_18 => ?_)
    · refine ev_aload_0 (q := 25) dX7_from_24 rfl ?_
      refine ev_getR (q := 28) dX7_from_25 fl_RX7_26 (by first | assumption | rfl) (by rfl) rfl ?_
      refine ev_aload_0 (q := 29) dX7_from_28 rfl ?_
      refine ev_getR (q := 32) dX7_from_29 fl_RX7_10 (by first | assumption | rfl) (by rfl) rfl ?_
      refine ev_callV1rQ (q := 35) dX7_from_32 vs_RX7_92 (by first | assumption | rfl) (c_X1_of hR rfl hW h.2.2.2.2.2.1 h.2.2.2.2.2.2) (by decide) (Nat.le_of_ble_eq_true rfl) rfl (fun M_32 hq_32 => ?_)
      obtain ⟨o1, o2, o3⟩ := hq_32
      have o5 := slv_of hW o2 (e := e.toNat) (p := p.toNat) (by show ((e.toNat : Nat) : Int) < M 2 0; omega) (by omega)
      rw [show 16 * e.toNat + p.toNat = (e * 16 + p).toNat by omega] at o5
      have o6 : M_32 91 (e * 16 + p).toNat = (slv (cV M 1) 17 e.toNat p.toNat).2 := congrArg Prod.snd o5
      refine ev_iload_1 (q := 36) dX7_from_35 rfl ?_
      refine ev_iload_2 (q := 37) dX7_from_36 rfl ?_
      refine ev_callV2i (q := 40) dX7_from_37 vs_RX7_178 (by first | assumption | rfl) (c_X1_sourceOn (by omega) (by omega)) (by decide) (Nat.le_of_ble_eq_true rfl) rfl (fun h_37 => ?_)
      refine ev_bipush (q := 42) dX7_from_40 rfl (by decide) ?_
      refine ev_callS2i (q := 45) dX7_from_42 ss_RX7_159 (c_X7_foundOr (by constructor <;> omega) (by constructor <;> omega)) (by decide) (Nat.le_of_ble_eq_true rfl) rfl (fun h_42 => ?_)
      refine ev_ireturn dX7_from_45 rfl rfl (by constructor <;> omega) ?_
      exact ⟨_, rfl, rfl, Or.inr ⟨by omega, by rw [o6, frV]⟩, Or.inr ⟨o1, o2, o3⟩⟩
    · refine ev_bipush (q := 23) dX7_from_21 rfl (by decide) ?_
      refine ev_ireturn dX7_from_23 rfl rfl (by constructor <;> omega) ?_
      exact ⟨_, rfl, rfl, Or.inl ⟨by omega, rfl⟩, Or.inl rfl⟩
theorem c_rip {l : Launch} {M : ev_M} {v : Vw} {e p : Nat} {k y : Int} (hR : RM M) (hv : cV M 1 = v) (h : Wf v) (he : e < 16) (hp : p < 16) (hk : inR k) (hrn : M 81 2 = vrn v) (hs : ∀ r : Nat, (r : Int) < vrn v → M 83 (16 * e + r) = strV v r e) (hw : M 85 (16 * e + p) = winV v e p) (hy : y = if 0 ≤ k ∧ k < vrn v then nth v e p k.toNat else -1) : Cx l 4 kX1_ruleInPlace yX1_ruleInPlace S0 M [vr 81, vr 9, vi (e : Int), vi (p : Int), vi k] (some (vi y)) M := by
  subst hy
  exact c_X1_ruleInPlace hR hv h he hp hk hrn hs hw
def whV (v : Vw) (e p : Nat) (k w : Int) : Int := if ¬ (k < vrn v) ∨ nth v e p k.toNat = -1 then -14 else if w = 0 then nth v e p k.toNat else if k = 0 then 0 else crV v (nth v e p (k - 1).toNat).toNat (nth v e p k.toNat).toNat e
set_option maxHeartbeats 4000000 in
theorem p_why {l : Launch} {M : ev_M} {e p k w : Int} (he : inR e) (hp : inR p) (hk : inR k) (hw : inR w) (h : IC M) : Ri l 6 kX7_why yX7_why S0 M [vr 0, vi e, vi p, vi k, vi w] (fun x M2 => ((¬ ((0 ≤ e ∧ e < M 2 0) ∧ (0 ≤ p ∧ p ≤ 15) ∧ 0 ≤ k ∧ 0 ≤ w ∧ w ≤ 1) ∧ x = -11) ∨ (((0 ≤ e ∧ e < M 2 0) ∧ (0 ≤ p ∧ p ≤ 15) ∧ 0 ≤ k ∧ 0 ≤ w ∧ w ≤ 1) ∧ x = whV (cV M 1) e.toNat p.toNat k w)) ∧ Qy M M2) := by
  have hn : 1 ≤ M 2 0 ∧ M 2 0 ≤ 16 := h.1.1
  have hrn : 0 ≤ M 9 0 ∧ M 9 0 ≤ 16 := h.1.2.1
  have hW := h.1
  have hvr : vrn (cV M 1) = M 9 0 := rfl
  have hn1 := nth_rng hW e.toNat p.toNat k.toNat
  have hn2 := nth_rng hW e.toNat p.toNat (k - 1).toNat
  refine Ct.of (by decide) rfl (by decide) (Nat.le_of_ble_eq_true rfl) (Ev_RM (fun hR => ?_))
  refine (show Ev _ none _ _ _ _ _ 0 [_, _, _, _, _, _, _] [] _ from ?_)
  refine ev_aload_0 (q := 1) dX7_why_0 rfl ?_
  refine ev_getR (q := 4) dX7_why_1 fl_RX7_10 (by first | assumption | rfl) (by rfl) rfl ?_
  refine ev_getR (q := 7) dX7_why_4 fl_RX7_37 (by first | assumption | rfl) (by rfl) rfl ?_
  refine ev_iload_1 (q := 8) dX7_why_7 rfl ?_
  refine ev_callV1i (q := 11) dX7_why_8 vs_RX7_41 (by first | assumption | rfl) (c_X6_has (by constructor <;> omega) (by omega)) (by decide) (Nat.le_of_ble_eq_true rfl) rfl (fun h_8 => ?_)
  refine ev_b_eq (t := 35) (q := 14) dX7_why_11 (by decide) rfl (fun h_11 => ?_) (fun h_11 => ?_)
  · refine ev_bipush (q := 37) dX7_why_35 rfl (by decide) ?_
    refine ev_ireturn dX7_why_37 rfl rfl (by constructor <;> omega) ?_
    exact ⟨_, rfl, rfl, Or.inl ⟨by omega, rfl⟩, Or.inl rfl⟩
  · refine ev_iload_2 (q := 15) dX7_why_14 rfl ?_
    refine ev_callS1i (q := 18) dX7_why_15 ss_RX7_130 (c_X7_isProperty (by constructor <;> omega)) (by decide) (Nat.le_of_ble_eq_true rfl) rfl (fun h_15 => ?_)
    refine ev_b_eq (t := 35) (q := 21) dX7_why_18 (by decide) rfl (fun h_18 => ?_) (fun h_18 => ?_)
    · refine ev_bipush (q := 37) dX7_why_35 rfl (by decide) ?_
      refine ev_ireturn dX7_why_37 rfl rfl (by constructor <;> omega) ?_
      exact ⟨_, rfl, rfl, Or.inl ⟨by omega, rfl⟩, Or.inl rfl⟩
    · refine ev_iload_3 (q := 22) dX7_why_21 rfl ?_
      refine ev_if_lt (t := 35) (q := 25) dX7_why_22 (by decide) rfl (by constructor <;> omega) (fun h_22 => ?_) (fun h_22 => ?_)
      · refine ev_bipush (q := 37) dX7_why_35 rfl (by decide) ?_
        refine ev_ireturn dX7_why_37 rfl rfl (by constructor <;> omega) ?_
        exact ⟨_, rfl, rfl, Or.inl ⟨by omega, rfl⟩, Or.inl rfl⟩
      · refine ev_iload_4 (q := 27) dX7_why_25 rfl ?_
        refine ev_iconst (q := 28) dX7_why_27 rfl ?_
        refine ev_iconst (q := 29) dX7_why_28 rfl ?_
        refine ev_callS3i (q := 32) dX7_why_29 ss_RX7_47 (c_X7_isWithin (by constructor <;> omega) (by constructor <;> omega) (by constructor <;> omega)) (by decide) (Nat.le_of_ble_eq_true rfl) rfl (fun h_29 => ?_)
        refine ev_b_ne (t := 38) (q := 35) dX7_why_32 (by decide) rfl (fun h_32 => ?_) (fun h_32 => ?_)
        · refine ev_aload_0 (q := 39) dX7_why_38 rfl ?_
          refine ev_getR (q := 42) dX7_why_39 fl_RX7_26 (by first | assumption | rfl) (by rfl) rfl ?_
          refine ev_aload_0 (q := 43) dX7_why_42 rfl ?_
          refine ev_getR (q := 46) dX7_why_43 fl_RX7_10 (by first | assumption | rfl) (by rfl) rfl ?_
          refine ev_callV1rQ (q := 49) dX7_why_46 vs_RX7_92 (by first | assumption | rfl) (c_X1_of hR rfl hW h.2.2.2.2.2.1 h.2.2.2.2.2.2) (by decide) (Nat.le_of_ble_eq_true rfl) rfl (fun M_46 hq_46 => ?_)
          refine Ev_RM (fun hR46 => ?_)
          obtain ⟨o1, o2, o3⟩ := hq_46
          have o5 := o2.2.2 e.toNat (by show ((e.toNat : Nat) : Int) < M 2 0; omega)
          have o4 : M_46 81 2 = M 9 0 := o2.2.1
          have o7 : cV M_46 1 = cV M 1 := cV_eq (fun i hi => o1 i (by omega) (by omega) (by omega) (by omega) (by omega) (by omega))
          obtain ⟨y, hy⟩ : ∃ y : Int, y = if 0 ≤ k ∧ k < vrn (cV M 1) then nth (cV M 1) e.toNat p.toNat k.toNat else -1 := ⟨_, rfl⟩
          have hyr : -1 ≤ y ∧ y < M 9 0 ∧ y < 16 := by rw [hy]; split <;> omega
          obtain ⟨e', rfl⟩ : ∃ e' : Nat, e = e' := ⟨e.toNat, by omega⟩
          obtain ⟨p', rfl⟩ : ∃ p' : Nat, p = p' := ⟨p.toNat, by omega⟩
          simp only [Int.toNat_natCast] at *
          refine ev_aload_0 (q := 50) dX7_why_49 rfl ?_
          refine ev_getR (q := 53) dX7_why_50 fl_RX7_10 (by first | assumption | rfl) (by rfl) rfl ?_
          refine ev_getR (q := 56) dX7_why_53 fl_RX7_62 (by first | assumption | rfl) (by rfl) rfl ?_
          refine ev_iload_1 (q := 57) dX7_why_56 rfl ?_
          refine ev_iload_2 (q := 58) dX7_why_57 rfl ?_
          refine ev_iload_3 (q := 59) dX7_why_58 rfl ?_
          refine ev_callV4i (q := 62) dX7_why_59 vs_RX7_171 (by first | assumption | rfl) (c_rip hR46 o7 hW (by omega) (by omega) hk o4 o5.1 (o5.2.1 p' (by omega)) hy) (by decide) (Nat.le_of_ble_eq_true rfl) rfl (fun h_59 => ?_)
          refine ev_istore_5 (q := 64) dX7_why_62 rfl (by decide) ?_
          refine ev_iload_5 (q := 66) dX7_why_64 rfl ?_
          refine ev_iconst (q := 67) dX7_why_66 rfl ?_
          refine ev_icmp_ne (t := 73) (q := 70) dX7_why_67 (by decide) rfl (by constructor <;> omega) (by constructor <;> omega) (fun h_67 => ?_) (fun h_67 => ?_)
          · have hkv : k < vrn (cV M 1) := Classical.byContradiction (fun q => h_67 (by rw [hy, if_neg (fun z => q z.2)]))
            rw [if_pos ⟨by omega, hkv⟩] at hy
            have hwh : whV (cV M 1) e' p' k w = if w = 0 then y else if k = 0 then 0 else crV (cV M 1) (nth (cV M 1) e' p' (k - 1).toNat).toNat y.toNat e' := by rw [whV, if_neg (fun z => by rcases z with z | z <;> omega), ← hy]
            refine ev_iload_4 (q := 75) dX7_why_73 rfl ?_
            refine ev_if_ne (t := 81) (q := 78) dX7_why_75 (by decide) rfl (by constructor <;> omega) (fun h_75 => ?_) (fun h_75 => ?_)
            · refine ev_iload_3 (q := 82) dX7_why_81 rfl ?_
              refine ev_if_ne (t := 87) (q := 85) dX7_why_82 (by decide) rfl (by constructor <;> omega) (fun h_82 => ?_) (fun h_82 => ?_)
              · refine ev_aload_0 (q := 88) dX7_why_87 rfl ?_
                refine ev_getR (q := 91) dX7_why_88 fl_RX7_26 (by first | assumption | rfl) (by rfl) rfl ?_
                refine ev_aload_0 (q := 92) dX7_why_91 rfl ?_
                refine ev_getR (q := 95) dX7_why_92 fl_RX7_10 (by first | assumption | rfl) (by rfl) rfl ?_
                refine ev_getR (q := 98) dX7_why_95 fl_RX7_62 (by first | assumption | rfl) (by rfl) rfl ?_
                refine ev_iload_1 (q := 99) dX7_why_98 rfl ?_
                refine ev_iload_2 (q := 100) dX7_why_99 rfl ?_
                refine ev_iload_3 (q := 101) dX7_why_100 rfl ?_
                refine ev_iconst (q := 102) dX7_why_101 rfl ?_
                refine ev_isub (q := 103) dX7_why_102 rfl ?_
                obtain ⟨z, hz⟩ : ∃ z : Int, z = nth (cV M 1) e' p' (k - 1).toNat := ⟨_, rfl⟩
                have hzn : z ≠ -1 := fun q => by
                  have := nth_none (hz ▸ q) k.toNat (by omega)
                  omega
                rw [← hz] at hn2 hwh
                refine ev_callV4i (q := 106) dX7_why_103 vs_RX7_171 (by first | assumption | rfl) (c_rip (y := z) hR46 o7 hW (by omega) (by omega) (by constructor <;> omega) o4 o5.1 (o5.2.1 p' (by omega)) (by rw [if_pos ⟨by omega, by omega⟩]; exact hz)) (by decide) (Nat.le_of_ble_eq_true rfl) rfl (fun h_103 => ?_)
                refine ev_istore_6 (q := 108) dX7_why_106 rfl (by decide) ?_
                refine ev_aload_0 (q := 109) dX7_why_108 rfl ?_
                refine ev_getR (q := 112) dX7_why_109 fl_RX7_10 (by first | assumption | rfl) (by rfl) rfl ?_
                refine ev_iload_6 (q := 114) dX7_why_112 rfl ?_
                refine ev_iload_5 (q := 116) dX7_why_114 rfl ?_
                refine ev_iload_1 (q := 117) dX7_why_116 rfl ?_
                obtain ⟨y', rfl⟩ : ∃ y' : Nat, y = y' := ⟨y.toNat, by omega⟩
                obtain ⟨z', rfl⟩ : ∃ z' : Nat, z = z' := ⟨z.toNat, by omega⟩
                have m9 : M_46 9 0 = M 9 0 := congrFun (o1 9 (by decide) (by decide) (by decide) (by decide) (by decide) (by decide)) 0
                have m2 : M_46 2 0 = M 2 0 := congrFun (o1 2 (by decide) (by decide) (by decide) (by decide) (by decide) (by decide)) 0
                refine ev_callV3i (q := 120) dX7_why_117 vs_RX7_175 (by first | assumption | rfl) (c_X4_criterion (a := z') (b := y') (e := e') (o7 ▸ hW) (by rw [m9]; omega) (by rw [m9]; omega) (by rw [m2]; omega)) (by decide) (Nat.le_of_ble_eq_true rfl) rfl (fun h_117 => ?_)
                refine ev_ireturn dX7_why_120 rfl rfl (by constructor <;> omega) ?_
                exact ⟨_, rfl, rfl, Or.inr ⟨by omega, by rw [hwh, if_neg (by omega), if_neg (by omega), o7]; rfl⟩, Or.inr ⟨o1, o2, o3⟩⟩
              · refine ev_iconst (q := 86) dX7_why_85 rfl ?_
                refine ev_ireturn dX7_why_86 rfl rfl (by constructor <;> omega) ?_
                exact ⟨_, rfl, rfl, Or.inr ⟨by omega, by rw [hwh, if_neg (by omega), if_pos (by omega)]⟩, Or.inr ⟨o1, o2, o3⟩⟩
            · refine ev_iload_5 (q := 80) dX7_why_78 rfl ?_
              refine ev_ireturn dX7_why_80 rfl rfl (by constructor <;> omega) ?_
              exact ⟨_, rfl, rfl, Or.inr ⟨by omega, by rw [hwh, if_pos (by omega)]⟩, Or.inr ⟨o1, o2, o3⟩⟩
          · refine ev_bipush (q := 72) dX7_why_70 rfl (by decide) ?_
            refine ev_ireturn dX7_why_72 rfl rfl (by constructor <;> omega) ?_
            refine ⟨_, rfl, rfl, Or.inr ⟨by omega, ?_⟩, Or.inr ⟨o1, o2, o3⟩⟩
            unfold whV
            rw [if_pos]
            by_cases q : k < vrn (cV M 1)
            · rw [if_pos ⟨by omega, q⟩] at hy
              exact Or.inr (by omega)
            · exact Or.inl q
        · refine ev_bipush (q := 37) dX7_why_35 rfl (by decide) ?_
          refine ev_ireturn dX7_why_37 rfl rfl (by constructor <;> omega) ?_
          exact ⟨_, rfl, rfl, Or.inl ⟨by omega, rfl⟩, Or.inl rfl⟩

