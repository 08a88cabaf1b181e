/-- value and source of p on e, by going up -/
def slv (v : Vw) : Nat → Nat → Nat → Int × Int
  | 0, _, _ => (-1, -1)
  | n + 1, e, p => gpr v e (fun q => (VAn v e (fun q => (slv v n (vpar v e).toNat q).1) (fun q => (slv v n (vpar v e).toNat q).2) 9 q).1) (fun q => (slv v n (vpar v e).toNat q).1) (fun q => (slv v n (vpar v e).toNat q).2) p
/-- who holds the equations holds the values -/
theorem slv_eq {v : Vw} (h : Wf v) {A B : Nat → Nat → Int} : ∀ (n e : Nat), e < n → (e : Int) < vel v → (∀ d : Nat, d ≤ e → ∀ p, p < 16 → (A d p, B d p) = gpr v d (A d) (A (vpar v d).toNat) (B (vpar v d).toNat) p) → ∀ p, p < 16 → (A e p, B e p) = slv v n e p := by
  intro n
  induction n with
  | zero => intro e he; omega
  | succ n ih =>
    intro e hen he hAB p hp
    have hpar := (h.2.2.1 e he).1
    have hpv : e ≠ 0 → ∀ q, q < 16 → A (vpar v e).toNat q = (slv v n (vpar v e).toNat q).1 ∧ B (vpar v e).toNat q = (slv v n (vpar v e).toNat q).2 := fun he0 q hq => by
      have := ih (vpar v e).toNat (by omega) (by omega) (fun d hd => hAB d (by omega)) q hq
      rw [← this]
      exact ⟨rfl, rfl⟩
    have hcu : ∀ (k : Nat) (q : Nat), 8 ≤ q → q < 16 → Dn v e k q → (A e q, B e q) = VAn v e (fun q => (slv v n (vpar v e).toNat q).1) (fun q => (slv v n (vpar v e).toNat q).2) k q := by
      intro k
      induction k with
      | zero => intro q _ _ hd; exact hd.elim
      | succ k ihk =>
        intro q h8 h16 hd
        rw [hAB e (Nat.le_refl _) q h16]
        refine gpr_congr ?_ (fun he0 => hpv he0 q h16)
        by_cases hb : bs v e q
        · exact Or.inl hb
        · have hr := rf_rng h h16 hb
          rcases hd with hd | hd
          · exact absurd hd hb
          · have := ihk (rf v e q) hr.1 hr.2 hd
            exact Or.inr (congrArg Prod.fst this)
    rw [hAB e (Nat.le_refl _) p hp]
    show _ = gpr v e _ _ _ p
    refine gpr_congr ?_ (fun he0 => hpv he0 p hp)
    by_cases hb : bs v e p
    · exact Or.inl hb
    · have hr := rf_rng h hp hb
      have := hcu 9 (rf v e p) hr.1 hr.2 (Dn_mono _ _ (Dn_all h hr))
      exact Or.inr (congrArg Prod.fst this)
theorem slv_of {v : Vw} {M2 : ev_M} (h : Wf v) (hO : OutOK v M2) {e p : Nat} (he : (e : Int) < vel v) (hp : p < 16) : (M2 89 (16 * e + p), M2 91 (16 * e + p)) = slv v 17 e p := by
  have h1 := h.1
  exact slv_eq h (A := fun e p => M2 89 (16 * e + p)) (B := fun e p => M2 91 (16 * e + p)) 17 e (by omega) he (fun d hd q hq => (hO.2.2 d (by omega)).2.2.2 q hq) p hp
def vaV (v : Vw) (e p : Nat) : Int := if (slv v 17 e p).1 = -1 then (if 8 ≤ p then -14 else 0) else (slv v 17 e p).1
set_option maxHeartbeats 4000000 in
theorem p_value {l : Launch} {M : ev_M} {e p : Int} (he : inR e) (hp : inR p) (h : IC M) : Ri l 6 kX7_value yX7_value S0 M [vr 0, vi e, vi p] (fun x M2 => ((¬ ((0 ≤ e ∧ e < M 2 0) ∧ 0 ≤ p ∧ p ≤ 15) ∧ x = -11) ∨ (((0 ≤ e ∧ e < M 2 0) ∧ 0 ≤ p ∧ p ≤ 15) ∧ x = vaV (cV M 1) e.toNat p.toNat)) ∧ Qy M M2) := by
  have hn : 1 ≤ M 2 0 ∧ M 2 0 ≤ 16 := h.1.1
  have hW := h.1
  refine Ct.of (by decide) rfl (by decide) (Nat.le_of_ble_eq_true rfl) (Ev_RM (fun hR => ?_))
  refine (show Ev _ none _ _ _ _ _ 0 [_, _, _] [] _ from ?_)
  refine ev_aload_0 (q := 1) dX7_value_0 rfl ?_
  refine ev_getR (q := 4) dX7_value_1 fl_RX7_10 (by first | assumption | rfl) (by rfl) rfl ?_
  refine ev_getR (q := 7) dX7_value_4 fl_RX7_37 (by first | assumption | rfl) (by rfl) rfl ?_
  refine ev_iload_1 (q := 8) dX7_value_7 rfl ?_
  refine ev_callV1i (q := 11) dX7_value_8 vs_RX7_41 (by first | assumption | rfl) (c_X6_has (by constructor <;> omega) (by omega)) (by decide) (Nat.le_of_ble_eq_true rfl) rfl (fun h_8 => ?_)
  refine ev_b_eq (t := 21) (q := 14) dX7_value_11 (by decide) rfl (fun h_11 => ?_) (fun h_11 => ?_)
  · refine ev_bipush (q := 23) dX7_value_21 rfl (by decide) ?_
    refine ev_ireturn dX7_value_23 rfl rfl (by constructor <;> omega) ?_
    exact ⟨_, rfl, rfl, Or.inl ⟨by omega, rfl⟩, Or.inl rfl⟩
  · refine ev_iload_2 (q := 15) dX7_value_14 rfl ?_
    refine ev_callS1i (q := 18) dX7_value_15 ss_RX7_130 (c_X7_isProperty (by constructor <;> omega)) (by decide) (Nat.le_of_ble_eq_true rfl) rfl (fun h_15 => ?_)
    refine ev_b_ne (t := 24) (q := 21) dX7_value_18 (by decide) rfl (fun h_18 => ?_) (fun h_18 => ?_)
    · refine ev_aload_0 (q := 25) dX7_value_24 rfl ?_
      refine ev_getR (q := 28) dX7_value_25 fl_RX7_26 (by first | assumption | rfl) (by rfl) rfl ?_
      refine ev_aload_0 (q := 29) dX7_value_28 rfl ?_
      refine ev_getR (q := 32) dX7_value_29 fl_RX7_10 (by first | assumption | rfl) (by rfl) rfl ?_
      refine ev_callV1rQ (q := 35) dX7_value_32 vs_RX7_92 (by first | assumption | rfl) (c_X1_of hR rfl hW h.2.2.2.2.2.1 h.2.2.2.2.2.2) (by decide) (Nat.le_of_ble_eq_true rfl) rfl (fun M_32 hq_32 => ?_)
      obtain ⟨o1, o2, o3⟩ := hq_32
      have o5 := slv_of hW o2 (e := e.toNat) (p := p.toNat) (by show ((e.toNat : Nat) : Int) < M 2 0; omega) (by omega)
      rw [show 16 * e.toNat + p.toNat = (e * 16 + p).toNat by omega] at o5
      have o6 : M_32 89 (e * 16 + p).toNat = (slv (cV M 1) 17 e.toNat p.toNat).1 := congrArg Prod.fst o5
      refine ev_iload_1 (q := 36) dX7_value_35 rfl ?_
      refine ev_iload_2 (q := 37) dX7_value_36 rfl ?_
      refine ev_callV2i (q := 40) dX7_value_37 vs_RX7_165 (by first | assumption | rfl) (c_X1_valueOn (by omega) (by omega)) (by decide) (Nat.le_of_ble_eq_true rfl) rfl (fun h_37 => ?_)
      refine ev_iload_2 (q := 41) dX7_value_40 rfl ?_
      refine ev_callS1i (q := 44) dX7_value_41 ss_RX7_140 (c_X7_isCustom (by constructor <;> omega)) (by decide) (Nat.le_of_ble_eq_true rfl) rfl (fun h_41 => ?_)
      refine ev_b_eq (t := 52) (q := 47) dX7_value_44 (by decide) rfl (fun h_44 => ?_) (fun h_44 => ?_)
      · refine ev_iconst (q := 53) dX7_value_52 rfl ?_
        refine ev_callS2i (q := 56) dX7_value_53 ss_RX7_159 (c_X7_foundOr (by constructor <;> omega) (by constructor <;> omega)) (by decide) (Nat.le_of_ble_eq_true rfl) rfl (fun h_53 => ?_)
        refine ev_ireturn dX7_value_56 rfl rfl (by constructor <;> omega) ?_
        first | exact ⟨_, rfl, rfl, Or.inr ⟨by omega, by rw [o6, vaV, if_pos (show 8 ≤ p.toNat by omega)]⟩, Or.inr ⟨o1, o2, o3⟩⟩ | exact ⟨_, rfl, rfl, Or.inr ⟨by omega, by rw [o6, vaV, if_neg (show ¬ 8 ≤ p.toNat by omega)]⟩, Or.inr ⟨o1, o2, o3⟩⟩
      · refine ev_bipush (q := 49) dX7_value_47 rfl (by decide) ?_
        refine ev_goto (q := 53) dX7_value_49 (by decide) ?_
        refine ev_callS2i (q := 56) dX7_value_53 ss_RX7_159 (c_X7_foundOr (by constructor <;> omega) (by constructor <;> omega)) (by decide) (Nat.le_of_ble_eq_true rfl) rfl (fun h_53 => ?_)
        refine ev_ireturn dX7_value_56 rfl rfl (by constructor <;> omega) ?_
        first | exact ⟨_, rfl, rfl, Or.inr ⟨by omega, by rw [o6, vaV, if_pos (show 8 ≤ p.toNat by omega)]⟩, Or.inr ⟨o1, o2, o3⟩⟩ | exact ⟨_, rfl, rfl, Or.inr ⟨by omega, by rw [o6, vaV, if_neg (show ¬ 8 ≤ p.toNat by omega)]⟩, Or.inr ⟨o1, o2, o3⟩⟩
    · refine ev_bipush (q := 23) dX7_value_21 rfl (by decide) ?_
      refine ev_ireturn dX7_value_23 rfl rfl (by constructor <;> omega) ?_
      exact ⟨_, rfl, rfl, Or.inl ⟨by omega, rfl⟩, Or.inl rfl⟩
def frV (v : Vw) (e p : Nat) : Int := if (slv v 17 e p).2 = -1 then -14 else (slv v 17 e p).2
set_option maxHeartbeats 4000000 in
theorem p_from {l : Launch} {M : ev_M} {e p : Int} (he : inR e) (hp : inR p) (h : IC M) : Ri l 6 kX7_from yX7_from S0 M [vr 0, vi e, vi p] (fun x M2 => ((¬ ((0 ≤ e ∧ e < M 2 0) ∧ 0 ≤ p ∧ p ≤ 15) ∧ x = -11) ∨ (((0 ≤ e ∧ e < M 2 0) ∧ 0 ≤ p ∧ p ≤ 15) ∧ x = frV (cV M 1) e.toNat p.toNat)) ∧ Qy M M2) := by
  have hn : 1 ≤ M 2 0 ∧ M 2 0 ≤ 16 := h.1.1
  have hW := h.1
  refine Ct.of (by decide) rfl (by decide) (Nat.le_of_ble_eq_true rfl) (Ev_RM (fun hR => ?_))
  refine (show Ev _ none _ _ _ _ _ 0 [_, _, _] [] _ from ?_)
  refine ev_aload_0 (q := 1) dX7_from_0 rfl ?_
  refine ev_getR (q := 4) dX7_from_1 fl_RX7_10 (by first | assumption | rfl) (by rfl) rfl ?_
  refine ev_getR (q := 7) dX7_from_4 fl_RX7_37 (by first | assumption | rfl) (by rfl) rfl ?_
  refine ev_iload_1 (q := 8) dX7_from_7 rfl ?_
  refine ev_callV1i (q := 11) dX7_from_8 vs_RX7_41 (by first | assumption | rfl) (c_X6_has (by constructor <;> omega) (by omega)) (by decide) (Nat.le_of_ble_eq_true rfl) rfl (fun h_8 => ?_)
  refine ev_b_eq (t := 21) (q := 14) dX7_from_11 (by decide) rfl (fun h_11 => ?_) (fun h_11 => ?_)
  · refine ev_bipush (q := 23) dX7_from_21 rfl (by decide) ?_
    refine ev_ireturn dX7_from_23 rfl rfl (by constructor <;> omega) ?_
    exact ⟨_, rfl, rfl, Or.inl ⟨by omega, rfl⟩, Or.inl rfl⟩
  · refine ev_iload_2 (q := 15) dX7_from_14 rfl ?_
    refine ev_callS1i (q := 18) dX7_from_15 ss_RX7_130 (c_X7_isProperty (by constructor <;> omega)) (by decide) (Nat.le_of_ble_eq_true rfl) rfl (fun h_15 => ?_)
    refine ev_b_ne (t := 24) (q := 21) dX7_from_18 (by decide) rfl (fun h_18 => ?_) (fun h_18 => ?_)
    · refine ev_aload_0 (q := 25) dX7_from_24 rfl ?_
      refine ev_getR (q := 28) dX7_from_25 fl_RX7_26 (by first | assumption | rfl) (by rfl) rfl ?_
      refine ev_aload_0 (q := 29) dX7_from_28 rfl ?_
      refine ev_getR (q := 32) dX7_from_29 fl_RX7_10 (by first | assumption | rfl) (by rfl) rfl ?_
      refine ev_callV1rQ (q := 35) dX7_from_32 vs_RX7_92 (by first | assumption | rfl) (c_X1_of hR rfl hW h.2.2.2.2.2.1 h.2.2.2.2.2.2) (by decide) (Nat.le_of_ble_eq_true rfl) rfl (fun M_32 hq_32 => ?_)
      obtain ⟨o1, o2, o3⟩ := hq_32
      have o5 := slv_of hW o2 (e := e.toNat) (p := p.toNat) (by show ((e.toNat : Nat) : Int) < M 2 0; omega) (by omega)
      rw [show 16 * e.toNat + p.toNat = (e * 16 + p).toNat by omega] at o5
      have o6 : M_32 91 (e * 16 + p).toNat = (slv (cV M 1) 17 e.toNat p.toNat).2 := congrArg Prod.snd o5
      refine ev_iload_1 (q := 36) dX7_from_35 rfl ?_
      refine ev_iload_2 (q := 37) dX7_from_36 rfl ?_
      refine ev_callV2i (q := 40) dX7_from_37 vs_RX7_178 (by first | assumption | rfl) (c_X1_sourceOn (by omega) (by omega)) (by decide) (Nat.le_of_ble_eq_true rfl) rfl (fun h_37 => ?_)
      refine ev_bipush (q := 42) dX7_from_40 rfl (by decide) ?_
      refine ev_callS2i (q := 45) dX7_from_42 ss_RX7_159 (c_X7_foundOr (by constructor <;> omega) (by constructor <;> omega)) (by decide) (Nat.le_of_ble_eq_true rfl) rfl (fun h_42 => ?_)
      refine ev_ireturn dX7_from_45 rfl rfl (by constructor <;> omega) ?_
      exact ⟨_, rfl, rfl, Or.inr ⟨by omega, by rw [o6, frV]⟩, Or.inr ⟨o1, o2, o3⟩⟩
    · refine ev_bipush (q := 23) dX7_from_21 rfl (by decide) ?_
      refine ev_ireturn dX7_from_23 rfl rfl (by constructor <;> omega) ?_
      exact ⟨_, rfl, rfl, Or.inl ⟨by omega, rfl⟩, Or.inl rfl⟩
def whV (v : Vw) (e p : Nat) (k w : Int) : Int := if ¬ (k < vrn v) ∨ nth v e p k.toNat = -1 then -14 else if w = 0 then nth v e p k.toNat else if k = 0 then 0 else crV v (nth v e p (k - 1).toNat).toNat (nth v e p k.toNat).toNat e

