def RB (M0 : ev_M) (t : Nat → Int) (len : Int) (M : ev_M) (P : PS) : Prop := RC M P ∧ M 94 = t ∧ M 92 1 = len ∧ TFr M0 M
theorem RB.go {M0 M M2 : ev_M} {t : Nat → Int} {len : Int} {P P2 : PS} (h : RB M0 t len M P) (h1 : RC M2 P2) (h2 : TFr M M2) : RB M0 t len M2 P2 := ⟨h1, by rw [h2.1 94 (by decide) (by decide)]; exact h.2.1, by rw [h2.2]; exact h.2.2.1, h.2.2.2.tr h2⟩
theorem RB.cur {M0 M : ev_M} {t : Nat → Int} {len : Int} {P : PS} (h : RB M0 t len M P) : ccur M P = cur t len P := by
  unfold ccur
  rw [h.2.1, h.2.2.1]
set_option maxHeartbeats 1000000 in
theorem n_accepts {l : Launch} {M0 M : ev_M} {t : Nat → Int} {len : Int} {P : PS} {c : Int} (h : RB M0 t len M P) (hc : 0 ≤ c ∧ c < 1000) : Ri l 2 kX5_accepts yX5_accepts S0 M [vr 92, vi c] (fun x M2 => x = (if cur t len P = c then 1 else 0) ∧ RB M0 t len M2 (accS t len c P)) := by
  have hr := cur_rng h.1
  have hcu := h.cur
  obtain ⟨h1, h2, h3, -⟩ := id h.1
  have hn : ccur M P = c → RC (up M 92 3 (pat P + 1)) (pat P + 1, P.2) ∧ TFr M (up M 92 3 (pat P + 1)) := fun q => h.1.next (by omega)
  have hRC := h.1
  refine Ri.of (by decide) rfl (by decide) (Nat.le_of_ble_eq_true rfl) ?_
  refine (show Ev _ none _ _ _ _ _ 0 [_, _] [] _ from ?_)
  refine ev_aload_0 (q := 1) dX5_accepts_0 rfl ?_
  refine ev_callV0i (q := 4) dX5_accepts_1 vs_RX5_94 (by first | assumption | rfl) (c_X5_current (by assumption)) (by decide) (Nat.le_of_ble_eq_true rfl) rfl (fun h_1 => ?_)
  refine ev_iload_1 (q := 5) dX5_accepts_4 rfl ?_
  refine ev_icmp_eq (t := 10) (q := 8) dX5_accepts_5 (by decide) rfl (by constructor <;> omega) (by constructor <;> omega) (fun h_5 => ?_) (fun h_5 => ?_)
  · refine ev_aload_0 (q := 11) dX5_accepts_10 rfl ?_
    refine ev_dup (q := 12) dX5_accepts_11 rfl ?_
    refine ev_getI (q := 15) dX5_accepts_12 fl_RX5_35 (by first | assumption | rfl) (by rfl) rfl (fun h_12 => ?_)
    refine ev_iconst (q := 16) dX5_accepts_15 rfl ?_
    refine ev_iadd (q := 17) dX5_accepts_16 rfl ?_
    refine ev_putI (q := 20) dX5_accepts_17 fl_RX5_35 (by first | assumption | rfl) (by rfl) rfl (by constructor <;> omega) ?_
    refine ev_iconst (q := 21) dX5_accepts_20 rfl ?_
    refine ev_ireturn dX5_accepts_21 rfl (by first | rfl | decide | (split <;> rfl) | (split <;> decide)) (by constructor <;> omega) ?_
    first | exact ⟨_, rfl, rfl, by rw [if_neg (by omega)], by rw [accS, if_neg (by omega)]; exact h⟩ | exact ⟨_, rfl, rfl, by rw [if_pos (by omega)], by rw [accS, if_pos (by omega), h1]; exact h.go (hn (by omega)).1 (hn (by omega)).2⟩
  · refine ev_iconst (q := 9) dX5_accepts_8 rfl ?_
    refine ev_ireturn dX5_accepts_9 rfl (by first | rfl | decide | (split <;> rfl) | (split <;> decide)) (by constructor <;> omega) ?_
    first | exact ⟨_, rfl, rfl, by rw [if_neg (by omega)], by rw [accS, if_neg (by omega)]; exact h⟩ | exact ⟨_, rfl, rfl, by rw [if_pos (by omega)], by rw [accS, if_pos (by omega), h1]; exact h.go (hn (by omega)).1 (hn (by omega)).2⟩
theorem n_demand {l : Launch} {M0 M : ev_M} {t : Nat → Int} {len : Int} {P : PS} {c : Int} (h : RB M0 t len M P) (hc : 0 ≤ c ∧ c < 1000) : Rv l 2 kX5_demand yX5_demand S0 M [vr 92, vi c] (fun M2 => RB M0 t len M2 (demS t len c P)) := by
  have hcu := h.cur
  have hr := cur_rng h.1
  have hf := h.1.fail
  obtain ⟨h1, h2, h3, -⟩ := id h.1
  have hn : ccur M P = c → RC (up M 92 3 (pat P + 1)) (pat P + 1, P.2) ∧ TFr M (up M 92 3 (pat P + 1)) := fun q => h.1.next (by omega)
  have hRC := h.1
  refine Rv.of (by decide) rfl (by decide) (Nat.le_of_ble_eq_true rfl) ?_
  refine (show Ev _ none _ _ _ _ _ 0 [_, _] [] _ from ?_)
  refine ev_aload_0 (q := 1) dX5_demand_0 rfl ?_
  refine ev_callV0i (q := 4) dX5_demand_1 vs_RX5_94 (by first | assumption | rfl) (c_X5_current (by assumption)) (by decide) (Nat.le_of_ble_eq_true rfl) rfl (fun h_1 => ?_)
  refine ev_iload_1 (q := 5) dX5_demand_4 rfl ?_
  refine ev_icmp_ne (t := 21) (q := 8) dX5_demand_5 (by decide) rfl (by constructor <;> omega) (by constructor <;> omega) (fun h_5 => ?_) (fun h_5 => ?_)
  · refine ev_aload_0 (q := 22) dX5_demand_21 rfl ?_
    refine ev_callV0v (q := 25) dX5_demand_22 vs_RX5_80 (by first | assumption | rfl) c_X5_failForm (by decide) (Nat.le_of_ble_eq_true rfl) rfl ?_
    refine ev_return dX5_demand_25 rfl ?_
    first | exact ⟨rfl, rfl, by rw [demS, if_pos (by omega), h1]; exact h.go (hn (by omega)).1 (hn (by omega)).2⟩ | exact ⟨rfl, rfl, by rw [demS, if_neg (by omega)]; exact h.go hf.1 hf.2⟩
  · refine ev_aload_0 (q := 9) dX5_demand_8 rfl ?_
    refine ev_dup (q := 10) dX5_demand_9 rfl ?_
    refine ev_getI (q := 13) dX5_demand_10 fl_RX5_35 (by first | assumption | rfl) (by rfl) rfl (fun h_10 => ?_)
    refine ev_iconst (q := 14) dX5_demand_13 rfl ?_
    refine ev_iadd (q := 15) dX5_demand_14 rfl ?_
    refine ev_putI (q := 18) dX5_demand_15 fl_RX5_35 (by first | assumption | rfl) (by rfl) rfl (by constructor <;> omega) ?_
    refine ev_goto (q := 25) dX5_demand_18 (by decide) ?_
    refine ev_return dX5_demand_25 rfl ?_
    first | exact ⟨rfl, rfl, by rw [demS, if_pos (by omega), h1]; exact h.go (hn (by omega)).1 (hn (by omega)).2⟩ | exact ⟨rfl, rfl, by rw [demS, if_neg (by omega)]; exact h.go hf.1 hf.2⟩
theorem Met_mono {l : Launch} {y : MethodName} {ws : List Cond} {rm : Room} {Pc : Array Value → State → Prop} {Qc Qc' : Array Value → State → Outcome → State → Prop} {mc ms : Nat} {free : Addr → Prop} (h : Met l y ws rm Pc Qc mc ms free) (hq : ∀ a s o t, Qc a s o t → Qc' a s o t) : Met l y ws rm Pc Qc' mc ms free := by
  intro p e ha hc hk s m args below hf h1 h2 h3
  obtain ⟨k, o, q1, q2, q3, q4, q5⟩ := h p e ha hc hk s m args below hf h1 h2 h3
  exact ⟨k, o, q1, q2, q3, hq _ _ _ _ q4, q5⟩
theorem Ct_mono {l : Launch} {d : Nat} {k : ev_K} {y : MethodName} {b : Nat × Nat} {S : List ev_Sh} {M : ev_M} {av : List ev_V} {Q Q' : Option ev_V → List ev_Sh → ev_M → Prop} (h : Ct l d k y b S M av Q) (hq : ∀ v S' M', Q v S' M' → Q' v S' M') : Ct l d k y b S M av Q' := by
  intro hR G ca sb o
  refine Met_mono (h hR G ca sb o) (fun a s oc t q => ?_)
  obtain ⟨⟨v, S', M', q1, q2⟩, q3⟩ := q
  exact ⟨⟨v, S', M', hq _ _ _ q1, q2⟩, q3⟩
theorem n_number {l : Launch} {M0 M : ev_M} {t : Nat → Int} {len : Int} {P : PS} {d : Nat} {x lo hi : Int} (hx : x = (d : Int)) (h : RB M0 t len M P) (hd : d ≤ 3) (hlo : 0 ≤ lo ∧ lo ≤ 1000) (hhi : -1000 ≤ hi ∧ hi ≤ 1000) : Ri l 2 kX5_number yX5_number S0 M [vr 92, vi x, vi lo, vi hi] (fun x M2 => x = (numS t len d lo hi P).1 ∧ (0 ≤ x ∧ x ≤ bnd d) ∧ RB M0 t len M2 (numS t len d lo hi P).2) := by
  refine Ct_mono (c_X5_number hx h.1 hd hlo hhi) (fun v S' M' q => ?_)
  obtain ⟨z, q1, q2, q3, q4, q5, q6⟩ := q
  rw [h.2.1, h.2.2.1] at q3 q5
  exact ⟨z, q1, q2, q3, q4, h.go q5 q6⟩
def partS (t : Nat → Int) (len c : Int) (d : Nat) (most other : Int) (P : PS) : Int × PS := if cur t len P = c then numS t len d 0 most (accS t len c P) else (other, P)
set_option maxHeartbeats 1000000 in
theorem n_partAfter {l : Launch} {M0 M : ev_M} {t : Nat → Int} {len : Int} {P : PS} {d : Nat} {c x most other : Int} (hx : x = (d : Int)) (h : RB M0 t len M P) (hc : 0 ≤ c ∧ c < 1000) (hd : d ≤ 3) (hm : -1000 ≤ most ∧ most ≤ 1000) (ho : inR other) : Ri l 3 kX5_partAfter yX5_partAfter S0 M [vr 92, vi c, vi x, vi most, vi other] (fun z M2 => z = (partS t len c d most other P).1 ∧ RB M0 t len M2 (partS t len c d most other P).2) := by
  refine Ri.of (by decide) rfl (by decide) (Nat.le_of_ble_eq_true rfl) ?_
  refine (show Ev _ none _ _ _ _ _ 0 [_, _, _, _, _] [] _ from ?_)
  refine ev_aload_0 (q := 1) dX5_partAfter_0 rfl ?_
  refine ev_iload_1 (q := 2) dX5_partAfter_1 rfl ?_
  refine ev_callV1iR (q := 5) dX5_partAfter_2 vs_RX5_61 (by first | assumption | rfl) (n_accepts (by assumption) (by omega)) (by decide) (Nat.le_of_ble_eq_true rfl) rfl (fun x_2 M_2 hq_2 h_2 => ?_)
  obtain ⟨e1, e2⟩ := hq_2
  rw [e1]
  refine ev_b_eq (t := 18) (q := 8) dX5_partAfter_5 (by decide) rfl (fun h_5 => ?_) (fun h_5 => ?_)
  · refine ev_iload_4 (q := 20) dX5_partAfter_18 rfl ?_
    refine ev_ireturn dX5_partAfter_20 rfl rfl (by constructor <;> omega) ?_
    refine ⟨_, rfl, rfl, ?_⟩
    unfold partS
    first | (rw [if_pos h_5]; exact ⟨hq_12.1, hq_12.2.2⟩) | (rw [if_neg h_5]; rw [accS, if_neg h_5] at e2; exact ⟨rfl, e2⟩)
  · refine ev_aload_0 (q := 9) dX5_partAfter_8 rfl ?_
    refine ev_iload_2 (q := 10) dX5_partAfter_9 rfl ?_
    refine ev_iconst (q := 11) dX5_partAfter_10 rfl ?_
    refine ev_iload_3 (q := 12) dX5_partAfter_11 rfl ?_
    refine ev_callV3iR (q := 15) dX5_partAfter_12 vs_RX5_69 (by first | assumption | rfl) (n_number hx e2 hd (by omega) hm) (by decide) (Nat.le_of_ble_eq_true rfl) rfl (fun x_12 M_12 hq_12 h_12 => ?_)
    refine ev_goto (q := 20) dX5_partAfter_15 (by decide) ?_
    refine ev_ireturn dX5_partAfter_20 rfl rfl (by constructor <;> omega) ?_
    refine ⟨_, rfl, rfl, ?_⟩
    unfold partS
    first | (rw [if_pos h_5]; exact ⟨hq_12.1, hq_12.2.2⟩) | (rw [if_neg h_5]; rw [accS, if_neg h_5] at e2; exact ⟨rfl, e2⟩)

