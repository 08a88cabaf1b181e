theorem accS_sd {t : Nat → Int} {len c : Int} {P : PS} : psd (accS t len c P) = psd P ∧ pat P ≤ pat (accS t len c P) ∧ pwr (accS t len c P) = pwr P := by
  unfold accS
  by_cases h : cur t len P = c
  · rw [if_pos h]; exact ⟨rfl, by show pat P ≤ pat P + 1; omega, rfl⟩
  · rw [if_neg h]; exact ⟨rfl, Int.le_refl _, rfl⟩
theorem demS_at {t : Nat → Int} {len c : Int} {P : PS} : pat P ≤ pat (demS t len c P) ∧ (pwr (demS t len c P) = false → pwr P = false ∨ cur t len P = c) ∧ (pwr (demS t len c P) = false → pat (demS t len c P) = pat P + 1) := by
  unfold demS
  by_cases h : cur t len P = c
  · rw [if_pos h]; exact ⟨by show pat P ≤ pat P + 1; omega, fun _ => Or.inr h, fun _ => rfl⟩
  · rw [if_neg h]; exact ⟨Int.le_refl _, fun q => (by cases q), fun q => (by cases q)⟩
/-- a declaration that is read without a fault of the form takes a character -/
theorem decS_sd {t : Nat → Int} {len : Int} {P : PS} (hz : psd P 48 = 0) : psd (decS t len P) 48 = 0 ∧ (pwr (decS t len P) = false → pat P + 1 ≤ pat (decS t len P)) := by
  have a1 := numS_sd t len 2 0 15 P
  have a2 : psd (d2 t len P) = psd P ∧ pat P ≤ pat (d2 t len P) := by
    unfold d2
    split
    · exact ⟨a1.1, a1.2.1⟩
    · exact ⟨a1.1, a1.2.1⟩
  have a3 : psd (d3 t len P) = psd P ∧ pat P ≤ pat (d3 t len P) := by
    have := demS_at (t := t) (len := len) (c := 61) (P := d2 t len P)
    unfold d3
    exact ⟨by rw [demS_psd]; exact a2.1, by omega⟩
  have a5 : psd (d5 t len P).2 = psd P ∧ pat P ≤ pat (d5 t len P).2 := by
    unfold d5
    split
    · have b1 := numS_sd t len 2 8 15 (accS t len 36 (d3 t len P))
      have b2 := accS_sd (t := t) (len := len) (c := 36) (P := d3 t len P)
      exact ⟨by rw [b1.1, b2.1]; exact a3.1, by omega⟩
    · have b1 := numS_sd t len 3 0 999 (d3 t len P)
      exact ⟨by rw [b1.1]; exact a3.1, by omega⟩
  have a6 : psd (d6 t len P).2 = psd P ∧ pat P ≤ pat (d6 t len P).2 := by
    unfold d6
    split
    · have b1 := numS_sd t len 3 0 999 (accS t len 47 (d5 t len P).2)
      have b2 := accS_sd (t := t) (len := len) (c := 47) (P := (d5 t len P).2)
      exact ⟨by rw [b1.1, b2.1]; exact a5.1, by omega⟩
    · exact a5
  have a7 := demS_at (t := t) (len := len) (c := 59) (P := (d6 t len P).2)
  have a8 : psd (d7 t len P) = psd P := by unfold d7; rw [demS_psd]; exact a6.1
  unfold decS
  by_cases hc : pwr (d7 t len P) = false ∧ (d1 t len P).1 < 16
  · rw [if_pos hc]
    refine ⟨?_, fun q => ?_⟩
    · show sdU (psd (d7 t len P)) _ _ _ _ 48 = 0
      unfold sdU
      rw [if_neg (by omega), if_neg (by omega), if_neg (by omega), a8]
      exact hz
    · have := a7.2.2 hc.1
      show pat P + 1 ≤ pat (d7 t len P)
      unfold d7
      omega
  · rw [if_neg hc]
    refine ⟨by rw [a8]; exact hz, fun q => ?_⟩
    have := a7.2.2 q
    unfold d7
    omega
/-- the declarations, up to a fault of the form or a closing brace -/
def bdy (t : Nat → Int) (len : Int) : Nat → PS → PS
  | 0, P => P
  | n + 1, P => if pwr P = true ∨ cur t len P = 125 then P else bdy t len n (decS t len P)
def trS (len : Int) (P : PS) : PS := if pat P < len then (pat P, true, P.2.2) else P
set_option maxHeartbeats 4000000 in
theorem n_body49 {l : Launch} {M0 M : ev_M} {t : Nat → Int} {len : Int} {P : PS} {w1 w2 : Option ev_V} (h : RB M0 t len M P) : Ev l none 4 kX5_parseBody (0, 0) S0 M 49 [some (vr 92), w1, w2] [] (QV S0 (fun M2 => RB M0 t len M2 (trS len P))) := by
  obtain ⟨h1, h2, h3, -⟩ := id h.1
  have hf := h.1.fail
  have hl := h.2.2.1
  refine ev_aload_0 (q := 50) dX5_parseBody_49 rfl ?_
  refine ev_getI (q := 53) dX5_parseBody_50 fl_RX5_35 (by first | assumption | rfl) (by rfl) rfl (fun h_50 => ?_)
  refine ev_aload_0 (q := 54) dX5_parseBody_53 rfl ?_
  refine ev_getI (q := 57) dX5_parseBody_54 fl_RX5_27 (by first | assumption | rfl) (by rfl) rfl (fun h_54 => ?_)
  refine ev_icmp_ge (t := 64) (q := 60) dX5_parseBody_57 (by decide) rfl (by constructor <;> omega) (by constructor <;> omega) (fun h_57 => ?_) (fun h_57 => ?_)
  · refine ev_return dX5_parseBody_64 rfl ?_
    first | exact ⟨rfl, rfl, by rw [trS, if_neg (by omega)]; exact h⟩ | exact ⟨rfl, rfl, by rw [trS, if_pos (by omega)]; exact h.go hf.1 hf.2⟩
  · refine ev_aload_0 (q := 61) dX5_parseBody_60 rfl ?_
    refine ev_callV0v (q := 64) dX5_parseBody_61 vs_RX5_80 (by first | assumption | rfl) c_X5_failForm (by decide) (Nat.le_of_ble_eq_true rfl) rfl ?_
    refine ev_return dX5_parseBody_64 rfl ?_
    first | exact ⟨rfl, rfl, by rw [trS, if_neg (by omega)]; exact h⟩ | exact ⟨rfl, rfl, by rw [trS, if_pos (by omega)]; exact h.go hf.1 hf.2⟩
set_option maxHeartbeats 4000000 in
theorem lp_X5_parseBody {l : Launch} {M0 : ev_M} {t : Nat → Int} {len : Int} : ∀ (n j : Nat) (x : Int) (M : ev_M) (P : PS), x = j → j + n = 80 → RB M0 t len M P → psd P 48 = 0 → (pwr P = false → (j : Int) + 1 ≤ pat P) → Ev l none 4 kX5_parseBody (0, 0) S0 M 10 [some (vr 92), some (vi 0), some (vi x)] [] (QV S0 (fun M2 => RB M0 t len M2 (trS len (demS t len 125 (bdy t len (n + 1) P))))) := by
  intro n
  induction n with
  | zero =>
    intro j x M P hx hj hB hz hw
    obtain ⟨h1, h2, h3, h4, h5, -⟩ := id hB.1
    have hwr : pwr P = true := by
      cases hq : pwr P with
      | true => rfl
      | false => have := hw hq; omega
    have e1 : demS t len 125 (bdy t len 1 P) = P := by
      rw [bdy, if_pos (Or.inl hwr), demS, if_neg (by rw [cur_w hwr]; decide), ← hwr]
    rw [e1]
    refine ev_iload_2 (q := 11) dX5_parseBody_10 rfl ?_
    refine ev_bipush (q := 13) dX5_parseBody_11 rfl (by decide) ?_
    refine ev_icmp_ge (t := 49) (q := 16) dX5_parseBody_13 (by decide) rfl (by constructor <;> omega) (by constructor <;> omega) (fun h_13 => ?_) (fun h_13 => ?_)
    · exact n_body49 hB
    · omega
  | succ n ih =>
    intro j x M P hx hj hB hz hw
    obtain ⟨h1, h2, h3, h4, h5, h6, h7⟩ := id hB.1
    have hds := decS_sd (t := t) (len := len) hz
    have hW : pwr P = true → demS t len 125 (bdy t len (n + 1 + 1) P) = P := fun hwr => by
      rw [bdy, if_pos (Or.inl hwr), demS, if_neg (by rw [cur_w hwr]; decide), ← hwr]
    have hnw : M 92 4 = -1 → pwr P = false := fun q => by
      cases hq : pwr P with
      | true => have := h4 hq; omega
      | false => rfl
    have hyw : M 92 4 ≠ -1 → pwr P = true := fun q => by
      cases hq : pwr P with
      | true => rfl
      | false => exact absurd (h5 hq).1 q
    have K : ∀ (M1 : ev_M) (y : Int), 0 ≤ y ∧ y ≤ 200 → cur t len P = 125 → RB M0 t len M1 (accS t len 125 P) → Ev l none 4 kX5_parseBody (0, 0) S0 M1 10 [some (vr 92), some (vi 1), some (vi y)] [] (QV S0 (fun M2 => RB M0 t len M2 (trS len (demS t len 125 (bdy t len (n + 1 + 1) P))))) := by
      intro M1 y hy hc hB1
      have e1 : demS t len 125 (bdy t len (n + 1 + 1) P) = accS t len 125 P := by
        rw [bdy, if_pos (Or.inr hc), demS, if_pos hc, accS, if_pos hc]
      rw [e1]
      refine ev_iload_2 (q := 11) dX5_parseBody_10 rfl ?_
      refine ev_bipush (q := 13) dX5_parseBody_11 rfl (by decide) ?_
      refine ev_icmp_ge (t := 49) (q := 16) dX5_parseBody_13 (by decide) rfl (by constructor <;> omega) (by constructor <;> omega) (fun h_13 => ?_) (fun h_13 => ?_)
      · exact n_body49 hB1
      · refine ev_aload_0 (q := 17) dX5_parseBody_16 rfl ?_
        refine ev_getI (q := 20) dX5_parseBody_17 fl_RX5_38 (by first | assumption | rfl) (by rfl) rfl (fun h_17 => ?_)
        refine ev_iconst (q := 21) dX5_parseBody_20 rfl ?_
        refine ev_icmp_ne (t := 49) (q := 24) dX5_parseBody_21 (by decide) rfl (by constructor <;> omega) (by constructor <;> omega) (fun h_21 => ?_) (fun h_21 => ?_)
        · exact n_body49 hB1
        · refine ev_iload_1 (q := 25) dX5_parseBody_24 rfl ?_
          refine ev_if_ne (t := 49) (q := 28) dX5_parseBody_25 (by decide) rfl (by constructor <;> omega) (fun h_25 => ?_) (fun h_25 => ?_)
          · exact n_body49 hB1
          · omega
    refine ev_iload_2 (q := 11) dX5_parseBody_10 rfl ?_
    refine ev_bipush (q := 13) dX5_parseBody_11 rfl (by decide) ?_
    refine ev_icmp_ge (t := 49) (q := 16) dX5_parseBody_13 (by decide) rfl (by constructor <;> omega) (by constructor <;> omega) (fun h_13 => ?_) (fun h_13 => ?_)
    · first | omega | exact (by rw [hW (hyw (by assumption))]; exact n_body49 hB)
    · refine ev_aload_0 (q := 17) dX5_parseBody_16 rfl ?_
      refine ev_getI (q := 20) dX5_parseBody_17 fl_RX5_38 (by first | assumption | rfl) (by rfl) rfl (fun h_17 => ?_)
      refine ev_iconst (q := 21) dX5_parseBody_20 rfl ?_
      refine ev_icmp_ne (t := 49) (q := 24) dX5_parseBody_21 (by decide) rfl (by constructor <;> omega) (by constructor <;> omega) (fun h_21 => ?_) (fun h_21 => ?_)
      · first | omega | exact (by rw [hW (hyw (by assumption))]; exact n_body49 hB)
      · refine ev_iload_1 (q := 25) dX5_parseBody_24 rfl ?_
        refine ev_if_ne (t := 49) (q := 28) dX5_parseBody_25 (by decide) rfl (by constructor <;> omega) (fun h_25 => ?_) (fun h_25 => ?_)
        · first | omega | exact (by rw [hW (hyw (by assumption))]; exact n_body49 hB)
        · refine ev_aload_0 (q := 29) dX5_parseBody_28 rfl ?_
          refine ev_bipush (q := 31) dX5_parseBody_29 rfl (by decide) ?_
          refine ev_callV1iR (q := 34) dX5_parseBody_31 vs_RX5_61 (by first | assumption | rfl) (n_accepts hB (by decide)) (by decide) (Nat.le_of_ble_eq_true rfl) rfl (fun x_31 M_31 hq_31 h_31 => ?_)
          obtain ⟨g1, g2⟩ := hq_31
          rw [g1]
          refine ev_istore_1 (q := 35) dX5_parseBody_34 rfl (by decide) ?_
          refine ev_iload_1 (q := 36) dX5_parseBody_35 rfl ?_
          refine ev_b_ne (t := 43) (q := 39) dX5_parseBody_36 (by decide) rfl (fun h_36 => ?_) (fun h_36 => ?_)
          · refine ev_iinc_2 (q := 46) dX5_parseBody_43 rfl (by decide) ?_
            refine ev_goto (q := 10) dX5_parseBody_46 (by decide) ?_
            by_cases c125 : cur t len P = 125
            · first | exact absurd c125 (by assumption) | (rw [if_pos c125]; exact K _ _ (by omega) c125 g2)
            · have e1 : bdy t len (n + 1 + 1) P = bdy t len (n + 1) (decS t len P) := by
                rw [bdy, if_neg (fun q => by rcases q with q | q; (rw [hnw (by omega)] at q; cases q); exact c125 q)]
              first | exact absurd (by assumption) c125 | (rw [if_neg c125, e1]; exact ih (j + 1) _ _ _ (by omega) (by omega) hq_40 hds.1 (fun q => by have := hds.2 q; have := hw (hnw (by omega)); omega))
          · refine ev_aload_0 (q := 40) dX5_parseBody_39 rfl ?_
            refine ev_callV0vR (q := 43) dX5_parseBody_40 vs_RX5_77 (by first | assumption | rfl) (n_parseDeclaration (show RB M0 t len M_31 P from by rw [accS, if_neg h_36] at g2; exact g2) hz) (by decide) (Nat.le_of_ble_eq_true rfl) rfl (fun M_40 hq_40 => ?_)
            refine ev_iinc_2 (q := 46) dX5_parseBody_43 rfl (by decide) ?_
            refine ev_goto (q := 10) dX5_parseBody_46 (by decide) ?_
            by_cases c125 : cur t len P = 125
            · first | exact absurd c125 (by assumption) | (rw [if_pos c125]; exact K _ _ (by omega) c125 g2)
            · have e1 : bdy t len (n + 1 + 1) P = bdy t len (n + 1) (decS t len P) := by
                rw [bdy, if_neg (fun q => by rcases q with q | q; (rw [hnw (by omega)] at q; cases q); exact c125 q)]
              first | exact absurd (by assumption) c125 | (rw [if_neg c125, e1]; exact ih (j + 1) _ _ _ (by omega) (by omega) hq_40 hds.1 (fun q => by have := hds.2 q; have := hw (hnw (by omega)); omega))
set_option maxHeartbeats 1000000 in
theorem n_parseBody {l : Launch} {M0 M : ev_M} {t : Nat → Int} {len : Int} {P : PS} (h : RB M0 t len M P) (hz : psd P 48 = 0) : Rv l 4 kX5_parseBody yX5_parseBody S0 M [vr 92] (fun M2 => RB M0 t len M2 (trS len (demS t len 125 (bdy t len 81 (demS t len 123 P))))) := by
  have hp := h.1.2.1.1
  have hd := demS_at (t := t) (len := len) (c := 123) (P := P)
  refine Rv.of (by decide) rfl (by decide) (Nat.le_of_ble_eq_true rfl) ?_
  refine (show Ev _ none _ _ _ _ _ 0 [_, _, _] [] _ from ?_)
  refine ev_aload_0 (q := 1) dX5_parseBody_0 rfl ?_
  refine ev_bipush (q := 3) dX5_parseBody_1 rfl (by decide) ?_
  refine ev_callV1vR (q := 6) dX5_parseBody_3 vs_RX5_73 (by first | assumption | rfl) (n_demand h (by decide)) (by decide) (Nat.le_of_ble_eq_true rfl) rfl (fun M_3 hq_3 => ?_)
  refine ev_iconst (q := 7) dX5_parseBody_6 rfl ?_
  refine ev_istore_1 (q := 8) dX5_parseBody_7 rfl (by decide) ?_
  refine ev_iconst (q := 9) dX5_parseBody_8 rfl ?_
  refine ev_istore_2 (q := 10) dX5_parseBody_9 rfl (by decide) ?_
  exact lp_X5_parseBody 80 0 0 M_3 (demS t len 123 P) rfl rfl hq_3 (by rw [demS_psd]; exact hz) (fun q => by have := hd.2.2 q; omega)

