def bnd : Nat → Int
  | 0 => 0
  | k + 1 => 10 * bnd k + 9
theorem bnd_le : ∀ k : Nat, k ≤ 3 → 0 ≤ bnd k ∧ bnd k ≤ 999 := by decide
theorem cur_fr {M M' : ev_M} (h : TFr M M') (P : PS) : ccur M' P = ccur M P := by
  unfold ccur
  rw [h.2, h.1 94 (by decide) (by decide)]
theorem RC.range {M : ev_M} {P P' : PS} {s : Int} (h : RC M P) (hs : 0 ≤ s ∧ s ≤ 80) (e1 : pat P' = pat P) (e2 : pwr P' = pwr P) (e3 : psd P' = psd P) (e4 : -1 ≤ pbd P') (e5 : pwr P = false → pbd P' = if pbd P = -1 then s else pbd P) : RC (if M 92 5 = -1 then up M 92 5 s else M) P' ∧ TFr M (if M 92 5 = -1 then up M 92 5 s else M) := by
  obtain ⟨h1, h2, h3, h4, h5, h6, h7⟩ := h
  by_cases hf : M 92 5 = -1
  · rw [if_pos hf]
    refine ⟨⟨?_, ?_, ?_, fun q => ?_, fun q => ?_, ?_, ?_, e4⟩, fun i a d => up_ne a, ?_⟩
    · rw [up_at, if_neg (by omega), e1]; exact h1
    · rw [up_at, if_neg (by omega), e1]; exact h2
    · rw [up_at, if_neg (by omega)]; exact h3
    · rw [up_at, if_neg (by omega), e1]; exact h4 (e2 ▸ q)
    · obtain ⟨a1, a2, a3⟩ := h5 (e2 ▸ q)
      rw [up_at, if_neg (by omega), up_at, if_pos ⟨rfl, rfl⟩]
      refine ⟨a1, ?_, fun z p hp => ?_⟩
      · rw [e5 (e2 ▸ q), if_pos (by omega)]
      · rw [e3] at z ⊢
        rw [up_ne (by decide)]
        exact a3 z p hp
    · intro k hk
      rw [up_at, if_neg (by omega)] at hk
      rw [up_ne (by decide)]
      exact h6 k hk
    · rw [up_at, if_pos ⟨rfl, rfl⟩]; omega
    · rw [up_at, if_neg (by omega)]
  · rw [if_neg hf]
    refine ⟨⟨by rw [e1]; exact h1, by rw [e1]; exact h2, h3, fun q => by rw [e1]; exact h4 (e2 ▸ q), fun q => ?_, h6, h7.1, e4⟩, TFr.rf⟩
    obtain ⟨a1, a2, a3⟩ := h5 (e2 ▸ q)
    exact ⟨a1, by rw [e5 (e2 ▸ q), if_neg (by omega)]; exact a2, by rw [e3]; exact a3⟩
abbrev QN (M : ev_M) (d : Nat) (lo hi : Int) (P : PS) : Int → ev_M → Prop := fun x M2 => x = (numS (M 94) (M 92 1) d lo hi P).1 ∧ (0 ≤ x ∧ x ≤ bnd d) ∧ RC M2 (numS (M 94) (M 92 1) d lo hi P).2 ∧ TFr M M2
set_option maxHeartbeats 2000000 in
theorem lp_X5_number {l : Launch} {M : ev_M} {P : PS} {d : Nat} {lo hi : Int} (h : RC M P) (hd : d ≤ 3) (hlo : 0 ≤ lo ∧ lo ≤ 1000) (hhi : -1000 ≤ hi ∧ hi ≤ 1000) (r : Int × PS) (hr0 : r = numL (M 94) (M 92 1) d 0 P) : ∀ (n : Nat) (M' : ev_M) (P' : PS) (v x : Int), x = (d : Int) - n → n ≤ d → RC M' P' → TFr M M' → (0 ≤ v ∧ v ≤ bnd (d - n)) → r = numL (M 94) (M 92 1) n v P' → (pat P ≤ pat P' ∧ (pat P' ≠ pat P → pwr P' = false)) → Ev l none 2 kX5_number (0, 0) S0 M' 12 [some (vr 92), some (vi (d : Int)), some (vi lo), some (vi hi), some (vi (pat P)), some (vi v), some (vi x)] [] (QI S0 (QN M d lo hi P)) := by
  have K63 : ∀ (M' : ev_M) (P' : PS) (v : Int) (w6 : Option ev_V), RC M' P' → TFr M M' → (0 ≤ v ∧ v ≤ bnd d) → r = (v, P') → (pat P ≤ pat P' ∧ (pat P' ≠ pat P → pwr P' = false)) → Ev l none 2 kX5_number (0, 0) S0 M' 63 [some (vr 92), some (vi (d : Int)), some (vi lo), some (vi hi), some (vi (pat P)), some (vi v), w6] [] (QI S0 (QN M d lo hi P)) := by
    intro M' P' v w6 hR hF hv hr hm
    have hb := bnd_le d hd
    have hfail := hR.fail
    have hp := h.2.1; have hp3 := h.2.2.1
    have hrng := hR.range (P' := (pat P', pwr P', if pbd P' = -1 then pat P else pbd P', psd P')) (s := pat P) (by omega) rfl rfl rfl (by have := hR.2.2.2.2.2.2.2; show -1 ≤ (if pbd P' = -1 then pat P else pbd P'); split <;> omega) (fun _ => rfl)
    obtain ⟨h1, h2, h3, -⟩ := id hR
    have hn : numS (M 94) (M 92 1) d lo hi P = numE lo hi P (v, P') := by rw [numS, ← hr0, hr]
    unfold QN
    rw [hn]
    refine ev_aload_0 (q := 64) dX5_number_63 rfl ?_
    refine ev_getI (q := 67) dX5_number_64 fl_RX5_35 (by first | assumption | rfl) (by rfl) rfl (fun h_64 => ?_)
    refine ev_iload_4 (q := 69) dX5_number_67 rfl ?_
    refine ev_icmp_ne (t := 79) (q := 72) dX5_number_69 (by decide) rfl (by constructor <;> omega) (by constructor <;> omega) (fun h_69 => ?_) (fun h_69 => ?_)
    · refine ev_iload_5 (q := 81) dX5_number_79 rfl ?_
      refine ev_iload_2 (q := 82) dX5_number_81 rfl ?_
      refine ev_iload_3 (q := 83) dX5_number_82 rfl ?_
      refine ev_callS3i (q := 86) dX5_number_83 ss_RX5_98 (c_X7_isWithin (by constructor <;> omega) (by constructor <;> omega) (by constructor <;> omega)) (by decide) (Nat.le_of_ble_eq_true rfl) rfl (fun h_83 => ?_)
      refine ev_b_ne (t := 95) (q := 89) dX5_number_86 (by decide) rfl (fun h_86 => ?_) (fun h_86 => ?_)
      · refine ev_iload_5 (q := 97) dX5_number_95 rfl ?_
        refine ev_ireturn dX5_number_97 rfl rfl (by constructor <;> omega) ?_
        refine ⟨_, rfl, rfl, ?_⟩
        unfold numE
        by_cases c1 : pat P' = pat P
        · rw [if_pos c1]
          first | omega | exact ⟨rfl, hv, hfail.1, hF.tr hfail.2⟩
        · rw [if_neg c1]
          by_cases c2 : ¬ (lo ≤ v ∧ v ≤ hi) ∧ pbd P' = -1
          · rw [if_pos c2]
            first | omega | (rw [if_pos c2.2] at hrng; exact ⟨rfl, hv, hrng.1, hF.tr hrng.2⟩)
          · rw [if_neg c2]
            first | omega | exact ⟨rfl, hv, hR, hF⟩ | (rw [if_neg (show ¬ pbd P' = -1 from fun q => c2 ⟨by omega, q⟩)] at hrng; exact ⟨rfl, hv, hrng.1, hF.tr hrng.2⟩)
      · refine ev_aload_0 (q := 90) dX5_number_89 rfl ?_
        refine ev_iload_4 (q := 92) dX5_number_90 rfl ?_
        refine ev_callV1v (q := 95) dX5_number_92 vs_RX5_87 (by first | assumption | rfl) (c_X5_failRange (by constructor <;> omega)) (by decide) (Nat.le_of_ble_eq_true rfl) rfl ?_
        refine ev_iload_5 (q := 97) dX5_number_95 rfl ?_
        refine ev_ireturn dX5_number_97 rfl rfl (by constructor <;> omega) ?_
        refine ⟨_, rfl, rfl, ?_⟩
        unfold numE
        by_cases c1 : pat P' = pat P
        · rw [if_pos c1]
          first | omega | exact ⟨rfl, hv, hfail.1, hF.tr hfail.2⟩
        · rw [if_neg c1]
          by_cases c2 : ¬ (lo ≤ v ∧ v ≤ hi) ∧ pbd P' = -1
          · rw [if_pos c2]
            first | omega | (rw [if_pos c2.2] at hrng; exact ⟨rfl, hv, hrng.1, hF.tr hrng.2⟩)
          · rw [if_neg c2]
            first | omega | exact ⟨rfl, hv, hR, hF⟩ | (rw [if_neg (show ¬ pbd P' = -1 from fun q => c2 ⟨by omega, q⟩)] at hrng; exact ⟨rfl, hv, hrng.1, hF.tr hrng.2⟩)
    · refine ev_aload_0 (q := 73) dX5_number_72 rfl ?_
      refine ev_callV0v (q := 76) dX5_number_73 vs_RX5_80 (by first | assumption | rfl) c_X5_failForm (by decide) (Nat.le_of_ble_eq_true rfl) rfl ?_
      refine ev_goto (q := 95) dX5_number_76 (by decide) ?_
      refine ev_iload_5 (q := 97) dX5_number_95 rfl ?_
      refine ev_ireturn dX5_number_97 rfl rfl (by constructor <;> omega) ?_
      refine ⟨_, rfl, rfl, ?_⟩
      unfold numE
      by_cases c1 : pat P' = pat P
      · rw [if_pos c1]
        first | omega | exact ⟨rfl, hv, hfail.1, hF.tr hfail.2⟩
      · rw [if_neg c1]
        by_cases c2 : ¬ (lo ≤ v ∧ v ≤ hi) ∧ pbd P' = -1
        · rw [if_pos c2]
          first | omega | (rw [if_pos c2.2] at hrng; exact ⟨rfl, hv, hrng.1, hF.tr hrng.2⟩)
        · rw [if_neg c2]
          first | omega | exact ⟨rfl, hv, hR, hF⟩ | (rw [if_neg (show ¬ pbd P' = -1 from fun q => c2 ⟨by omega, q⟩)] at hrng; exact ⟨rfl, hv, hrng.1, hF.tr hrng.2⟩)
  intro n
  induction n with
  | zero =>
    intro M' P' v x hx hn hR hF hv hr hm
    have hb := bnd_le d hd
    refine ev_iload_6 (q := 14) dX5_number_12 rfl ?_
    refine ev_iload_1 (q := 15) dX5_number_14 rfl ?_
    refine ev_icmp_ge (t := 63) (q := 18) dX5_number_15 (by decide) rfl (by constructor <;> omega) (by constructor <;> omega) (fun h_15 => ?_) (fun h_15 => ?_)
    · exact K63 M' P' v _ hR hF hv hr hm
    · omega
  | succ n ih =>
    intro M' P' v x hx hn hR hF hv hr hm
    have hb := bnd_le (d - (n + 1)) (by omega)
    have hb2 := bnd_le d hd
    have hcr := cur_rng hR
    have hcf := cur_fr hF P'
    have hnx := fun q => hR.next (q : ccur M' P' ≠ -1)
    obtain ⟨h1, h2, h3, -⟩ := id hR
    have hmono : bnd (d - (n + 1)) ≤ bnd d := by
      have hk : d - (n + 1) ≤ d := by omega
      generalize d - (n + 1) = k at *
      have : ∀ a b : Nat, a ≤ b → b ≤ 3 → bnd a ≤ bnd b := by
        intro a b hab hb3
        have ha3 : a ≤ 3 := by omega
        match a, b, ha3, hb3 with
        | 0, 0, _, _ => decide
        | 0, 1, _, _ => decide
        | 0, 2, _, _ => decide
        | 0, 3, _, _ => decide
        | 1, 1, _, _ => decide
        | 1, 2, _, _ => decide
        | 1, 3, _, _ => decide
        | 2, 2, _, _ => decide
        | 2, 3, _, _ => decide
        | 3, 3, _, _ => decide
        | 1, 0, _, _ => omega
        | 2, 0, _, _ => omega
        | 2, 1, _, _ => omega
        | 3, 0, _, _ => omega
        | 3, 1, _, _ => omega
        | 3, 2, _, _ => omega
      exact this k d hk hd
    have hbs : bnd (d - n) = 10 * bnd (d - (n + 1)) + 9 := by
      rw [show d - n = (d - (n + 1)) + 1 by omega]
      rfl
    unfold numL at hr
    change r = (if 48 ≤ ccur M P' ∧ ccur M P' ≤ 57 then numL (M 94) (M 92 1) n (10 * v + ccur M P' - 48) (pat P' + 1, P'.2) else (v, P')) at hr
    rw [← hcf] at hr
    refine ev_iload_6 (q := 14) dX5_number_12 rfl ?_
    refine ev_iload_1 (q := 15) dX5_number_14 rfl ?_
    refine ev_icmp_ge (t := 63) (q := 18) dX5_number_15 (by decide) rfl (by constructor <;> omega) (by constructor <;> omega) (fun h_15 => ?_) (fun h_15 => ?_)
    · first | omega | exact K63 M' P' v _ hR hF (by omega) (by rw [hr, if_neg (by omega)]) hm
    · refine ev_aload_0 (q := 19) dX5_number_18 rfl ?_
      refine ev_callV0i (q := 22) dX5_number_19 vs_RX5_94 (by first | assumption | rfl) (c_X5_current hR) (by decide) (Nat.le_of_ble_eq_true rfl) rfl (fun h_19 => ?_)
      refine ev_bipush (q := 24) dX5_number_22 rfl (by decide) ?_
      refine ev_bipush (q := 26) dX5_number_24 rfl (by decide) ?_
      refine ev_callS3i (q := 29) dX5_number_26 ss_RX5_98 (c_X7_isWithin (by constructor <;> omega) (by constructor <;> omega) (by constructor <;> omega)) (by decide) (Nat.le_of_ble_eq_true rfl) rfl (fun h_26 => ?_)
      refine ev_b_eq (t := 63) (q := 32) dX5_number_29 (by decide) rfl (fun h_29 => ?_) (fun h_29 => ?_)
      · first | omega | exact K63 M' P' v _ hR hF (by omega) (by rw [hr, if_neg (by omega)]) hm
      · refine ev_bipush (q := 34) dX5_number_32 rfl (by decide) ?_
        refine ev_iload_5 (q := 36) dX5_number_34 rfl ?_
        refine ev_imul (q := 37) dX5_number_36 rfl ?_
        refine ev_aload_0 (q := 38) dX5_number_37 rfl ?_
        refine ev_callV0i (q := 41) dX5_number_38 vs_RX5_94 (by first | assumption | rfl) (c_X5_current hR) (by decide) (Nat.le_of_ble_eq_true rfl) rfl (fun h_38 => ?_)
        refine ev_iadd (q := 42) dX5_number_41 rfl ?_
        refine ev_bipush (q := 44) dX5_number_42 rfl (by decide) ?_
        refine ev_isub (q := 45) dX5_number_44 rfl ?_
        refine ev_istore_5 (q := 47) dX5_number_45 rfl (by decide) ?_
        refine ev_aload_0 (q := 48) dX5_number_47 rfl ?_
        refine ev_dup (q := 49) dX5_number_48 rfl ?_
        refine ev_getI (q := 52) dX5_number_49 fl_RX5_35 (by first | assumption | rfl) (by rfl) rfl (fun h_49 => ?_)
        refine ev_iconst (q := 53) dX5_number_52 rfl ?_
        refine ev_iadd (q := 54) dX5_number_53 rfl ?_
        refine ev_putI (q := 57) dX5_number_54 fl_RX5_35 (by first | assumption | rfl) (by rfl) rfl (by constructor <;> omega) ?_
        refine ev_iinc_6 (q := 60) dX5_number_57 rfl (by decide) ?_
        refine ev_goto (q := 12) dX5_number_60 (by decide) ?_
        have hN := hnx (by omega)
        rw [h1]
        exact ih _ _ _ _ (by omega) (by omega) hN.1 (hF.tr hN.2) (by omega) (by rw [hr, if_pos (by omega)]) ⟨by show pat P ≤ pat P' + 1; omega, fun _ => (cur_pos (show cur (M' 94) (M' 92 1) P' ≠ -1 from by show ccur M' P' ≠ -1; omega)).1⟩
set_option maxHeartbeats 2000000 in
theorem c_X5_number {l : Launch} {M : ev_M} {P : PS} {d : Nat} {x lo hi : Int} (hx : x = (d : Int)) (h : RC M P) (hd : d ≤ 3) (hlo : 0 ≤ lo ∧ lo ≤ 1000) (hhi : -1000 ≤ hi ∧ hi ≤ 1000) : Ri l 2 kX5_number yX5_number S0 M [vr 92, vi x, vi lo, vi hi] (QN M d lo hi P) := by
  have hb := bnd_le d hd
  obtain ⟨h1, h2, h3, -⟩ := id h
  subst hx
  refine Ri.of (by decide) rfl (by decide) (Nat.le_of_ble_eq_true rfl) ?_
  refine (show Ev _ none _ _ _ _ _ 0 [_, _, _, _, _, _, _] [] _ from ?_)
  refine ev_aload_0 (q := 1) dX5_number_0 rfl ?_
  refine ev_getI (q := 4) dX5_number_1 fl_RX5_35 (by first | assumption | rfl) (by rfl) rfl (fun h_1 => ?_)
  refine ev_istore_4 (q := 6) dX5_number_4 rfl (by decide) ?_
  refine ev_iconst (q := 7) dX5_number_6 rfl ?_
  refine ev_istore_5 (q := 9) dX5_number_7 rfl (by decide) ?_
  refine ev_iconst (q := 10) dX5_number_9 rfl ?_
  refine ev_istore_6 (q := 12) dX5_number_10 rfl (by decide) ?_
  rw [h1]
  exact lp_X5_number h hd hlo hhi _ rfl d M P 0 0 (by omega) (Nat.le_refl _) h TFr.rf (by rw [Nat.sub_self]; exact ⟨Int.le_refl _, Int.le_refl _⟩) rfl ⟨Int.le_refl _, fun q => absurd rfl q⟩

