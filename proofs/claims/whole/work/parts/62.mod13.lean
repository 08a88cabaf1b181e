def Sv (v : Vw) (e q : Nat) : Int := (slv v 17 e q).2
section Frm
variable {l : Launch} {M : ev_M} {v : Vw}
theorem Sv_fix {e p : Nat} (h : Wf v) (he : (e : Int) < vel v) (hp : p < 16) : Sv v e p = if gx v e (Tv v e) p = -1 ∧ ¬ cyB v e p ∧ inB p ∧ e ≠ 0 then Sv v (vpar v e).toNat p else if gx v e (Tv v e) p = -1 then -1 else (e : Int) := by
  have := congrArg Prod.snd (slv_fix h he hp)
  show (slv v 17 e p).2 = _
  rw [this, gpr]
  split <;> rename_i hq
  · exact (if_pos hq).symm
  · exact (if_neg hq).symm
theorem Sv_none (h : Wf v) {p : Nat} (hp : p < 16) : ∀ (n e : Nat), e < n → (e : Int) < vel v → Tv v e p = -1 → Sv v e p = -1 := by
  intro n
  induction n with
  | zero => intro e he; omega
  | succ n ih =>
    intro e hen he ht
    have hpar := (h.2.2.1 e he).1
    rw [Tv_fix h he hp] at ht
    rw [Sv_fix h he hp]
    by_cases q : gx v e (Tv v e) p = -1 ∧ ¬ cyB v e p ∧ inB p ∧ e ≠ 0
    · rw [if_pos q] at ht ⊢
      exact ih _ (by omega) (by omega) ht
    · rw [if_neg q] at ht ⊢
      rw [if_pos ht]
set_option maxHeartbeats 2000000 in
theorem lp_from {M1 : ev_M} {e p : Nat} {b : Bool} (hA : Ag (M1 101) v) (hW : Wf v) (he : (e : Int) < vel v) (hp : p < 16) (hq : Mq M M1) (hI : ∀ d' : Nat, d' ≤ e → onp v e d' → ∀ q, q < 16 → GE v d' M1 q) {s : Int} {Rr : Int → ev_M → Prop} (hRr : ∀ y M2, y = (if s = -1 then -14 else s) → Mq M M2 → Rr y M2) (hb : b = true ↔ inB p) : ∀ (n : Nat) (x : Int), (x = -1 ∧ s = -1 ∨ ∃ d : Nat, x = d ∧ d < n ∧ d ≤ e ∧ onp v e d ∧ (p < 8 ∨ Tv v d p ≠ -1) ∧ s = Sv v d p) → Ev l none 9 kX8_from (0, 0) S0 M1 62 [some (vr 100), some (vi (e : Int)), some (vi (p : Int)), some (vi x), some (vi (b01 b))] [] (QI S0 Rr) := by
  have h1 := hW.1
  have hbr := b01_rng b
  have hnone : ∀ w : Int, w = -1 → s = -1 → Ev l none 9 kX8_from (0, 0) S0 M1 62 [some (vr 100), some (vi (e : Int)), some (vi (p : Int)), some (vi w), some (vi (b01 b))] [] (QI S0 Rr) := by
    intro w hw hs
    refine ev_iload_3 (q := 63) dX8_from_62 rfl ?_
    refine ev_iconst (q := 64) dX8_from_63 rfl ?_
    refine ev_icmp_eq (t := 102) (q := 67) dX8_from_64 (by decide) rfl (by constructor <;> omega) (by constructor <;> omega) (fun h_64 => ?_) (fun h_64 => ?_)
    · refine ev_iload_3 (q := 103) dX8_from_102 rfl ?_
      refine ev_iconst (q := 104) dX8_from_103 rfl ?_
      refine ev_icmp_ne (t := 112) (q := 107) dX8_from_104 (by decide) rfl (by constructor <;> omega) (by constructor <;> omega) (fun h_104 => ?_) (fun h_104 => ?_)
      · refine ev_iload_3 (q := 113) dX8_from_112 rfl ?_
        refine ev_ireturn dX8_from_113 rfl rfl (by constructor <;> omega) ?_
        first | omega | exact ⟨_, rfl, rfl, hRr _ _ (by rw [if_pos hs]) hq⟩
      · refine ev_bipush (q := 109) dX8_from_107 rfl (by decide) ?_
        refine ev_goto (q := 113) dX8_from_109 (by decide) ?_
        refine ev_ireturn dX8_from_113 rfl rfl (by constructor <;> omega) ?_
        first | omega | exact ⟨_, rfl, rfl, hRr _ _ (by rw [if_pos hs]) hq⟩
    · omega
  intro n
  induction n with
  | zero =>
    intro x hs
    rcases hs with ⟨h1, h2⟩ | ⟨d, _, hd, _⟩
    · exact hnone x h1 h2
    · omega
  | succ n ih =>
    intro x hs
    rcases hs with ⟨h1, h2⟩ | ⟨d, rfl, hd, hde, hon, hc, hs⟩
    · exact hnone x h1 h2
    · have hdv : (d : Int) < vel v := by omega
      have hpar := (hW.2.2.1 d hdv).1
      have hg := hI d hde hon p hp
      have ei : (16 * (d : Int) + (p : Int)).toNat = 16 * d + p := by omega
      have hsv := Sv_fix hW hdv hp
      have htv := Tv_fix hW hdv hp
      have hnc : gx v d (Tv v d) p = -1 → ¬ cyB v d p := fun q z => by
        have := (GE_cyc hW hdv hp z).1
        rcases hc with c | c
        · omega
        · exact c this
      have hw : Tw v d p = if gx v d (Tv v d) p = -1 then 0 else 1 := rfl
      refine ev_iload_3 (q := 63) dX8_from_62 rfl ?_
      refine ev_iconst (q := 64) dX8_from_63 rfl ?_
      refine ev_icmp_eq (t := 102) (q := 67) dX8_from_64 (by decide) rfl (by constructor <;> omega) (by constructor <;> omega) (fun h_64 => ?_) (fun h_64 => ?_)
      · first
        | omega
        | (have hgx : ¬ gx v d (Tv v d) p = -1 := fun q => by rw [hw, if_pos q] at h_78; exact h_78 rfl
           rw [if_neg (fun q => hgx q.1), if_neg hgx] at hsv
           refine ev_iload_3 (q := 103) dX8_from_102 rfl ?_
           refine ev_iconst (q := 104) dX8_from_103 rfl ?_
           refine ev_icmp_ne (t := 112) (q := 107) dX8_from_104 (by decide) rfl (by constructor <;> omega) (by constructor <;> omega) (fun h_104 => ?_) (fun h_104 => ?_)
           · refine ev_iload_3 (q := 113) dX8_from_112 rfl ?_
             refine ev_ireturn dX8_from_113 rfl rfl (by constructor <;> omega) ?_
             exact ⟨_, rfl, rfl, hRr _ _ (by rw [hs, hsv, if_neg (by omega)]) hq⟩
           · omega)
      · refine ev_aload_0 (q := 68) dX8_from_67 rfl ?_
        refine ev_getR (q := 71) dX8_from_68 fl_RX8_29 (by first | assumption | rfl) (by rfl) rfl ?_
        refine ev_bipush (q := 73) dX8_from_71 rfl (by decide) ?_
        refine ev_iload_3 (q := 74) dX8_from_73 rfl ?_
        refine ev_imul (q := 75) dX8_from_74 rfl ?_
        refine ev_iload_2 (q := 76) dX8_from_75 rfl ?_
        refine ev_iadd (q := 77) dX8_from_76 rfl ?_
        refine ev_baload (q := 78) dX8_from_77 (by first | assumption | rfl) (by omega) (by first | decide | omega) rfl (fun h_77 => ?_)
        rw [ei, hg.2] at h_77 ⊢
        refine ev_if_ne (t := 102) (q := 81) dX8_from_78 (by decide) rfl (by rw [hw]; split <;> (constructor <;> omega)) (fun h_78 => ?_) (fun h_78 => ?_)
        · first
          | omega
          | (have hgx : ¬ gx v d (Tv v d) p = -1 := fun q => by rw [hw, if_pos q] at h_78; exact h_78 rfl
             rw [if_neg (fun q => hgx q.1), if_neg hgx] at hsv
             refine ev_iload_3 (q := 103) dX8_from_102 rfl ?_
             refine ev_iconst (q := 104) dX8_from_103 rfl ?_
             refine ev_icmp_ne (t := 112) (q := 107) dX8_from_104 (by decide) rfl (by constructor <;> omega) (by constructor <;> omega) (fun h_104 => ?_) (fun h_104 => ?_)
             · refine ev_iload_3 (q := 113) dX8_from_112 rfl ?_
               refine ev_ireturn dX8_from_113 rfl rfl (by constructor <;> omega) ?_
               exact ⟨_, rfl, rfl, hRr _ _ (by rw [hs, hsv, if_neg (by omega)]) hq⟩
             · omega)
        · refine ev_iload_4 (q := 83) dX8_from_81 rfl ?_
          refine ev_if_eq (t := 97) (q := 86) dX8_from_83 (by decide) rfl (by constructor <;> omega) (fun h_83 => ?_) (fun h_83 => ?_)
          · refine ev_iconst (q := 98) dX8_from_97 rfl ?_
            refine ev_istore_3 (q := 99) dX8_from_98 rfl (by decide) ?_
            refine ev_goto (q := 62) dX8_from_99 (by decide) ?_
            have hgx : gx v d (Tv v d) p = -1 := Classical.byContradiction (fun q => by rw [hw, if_neg q] at h_78; exact absurd h_78 (by decide))
            first
            | (have hinB : inB p := hb.1 (by cases b with | true => rfl | false => exact absurd rfl h_83)
               by_cases h0 : d = 0
               · have hv1 : vpar v d = -1 := by omega
                 rw [if_neg (fun q => q.2.2.2 h0), if_pos hgx] at hsv
                 exact ih _ (Or.inl ⟨hv1, by rw [hs, hsv]⟩)
               · rw [if_pos ⟨hgx, hnc hgx, hinB, h0⟩] at hsv htv
                 exact ih _ (Or.inr ⟨(vpar v d).toNat, by omega, by omega, by omega, onp_up hW he (by omega) hon (by omega), by rw [← htv]; exact hc, by rw [hs, hsv]⟩))
            | (rw [if_neg (fun q => by
                 have hbt := hb.2 q.2.2.1
                 subst hbt
                 exact absurd h_83 (by decide)), if_pos hgx] at hsv
               exact ih _ (Or.inl ⟨rfl, by rw [hs, hsv]⟩))
          · refine ev_aload_0 (q := 87) dX8_from_86 rfl ?_
            refine ev_getR (q := 90) dX8_from_87 fl_RX8_7 (by first | assumption | rfl) (by rfl) rfl ?_
            refine ev_iconst (q := 91) dX8_from_90 rfl ?_
            refine ev_iload_3 (q := 92) dX8_from_91 rfl ?_
            refine ev_iadd (q := 93) dX8_from_92 rfl ?_
            refine ev_iaload (q := 94) dX8_from_93 (by first | assumption | rfl) (by omega) (by first | decide | omega) rfl (fun h_93 => ?_)
            rw [(hA.2.2.1 (d : Int) (by omega) hdv).1, Int.toNat_natCast] at h_93 ⊢
            refine ev_goto (q := 98) dX8_from_94 (by decide) ?_
            refine ev_istore_3 (q := 99) dX8_from_98 rfl (by decide) ?_
            refine ev_goto (q := 62) dX8_from_99 (by decide) ?_
            have hgx : gx v d (Tv v d) p = -1 := Classical.byContradiction (fun q => by rw [hw, if_neg q] at h_78; exact absurd h_78 (by decide))
            first
            | (have hinB : inB p := hb.1 (by cases b with | true => rfl | false => exact absurd rfl h_83)
               by_cases h0 : d = 0
               · have hv1 : vpar v d = -1 := by omega
                 rw [if_neg (fun q => q.2.2.2 h0), if_pos hgx] at hsv
                 exact ih _ (Or.inl ⟨hv1, by rw [hs, hsv]⟩)
               · rw [if_pos ⟨hgx, hnc hgx, hinB, h0⟩] at hsv htv
                 exact ih _ (Or.inr ⟨(vpar v d).toNat, by omega, by omega, by omega, onp_up hW he (by omega) hon (by omega), by rw [← htv]; exact hc, by rw [hs, hsv]⟩))
            | (rw [if_neg (fun q => by
                 have hbt := hb.2 q.2.2.1
                 subst hbt
                 exact absurd h_83 (by decide)), if_pos hgx] at hsv
               exact ih _ (Or.inl ⟨rfl, by rw [hs, hsv]⟩))
set_option maxHeartbeats 2000000 in
theorem m_from {e p : Int} (hA : Ag (M 101) v) (hW : Wf v) (he : inR e) (hp : inR p) : Ri l 9 kX8_from yX8_from S0 M [vr 100, vi e, vi p] (fun x M2 => ((¬ ((0 ≤ e ∧ e < vel v) ∧ 0 ≤ p ∧ p ≤ 15) ∧ x = -11) ∨ (((0 ≤ e ∧ e < vel v) ∧ 0 ≤ p ∧ p ≤ 15) ∧ x = frV v e.toNat p.toNat)) ∧ Mq M M2) := by
  have h1 := hW.1
  have hn := hA.1
  refine Ri.of (by decide) rfl (by decide) (Nat.le_of_ble_eq_true rfl) ?_
  refine (show Ev _ none _ _ _ _ _ 0 [_, _, _, _, _] [] _ from ?_)
  refine ev_aload_0 (q := 1) dX8_from_0 rfl ?_
  refine ev_iload_1 (q := 2) dX8_from_1 rfl ?_
  refine ev_callV1i (q := 5) dX8_from_2 vs_RX8_47 (by first | assumption | rfl) (c_X8_isElement (by constructor <;> omega) (by omega)) (by decide) (Nat.le_of_ble_eq_true rfl) rfl (fun h_2 => ?_)
  refine ev_b_eq (t := 15) (q := 8) dX8_from_5 (by decide) rfl (fun h_5 => ?_) (fun h_5 => ?_)
  · refine ev_bipush (q := 17) dX8_from_15 rfl (by decide) ?_
    refine ev_ireturn dX8_from_17 rfl rfl (by constructor <;> omega) ?_
    exact ⟨_, rfl, rfl, Or.inl ⟨by omega, rfl⟩, Mq.rfl'⟩
  · refine ev_iload_2 (q := 9) dX8_from_8 rfl ?_
    refine ev_callS1i (q := 12) dX8_from_9 ss_RX8_98 (c_X8_isProperty (by constructor <;> omega)) (by decide) (Nat.le_of_ble_eq_true rfl) rfl (fun h_9 => ?_)
    refine ev_b_ne (t := 18) (q := 15) dX8_from_12 (by decide) rfl (fun h_12 => ?_) (fun h_12 => ?_)
    · obtain ⟨e', rfl⟩ : ∃ e' : Nat, e = e' := ⟨e.toNat, by omega⟩
      obtain ⟨p', rfl⟩ : ∃ p' : Nat, p = p' := ⟨p.toNat, by omega⟩
      refine ev_aload_0 (q := 19) dX8_from_18 rfl ?_
      refine ev_iload_1 (q := 20) dX8_from_19 rfl ?_
      refine ev_callV1vR (q := 23) dX8_from_20 vs_RX8_135 (by first | assumption | rfl) (c_X8_settlesTo hA hW (by omega)) (by decide) (Nat.le_of_ble_eq_true rfl) rfl (fun M_20 hq_20 => ?_)
      refine ev_iload_1 (q := 24) dX8_from_23 rfl ?_
      refine ev_istore_3 (q := 25) dX8_from_24 rfl (by decide) ?_
      refine ev_iload_2 (q := 26) dX8_from_25 rfl ?_
      refine ev_bipush (q := 28) dX8_from_26 rfl (by decide) ?_
      refine ev_icmp_gt (t := 37) (q := 31) dX8_from_28 (by decide) rfl (by constructor <;> omega) (by constructor <;> omega) (fun h_28 => ?_) (fun h_28 => ?_)
      · refine ev_iconst (q := 38) dX8_from_37 rfl ?_
        refine ev_goto (q := 42) dX8_from_38 (by decide) ?_
        have hbi : ∃ b : Bool, (b = true ↔ inB p') ∧ True := ⟨decide (inB p'), decide_eq_true_iff, trivial⟩
        first
        | rw [show vi 1 = vi (b01 (decide (inB p'))) by rw [decide_eq_true (show inB p' by unfold inB; omega)]; rfl]
        | rw [show vi 0 = vi (b01 (decide (inB p'))) by rw [decide_eq_false (show ¬ inB p' by unfold inB; omega)]; rfl]
        refine ev_istore_4 (q := 44) dX8_from_42 rfl (by decide) ?_
        refine ev_aload_0 (q := 45) dX8_from_44 rfl ?_
        refine ev_getR (q := 48) dX8_from_45 fl_RX8_26 (by first | assumption | rfl) (by rfl) rfl ?_
        refine ev_bipush (q := 50) dX8_from_48 rfl (by decide) ?_
        refine ev_iload_3 (q := 51) dX8_from_50 rfl ?_
        refine ev_imul (q := 52) dX8_from_51 rfl ?_
        refine ev_iload_2 (q := 53) dX8_from_52 rfl ?_
        refine ev_iadd (q := 54) dX8_from_53 rfl ?_
        refine ev_iaload (q := 55) dX8_from_54 (by first | assumption | rfl) (by omega) (by first | decide | omega) rfl (fun h_54 => ?_)
        have hg := (hq_20.2 e' (by omega) (stp_self (by omega)) p' (by omega)).1
        rw [show (16 * (e' : Int) + (p' : Int)).toNat = 16 * e' + p' by omega, hg] at h_54 ⊢
        refine ev_iconst (q := 56) dX8_from_55 rfl ?_
        refine ev_icmp_ne (t := 62) (q := 59) dX8_from_56 (by decide) rfl (by constructor <;> omega) (by constructor <;> omega) (fun h_56 => ?_) (fun h_56 => ?_)
        · refine lp_from (M := M) (b := decide (inB p')) (s := Sv v e' p') (hq_20.1.ag hA) hW (by omega) (by omega) hq_20.1 (fun d' hd' ho q hq => hq_20.2 d' (by omega) ho q hq) (fun y M2 y1 y2 => ⟨Or.inr ⟨by omega, by rw [y1, Int.toNat_natCast, Int.toNat_natCast]; rfl⟩, y2⟩) decide_eq_true_iff 17 (e' : Int) (Or.inr ⟨e', rfl, by omega, Nat.le_refl _, stp_self (by omega), ?_, rfl⟩)
          by_cases q8 : p' < 8
          · exact Or.inl q8
          · refine Or.inr (fun q => h_56 ?_)
            rw [nz8 (by omega)]; exact q
        · refine ev_bipush (q := 61) dX8_from_59 rfl (by decide) ?_
          refine ev_ireturn dX8_from_61 rfl rfl (by constructor <;> omega) ?_
          refine ⟨_, rfl, rfl, Or.inr ⟨by omega, ?_⟩, hq_20.1⟩
          have ht : Tv v e' p' = -1 := by
            unfold nz at h_56
            by_cases q : p' < 8 ∧ Tv v e' p' = -1
            · exact q.2
            · rw [if_neg q] at h_56; exact h_56
          have hsn := Sv_none hW (show p' < 16 by omega) (e' + 1) e' (by omega) (by omega) ht
          unfold Sv at hsn
          rw [Int.toNat_natCast, Int.toNat_natCast, frV, if_pos hsn]
      · refine ev_iload_2 (q := 32) dX8_from_31 rfl ?_
        refine ev_iconst (q := 33) dX8_from_32 rfl ?_
        refine ev_irem (q := 34) dX8_from_33 rfl ⟨by constructor <;> omega, by constructor <;> omega, by omega, by omega⟩ ?_
        refine ev_if_ne (t := 41) (q := 37) dX8_from_34 (by decide) rfl (by constructor <;> omega) (fun h_34 => ?_) (fun h_34 => ?_)
        · refine ev_iconst (q := 42) dX8_from_41 rfl ?_
          have hbi : ∃ b : Bool, (b = true ↔ inB p') ∧ True := ⟨decide (inB p'), decide_eq_true_iff, trivial⟩
          first
          | rw [show vi 1 = vi (b01 (decide (inB p'))) by rw [decide_eq_true (show inB p' by unfold inB; omega)]; rfl]
          | rw [show vi 0 = vi (b01 (decide (inB p'))) by rw [decide_eq_false (show ¬ inB p' by unfold inB; omega)]; rfl]
          refine ev_istore_4 (q := 44) dX8_from_42 rfl (by decide) ?_
          refine ev_aload_0 (q := 45) dX8_from_44 rfl ?_
          refine ev_getR (q := 48) dX8_from_45 fl_RX8_26 (by first | assumption | rfl) (by rfl) rfl ?_
          refine ev_bipush (q := 50) dX8_from_48 rfl (by decide) ?_
          refine ev_iload_3 (q := 51) dX8_from_50 rfl ?_
          refine ev_imul (q := 52) dX8_from_51 rfl ?_
          refine ev_iload_2 (q := 53) dX8_from_52 rfl ?_
          refine ev_iadd (q := 54) dX8_from_53 rfl ?_
          refine ev_iaload (q := 55) dX8_from_54 (by first | assumption | rfl) (by omega) (by first | decide | omega) rfl (fun h_54 => ?_)
          have hg := (hq_20.2 e' (by omega) (stp_self (by omega)) p' (by omega)).1
          rw [show (16 * (e' : Int) + (p' : Int)).toNat = 16 * e' + p' by omega, hg] at h_54 ⊢
          refine ev_iconst (q := 56) dX8_from_55 rfl ?_
          refine ev_icmp_ne (t := 62) (q := 59) dX8_from_56 (by decide) rfl (by constructor <;> omega) (by constructor <;> omega) (fun h_56 => ?_) (fun h_56 => ?_)
          · refine lp_from (M := M) (b := decide (inB p')) (s := Sv v e' p') (hq_20.1.ag hA) hW (by omega) (by omega) hq_20.1 (fun d' hd' ho q hq => hq_20.2 d' (by omega) ho q hq) (fun y M2 y1 y2 => ⟨Or.inr ⟨by omega, by rw [y1, Int.toNat_natCast, Int.toNat_natCast]; rfl⟩, y2⟩) decide_eq_true_iff 17 (e' : Int) (Or.inr ⟨e', rfl, by omega, Nat.le_refl _, stp_self (by omega), ?_, rfl⟩)
            by_cases q8 : p' < 8
            · exact Or.inl q8
            · refine Or.inr (fun q => h_56 ?_)
              rw [nz8 (by omega)]; exact q
          · refine ev_bipush (q := 61) dX8_from_59 rfl (by decide) ?_
            refine ev_ireturn dX8_from_61 rfl rfl (by constructor <;> omega) ?_
            refine ⟨_, rfl, rfl, Or.inr ⟨by omega, ?_⟩, hq_20.1⟩
            have ht : Tv v e' p' = -1 := by
              unfold nz at h_56
              by_cases q : p' < 8 ∧ Tv v e' p' = -1
              · exact q.2
              · rw [if_neg q] at h_56; exact h_56
            have hsn := Sv_none hW (show p' < 16 by omega) (e' + 1) e' (by omega) (by omega) ht
            unfold Sv at hsn
            rw [Int.toNat_natCast, Int.toNat_natCast, frV, if_pos hsn]
        · refine ev_iconst (q := 38) dX8_from_37 rfl ?_
          refine ev_goto (q := 42) dX8_from_38 (by decide) ?_
          have hbi : ∃ b : Bool, (b = true ↔ inB p') ∧ True := ⟨decide (inB p'), decide_eq_true_iff, trivial⟩
          first
          | rw [show vi 1 = vi (b01 (decide (inB p'))) by rw [decide_eq_true (show inB p' by unfold inB; omega)]; rfl]
          | rw [show vi 0 = vi (b01 (decide (inB p'))) by rw [decide_eq_false (show ¬ inB p' by unfold inB; omega)]; rfl]
          refine ev_istore_4 (q := 44) dX8_from_42 rfl (by decide) ?_
          refine ev_aload_0 (q := 45) dX8_from_44 rfl ?_
          refine ev_getR (q := 48) dX8_from_45 fl_RX8_26 (by first | assumption | rfl) (by rfl) rfl ?_
          refine ev_bipush (q := 50) dX8_from_48 rfl (by decide) ?_
          refine ev_iload_3 (q := 51) dX8_from_50 rfl ?_
          refine ev_imul (q := 52) dX8_from_51 rfl ?_
          refine ev_iload_2 (q := 53) dX8_from_52 rfl ?_
          refine ev_iadd (q := 54) dX8_from_53 rfl ?_
          refine ev_iaload (q := 55) dX8_from_54 (by first | assumption | rfl) (by omega) (by first | decide | omega) rfl (fun h_54 => ?_)
          have hg := (hq_20.2 e' (by omega) (stp_self (by omega)) p' (by omega)).1
          rw [show (16 * (e' : Int) + (p' : Int)).toNat = 16 * e' + p' by omega, hg] at h_54 ⊢
          refine ev_iconst (q := 56) dX8_from_55 rfl ?_
          refine ev_icmp_ne (t := 62) (q := 59) dX8_from_56 (by decide) rfl (by constructor <;> omega) (by constructor <;> omega) (fun h_56 => ?_) (fun h_56 => ?_)
          · refine lp_from (M := M) (b := decide (inB p')) (s := Sv v e' p') (hq_20.1.ag hA) hW (by omega) (by omega) hq_20.1 (fun d' hd' ho q hq => hq_20.2 d' (by omega) ho q hq) (fun y M2 y1 y2 => ⟨Or.inr ⟨by omega, by rw [y1, Int.toNat_natCast, Int.toNat_natCast]; rfl⟩, y2⟩) decide_eq_true_iff 17 (e' : Int) (Or.inr ⟨e', rfl, by omega, Nat.le_refl _, stp_self (by omega), ?_, rfl⟩)
            by_cases q8 : p' < 8
            · exact Or.inl q8
            · refine Or.inr (fun q => h_56 ?_)
              rw [nz8 (by omega)]; exact q
          · refine ev_bipush (q := 61) dX8_from_59 rfl (by decide) ?_
            refine ev_ireturn dX8_from_61 rfl rfl (by constructor <;> omega) ?_
            refine ⟨_, rfl, rfl, Or.inr ⟨by omega, ?_⟩, hq_20.1⟩
            have ht : Tv v e' p' = -1 := by
              unfold nz at h_56
              by_cases q : p' < 8 ∧ Tv v e' p' = -1
              · exact q.2
              · rw [if_neg q] at h_56; exact h_56
            have hsn := Sv_none hW (show p' < 16 by omega) (e' + 1) e' (by omega) (by omega) ht
            unfold Sv at hsn
            rw [Int.toNat_natCast, Int.toNat_natCast, frV, if_pos hsn]
    · refine ev_bipush (q := 17) dX8_from_15 rfl (by decide) ?_
      refine ev_ireturn dX8_from_17 rfl rfl (by constructor <;> omega) ?_
      exact ⟨_, rfl, rfl, Or.inl ⟨by omega, rfl⟩, Mq.rfl'⟩
end Frm

