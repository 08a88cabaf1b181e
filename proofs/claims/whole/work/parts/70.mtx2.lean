section Mn
variable {l : Launch} {M0 M : ev_M} {t : Nat → Int} {len : Int} {P : PS}
theorem ps_w {b : Bool} (h : pwr P = b) : (pat P, b, P.2.2) = P := by rw [← h]
theorem MB.at {x : Int} (h : MB M0 t len M P) (hx : 0 ≤ x ∧ x ≤ len) : MB M0 t len (up M 100 5 x) (x, P.2) := ⟨h.1.at hx, h.2.up5 (by decide) (by decide)⟩
theorem MB.wr {b : Bool} (h : MB M0 t len M P) : MB M0 t len (up M 100 7 (b01 b)) (pat P, b, P.2.2) := ⟨h.1.wr, h.2.up5 (by decide) (by decide)⟩
theorem MB.bd {x : Int} (h : MB M0 t len M P) (hx : -1 ≤ x ∧ x ≤ 80) : MB M0 t len (up M 100 6 x) (pat P, pwr P, x, psd P) := ⟨h.1.bd hx, h.2.up5 (by decide) (by decide)⟩
set_option maxHeartbeats 2000000 in
theorem q_wants {c : Int} (h : MB M0 t len M P) (hc : 0 ≤ c ∧ c < 1000) : Rv l 1 kX8_wants yX8_wants S0 M [vr 100, vi c] (fun M2 => MB M0 t len M2 (demS t len c P)) := by
  have h2 := h.1.2.1
  refine Rv.of (by decide) rfl (by decide) (Nat.le_of_ble_eq_true rfl) ?_
  refine (show Ev _ none _ _ _ _ _ 0 [_, _] [] _ from ?_)
  refine ev_aload_0 (q := 1) dX8_wants_0 rfl ?_
  refine ev_aload_0 (q := 2) dX8_wants_1 rfl ?_
  refine ev_getI (q := 5) dX8_wants_2 fl_RX8_138 (by first | assumption | rfl) (by rfl) rfl (fun h_2 => ?_)
  refine ev_if_ne (t := 16) (q := 8) dX8_wants_5 (by decide) rfl (by constructor <;> omega) (fun h_5 => ?_) (fun h_5 => ?_)
  · refine ev_iconst (q := 17) dX8_wants_16 rfl ?_
    refine ev_goto (q := 21) dX8_wants_17 (by decide) ?_
    refine ev_putZ (q := 24) dX8_wants_21 fl_RX8_138 (by first | assumption | rfl) (by rfl) rfl (by first | exact Or.inl rfl | exact Or.inr rfl | omega) ?_
    refine ev_return dX8_wants_24 rfl ?_
    refine ⟨rfl, rfl, ?_⟩
    first
    | (have hw : pwr P = true := Bool.of_not_eq_false (fun q => h_5 (by rw [h2]; exact b01_t.2 q))
       rw [demS, if_neg (show ¬ cur t len P = c by rw [cur_w hw]; omega)]
       exact h.wr (b := true))
    | (have hcc : cur t len P = c := Classical.byContradiction (fun q => h_13 (by rw [e1, if_neg q]))
       have hw := (cur_pos (t := t) (len := len) (P := P) (by omega)).1
       rw [accS, if_pos hcc] at e2
       rw [demS, if_pos hcc]
       have e3 := e2.wr (b := false)
       rw [show (pat (pat P + 1, P.2), false, (pat P + 1, P.2).2.2) = (pat P + 1, P.2) from Prod.ext rfl (Prod.ext hw.symm rfl)] at e3
       exact e3)
    | (have hcc : ¬ cur t len P = c := fun q => by rw [e1, if_pos q] at h_13; exact absurd h_13 (by decide)
       rw [accS, if_neg hcc] at e2
       rw [demS, if_neg hcc]
       exact e2.wr (b := true))
  · refine ev_aload_0 (q := 9) dX8_wants_8 rfl ?_
    refine ev_iload_1 (q := 10) dX8_wants_9 rfl ?_
    refine ev_callV1iR (q := 13) dX8_wants_10 vs_RX8_145 (by first | assumption | rfl) (q_passes h hc) (by decide) (Nat.le_of_ble_eq_true rfl) rfl (fun x_10 M_10 hq_10 h_10 => ?_)
    obtain ⟨e1, e2⟩ := hq_10
    refine ev_if_ne (t := 20) (q := 16) dX8_wants_13 (by decide) rfl (by constructor <;> omega) (fun h_13 => ?_) (fun h_13 => ?_)
    · refine ev_iconst (q := 21) dX8_wants_20 rfl ?_
      refine ev_putZ (q := 24) dX8_wants_21 fl_RX8_138 (by first | assumption | rfl) (by rfl) rfl (by first | exact Or.inl rfl | exact Or.inr rfl | omega) ?_
      refine ev_return dX8_wants_24 rfl ?_
      refine ⟨rfl, rfl, ?_⟩
      first
      | (have hw : pwr P = true := Bool.of_not_eq_false (fun q => h_5 (by rw [h2]; exact b01_t.2 q))
         rw [demS, if_neg (show ¬ cur t len P = c by rw [cur_w hw]; omega)]
         exact h.wr (b := true))
      | (have hcc : cur t len P = c := Classical.byContradiction (fun q => h_13 (by rw [e1, if_neg q]))
         have hw := (cur_pos (t := t) (len := len) (P := P) (by omega)).1
         rw [accS, if_pos hcc] at e2
         rw [demS, if_pos hcc]
         have e3 := e2.wr (b := false)
         rw [show (pat (pat P + 1, P.2), false, (pat P + 1, P.2).2.2) = (pat P + 1, P.2) from Prod.ext rfl (Prod.ext hw.symm rfl)] at e3
         exact e3)
      | (have hcc : ¬ cur t len P = c := fun q => by rw [e1, if_pos q] at h_13; exact absurd h_13 (by decide)
         rw [accS, if_neg hcc] at e2
         rw [demS, if_neg hcc]
         exact e2.wr (b := true))
    · refine ev_iconst (q := 17) dX8_wants_16 rfl ?_
      refine ev_goto (q := 21) dX8_wants_17 (by decide) ?_
      refine ev_putZ (q := 24) dX8_wants_21 fl_RX8_138 (by first | assumption | rfl) (by rfl) rfl (by first | exact Or.inl rfl | exact Or.inr rfl | omega) ?_
      refine ev_return dX8_wants_24 rfl ?_
      refine ⟨rfl, rfl, ?_⟩
      first
      | (have hw : pwr P = true := Bool.of_not_eq_false (fun q => h_5 (by rw [h2]; exact b01_t.2 q))
         rw [demS, if_neg (show ¬ cur t len P = c by rw [cur_w hw]; omega)]
         exact h.wr (b := true))
      | (have hcc : cur t len P = c := Classical.byContradiction (fun q => h_13 (by rw [e1, if_neg q]))
         have hw := (cur_pos (t := t) (len := len) (P := P) (by omega)).1
         rw [accS, if_pos hcc] at e2
         rw [demS, if_pos hcc]
         have e3 := e2.wr (b := false)
         rw [show (pat (pat P + 1, P.2), false, (pat P + 1, P.2).2.2) = (pat P + 1, P.2) from Prod.ext rfl (Prod.ext hw.symm rfl)] at e3
         exact e3)
      | (have hcc : ¬ cur t len P = c := fun q => by rw [e1, if_pos q] at h_13; exact absurd h_13 (by decide)
         rw [accS, if_neg hcc] at e2
         rw [demS, if_neg hcc]
         exact e2.wr (b := true))
theorem numL_w (hw : pwr P = true) (n : Nat) (v : Int) : numL t len n v P = (v, P) := by
  cases n with
  | zero => rfl
  | succ n => unfold numL; rw [if_neg (by rw [cur_w hw]; omega)]
set_option maxHeartbeats 4000000 in
theorem t_num90 {d lo hi : Int} {r : Int × PS} (hlo : inR lo) (hhi : inR hi) (hv : 0 ≤ r.1 ∧ r.1 ≤ 999) (hP : 0 ≤ pat P ∧ pat P ≤ 80) (h : MB M0 t len M r.2) (hm : pat P ≤ pat r.2) (hw : pwr r.2 = true → pat r.2 = pat P) : Ev l none 1 kX8_number (0, 0) S0 M 90 [some (vr 100), some (vi d), some (vi lo), some (vi hi), some (vi (pat P)), some (vi r.1)] [] (QI S0 (fun x M2 => x = r.1 ∧ MB M0 t len M2 (numE lo hi P r).2)) := by
  obtain ⟨h1, h2, h3, h4, h5, h6, h7, h8, h9⟩ := id h.1
  have hb := b01_rng (pwr r.2)
  have K : ∀ (b : Bool) (M1 : ev_M), (b = true ↔ pat r.2 = pat P) → MB M0 t len M1 (pat r.2, b, r.2.2.2) → Ev l none 1 kX8_number (0, 0) S0 M1 115 [some (vr 100), some (vi d), some (vi lo), some (vi hi), some (vi (pat P)), some (vi r.1)] [] (QI S0 (fun x M2 => x = r.1 ∧ MB M0 t len M2 (numE lo hi P r).2)) := by
    intro b M1 hbb hm1
    have g2 : M1 100 7 = b01 b := hm1.1.2.1
    have g3 : M1 100 6 = pbd r.2 := hm1.1.2.2.1
    have hbr := b01_rng b
    have hkeep : ∀ y : Int, y = (if ¬ pat r.2 = pat P ∧ (¬ (lo ≤ r.1 ∧ r.1 ≤ hi) ∧ pbd r.2 = -1) then pat P else pbd r.2) → Ev l none 1 kX8_number (0, 0) S0 (up M1 100 6 y) 153 [some (vr 100), some (vi d), some (vi lo), some (vi hi), some (vi (pat P)), some (vi r.1)] [] (QI S0 (fun x M2 => x = r.1 ∧ MB M0 t len M2 (numE lo hi P r).2)) := by
      intro y hy
      have hyr : -1 ≤ y ∧ y ≤ 80 := by rw [hy]; split <;> omega
      have e3 := hm1.bd hyr
      refine ev_iload_5 (q := 155) dX8_number_153 rfl ?_
      refine ev_ireturn dX8_number_155 rfl rfl (by constructor <;> omega) ?_
      refine ⟨_, rfl, rfl, rfl, ?_⟩
      unfold numE
      by_cases c1 : pat r.2 = pat P
      · rw [if_pos c1]
        rw [if_neg (fun q => q.1 c1)] at hy
        subst hy
        rw [hbb.2 c1] at e3
        exact e3
      · rw [if_neg c1]
        have hbf : b = false := Bool.eq_false_iff.2 (fun q => c1 (hbb.1 q))
        have hwf : pwr r.2 = false := Bool.eq_false_iff.2 (fun q => c1 (hw q))
        rw [hbf] at e3
        by_cases c2 : ¬ (lo ≤ r.1 ∧ r.1 ≤ hi) ∧ pbd r.2 = -1
        · rw [if_pos c2]
          rw [if_pos ⟨c1, c2⟩] at hy
          subst hy
          rw [hwf]
          exact e3
        · rw [if_neg c2]
          rw [if_neg (fun q => c2 q.2)] at hy
          subst hy
          rw [show r.2 = (pat r.2, false, pbd r.2, psd r.2) from Prod.ext rfl (Prod.ext hwf rfl)]
          exact e3
    refine ev_aload_0 (q := 116) dX8_number_115 rfl ?_
    refine ev_aload_0 (q := 117) dX8_number_116 rfl ?_
    refine ev_getI (q := 120) dX8_number_117 fl_RX8_138 (by first | assumption | rfl) (by rfl) rfl (fun h_117 => ?_)
    rw [g2] at h_117 ⊢
    refine ev_if_ne (t := 146) (q := 123) dX8_number_120 (by decide) rfl (by constructor <;> omega) (fun h_120 => ?_) (fun h_120 => ?_)
    · refine ev_aload_0 (q := 147) dX8_number_146 rfl ?_
      refine ev_getI (q := 150) dX8_number_147 fl_RX8_149 (by first | assumption | rfl) (by rfl) rfl (fun h_147 => ?_)
      first | (rw [g3] at h_147 ⊢) | skip
      refine ev_putI (q := 153) dX8_number_150 fl_RX8_149 (by first | assumption | rfl) (by rfl) rfl (by constructor <;> omega) ?_
      refine hkeep _ ?_
      first
      | (rw [if_neg (fun q => q.1 (hbb.1 (Bool.of_not_eq_false (fun z => h_120 (b01_t.2 z)))))]; done)
      | (rw [if_neg (fun q => h_128 q.2.2)]; done)
      | (rw [if_neg (fun q => q.2.1 h_138)]; done)
      | (rw [if_pos ⟨fun q => by have := hbb.2 q; rw [this] at h_120; exact absurd h_120 (by decide), h_138, h_128⟩])
    · refine ev_aload_0 (q := 124) dX8_number_123 rfl ?_
      refine ev_getI (q := 127) dX8_number_124 fl_RX8_149 (by first | assumption | rfl) (by rfl) rfl (fun h_124 => ?_)
      rw [g3] at h_124 ⊢
      refine ev_iconst (q := 128) dX8_number_127 rfl ?_
      refine ev_icmp_ne (t := 146) (q := 131) dX8_number_128 (by decide) rfl (by constructor <;> omega) (by constructor <;> omega) (fun h_128 => ?_) (fun h_128 => ?_)
      · refine ev_aload_0 (q := 147) dX8_number_146 rfl ?_
        refine ev_getI (q := 150) dX8_number_147 fl_RX8_149 (by first | assumption | rfl) (by rfl) rfl (fun h_147 => ?_)
        first | (rw [g3] at h_147 ⊢) | skip
        refine ev_putI (q := 153) dX8_number_150 fl_RX8_149 (by first | assumption | rfl) (by rfl) rfl (by constructor <;> omega) ?_
        refine hkeep _ ?_
        first
        | (rw [if_neg (fun q => q.1 (hbb.1 (Bool.of_not_eq_false (fun z => h_120 (b01_t.2 z)))))]; done)
        | (rw [if_neg (fun q => h_128 q.2.2)]; done)
        | (rw [if_neg (fun q => q.2.1 h_138)]; done)
        | (rw [if_pos ⟨fun q => by have := hbb.2 q; rw [this] at h_120; exact absurd h_120 (by decide), h_138, h_128⟩])
      · refine ev_iload_5 (q := 133) dX8_number_131 rfl ?_
        refine ev_iload_2 (q := 134) dX8_number_133 rfl ?_
        refine ev_iload_3 (q := 135) dX8_number_134 rfl ?_
        refine ev_callS3i (q := 138) dX8_number_135 ss_RX8_39 (c_X8_in (by constructor <;> omega) (by constructor <;> omega) (by constructor <;> omega)) (by decide) (Nat.le_of_ble_eq_true rfl) rfl (fun h_135 => ?_)
        refine ev_b_ne (t := 146) (q := 141) dX8_number_138 (by decide) rfl (fun h_138 => ?_) (fun h_138 => ?_)
        · refine ev_aload_0 (q := 147) dX8_number_146 rfl ?_
          refine ev_getI (q := 150) dX8_number_147 fl_RX8_149 (by first | assumption | rfl) (by rfl) rfl (fun h_147 => ?_)
          first | (rw [g3] at h_147 ⊢) | skip
          refine ev_putI (q := 153) dX8_number_150 fl_RX8_149 (by first | assumption | rfl) (by rfl) rfl (by constructor <;> omega) ?_
          refine hkeep _ ?_
          first
          | (rw [if_neg (fun q => q.1 (hbb.1 (Bool.of_not_eq_false (fun z => h_120 (b01_t.2 z)))))]; done)
          | (rw [if_neg (fun q => h_128 q.2.2)]; done)
          | (rw [if_neg (fun q => q.2.1 h_138)]; done)
          | (rw [if_pos ⟨fun q => by have := hbb.2 q; rw [this] at h_120; exact absurd h_120 (by decide), h_138, h_128⟩])
        · refine ev_iload_4 (q := 143) dX8_number_141 rfl ?_
          refine ev_goto (q := 150) dX8_number_143 (by decide) ?_
          first | (rw [g3] at h_147 ⊢) | skip
          refine ev_putI (q := 153) dX8_number_150 fl_RX8_149 (by first | assumption | rfl) (by rfl) rfl (by constructor <;> omega) ?_
          refine hkeep _ ?_
          first
          | (rw [if_neg (fun q => q.1 (hbb.1 (Bool.of_not_eq_false (fun z => h_120 (b01_t.2 z)))))]; done)
          | (rw [if_neg (fun q => h_128 q.2.2)]; done)
          | (rw [if_neg (fun q => q.2.1 h_138)]; done)
          | (rw [if_pos ⟨fun q => by have := hbb.2 q; rw [this] at h_120; exact absurd h_120 (by decide), h_138, h_128⟩])
  refine ev_aload_0 (q := 91) dX8_number_90 rfl ?_
  refine ev_aload_0 (q := 92) dX8_number_91 rfl ?_
  refine ev_getI (q := 95) dX8_number_92 fl_RX8_138 (by first | assumption | rfl) (by rfl) rfl (fun h_92 => ?_)
  refine ev_if_ne (t := 107) (q := 98) dX8_number_95 (by decide) rfl (by constructor <;> omega) (fun h_95 => ?_) (fun h_95 => ?_)
  · refine ev_iconst (q := 108) dX8_number_107 rfl ?_
    refine ev_goto (q := 112) dX8_number_108 (by decide) ?_
    refine ev_putZ (q := 115) dX8_number_112 fl_RX8_138 (by first | assumption | rfl) (by rfl) rfl (by first | exact Or.inl rfl | exact Or.inr rfl | omega) ?_
    first
    | exact K true _ ⟨fun _ => hw (Bool.of_not_eq_false (fun q => h_95 (by rw [h2]; exact b01_t.2 q))), fun _ => rfl⟩ (h.wr (b := true))
    | exact K true _ ⟨fun _ => h_104, fun _ => rfl⟩ (h.wr (b := true))
    | exact K false _ ⟨fun q => absurd q (by decide), fun q => absurd q h_104⟩ (h.wr (b := false))
  · refine ev_aload_0 (q := 99) dX8_number_98 rfl ?_
    refine ev_getI (q := 102) dX8_number_99 fl_RX8_142 (by first | assumption | rfl) (by rfl) rfl (fun h_99 => ?_)
    rw [h1] at h_99 ⊢
    refine ev_iload_4 (q := 104) dX8_number_102 rfl ?_
    refine ev_icmp_ne (t := 111) (q := 107) dX8_number_104 (by decide) rfl (by constructor <;> omega) (by constructor <;> omega) (fun h_104 => ?_) (fun h_104 => ?_)
    · refine ev_iconst (q := 112) dX8_number_111 rfl ?_
      refine ev_putZ (q := 115) dX8_number_112 fl_RX8_138 (by first | assumption | rfl) (by rfl) rfl (by first | exact Or.inl rfl | exact Or.inr rfl | omega) ?_
      first
      | exact K true _ ⟨fun _ => hw (Bool.of_not_eq_false (fun q => h_95 (by rw [h2]; exact b01_t.2 q))), fun _ => rfl⟩ (h.wr (b := true))
      | exact K true _ ⟨fun _ => h_104, fun _ => rfl⟩ (h.wr (b := true))
      | exact K false _ ⟨fun q => absurd q (by decide), fun q => absurd q h_104⟩ (h.wr (b := false))
    · refine ev_iconst (q := 108) dX8_number_107 rfl ?_
      refine ev_goto (q := 112) dX8_number_108 (by decide) ?_
      refine ev_putZ (q := 115) dX8_number_112 fl_RX8_138 (by first | assumption | rfl) (by rfl) rfl (by first | exact Or.inl rfl | exact Or.inr rfl | omega) ?_
      first
      | exact K true _ ⟨fun _ => hw (Bool.of_not_eq_false (fun q => h_95 (by rw [h2]; exact b01_t.2 q))), fun _ => rfl⟩ (h.wr (b := true))
      | exact K true _ ⟨fun _ => h_104, fun _ => rfl⟩ (h.wr (b := true))
      | exact K false _ ⟨fun q => absurd q (by decide), fun q => absurd q h_104⟩ (h.wr (b := false))
theorem bnd_mon : ∀ a b : Fin 4, a.val ≤ b.val → bnd a.val ≤ bnd b.val := by decide
set_option maxHeartbeats 4000000 in
theorem lp_number {d : Nat} {lo hi : Int} {r : Int × PS} {Rr : Int → ev_M → Prop} (hd : d ≤ 3) (hP : 0 ≤ pat P ∧ pat P ≤ 80) (K : ∀ M1 : ev_M, MB M0 t len M1 r.2 → 0 ≤ r.1 ∧ r.1 ≤ bnd d → Ev l none 1 kX8_number (0, 0) S0 M1 90 [some (vr 100), some (vi (d : Int)), some (vi lo), some (vi hi), some (vi (pat P)), some (vi r.1)] [] (QI S0 Rr)) : ∀ (n : Nat) (M1 : ev_M) (P' : PS) (v : Int), n ≤ d → pat P' = pat P + (d - n : Nat) → MB M0 t len M1 P' → (0 ≤ v ∧ v ≤ bnd (d - n)) → r = numL t len n v P' → Ev l none 1 kX8_number (0, 0) S0 M1 9 [some (vr 100), some (vi (d : Int)), some (vi lo), some (vi hi), some (vi (pat P)), some (vi v)] [] (QI S0 Rr) := by
  have hend : ∀ (n : Nat) (M1 : ev_M) (P' : PS) (v : Int), n ≤ d → MB M0 t len M1 P' → (0 ≤ v ∧ v ≤ bnd (d - n)) → r = (v, P') → Ev l none 1 kX8_number (0, 0) S0 M1 90 [some (vr 100), some (vi (d : Int)), some (vi lo), some (vi hi), some (vi (pat P)), some (vi v)] [] (QI S0 Rr) := by
    intro n M1 P' v hn h hv hr
    subst hr
    refine K M1 h ⟨hv.1, ?_⟩
    exact Int.le_trans hv.2 (bnd_mon ⟨d - n, by omega⟩ ⟨d, by omega⟩ (Nat.sub_le _ _))
  intro n
  induction n with
  | zero =>
    intro M1 P' v hn hp h hv hr
    obtain ⟨h1, h2, h3, h4, h5, h6, h7, h8, h9⟩ := id h.1
    refine ev_aload_0 (q := 10) dX8_number_9 rfl ?_
    refine ev_getI (q := 13) dX8_number_10 fl_RX8_138 (by first | assumption | rfl) (by rfl) rfl (fun h_10 => ?_)
    refine ev_if_ne (t := 90) (q := 16) dX8_number_13 (by decide) rfl (by constructor <;> omega) (fun h_13 => ?_) (fun h_13 => ?_)
    · exact hend 0 M1 P' v hn h hv hr
    · refine ev_aload_0 (q := 17) dX8_number_16 rfl ?_
      refine ev_getI (q := 20) dX8_number_17 fl_RX8_142 (by first | assumption | rfl) (by rfl) rfl (fun h_17 => ?_)
      refine ev_aload_0 (q := 21) dX8_number_20 rfl ?_
      refine ev_getI (q := 24) dX8_number_21 fl_RX8_85 (by first | assumption | rfl) (by rfl) rfl (fun h_21 => ?_)
      rw [h7] at h_21 ⊢
      refine ev_icmp_ge (t := 90) (q := 27) dX8_number_24 (by decide) rfl (by constructor <;> omega) (by constructor <;> omega) (fun h_24 => ?_) (fun h_24 => ?_)
      · exact hend 0 M1 P' v hn h hv hr
      · refine ev_aload_0 (q := 28) dX8_number_27 rfl ?_
        refine ev_getI (q := 31) dX8_number_28 fl_RX8_142 (by first | assumption | rfl) (by rfl) rfl (fun h_28 => ?_)
        rw [h1] at h_28 ⊢
        refine ev_iload_4 (q := 33) dX8_number_31 rfl ?_
        refine ev_iload_1 (q := 34) dX8_number_33 rfl ?_
        refine ev_iadd (q := 35) dX8_number_34 rfl ?_
        refine ev_icmp_ge (t := 90) (q := 38) dX8_number_35 (by decide) rfl (by constructor <;> omega) (by constructor <;> omega) (fun h_35 => ?_) (fun h_35 => ?_)
        · exact hend 0 M1 P' v hn h hv hr
        · omega
  | succ n ih =>
    intro M1 P' v hn hp h hv hr
    obtain ⟨h1, h2, h3, h4, h5, h6, h7, h8, h9⟩ := id h.1
    have hcu := h.1.ccu
    have hbd := bnd_le (d - (n + 1)) (by omega)
    have hb2 : bnd (d - n) = 10 * bnd (d - (n + 1)) + 9 := by rw [show d - n = (d - (n + 1)) + 1 by omega]; rfl
    have hno : ¬ (48 ≤ cur t len P' ∧ cur t len P' ≤ 57) → r = (v, P') := fun q => by rw [hr, numL, if_neg q]
    refine ev_aload_0 (q := 10) dX8_number_9 rfl ?_
    refine ev_getI (q := 13) dX8_number_10 fl_RX8_138 (by first | assumption | rfl) (by rfl) rfl (fun h_10 => ?_)
    refine ev_if_ne (t := 90) (q := 16) dX8_number_13 (by decide) rfl (by constructor <;> omega) (fun h_13 => ?_) (fun h_13 => ?_)
    · refine hend (n + 1) M1 P' v hn h hv (hno (fun q => ?_))
      first
      | omega
      | (rw [hcu, if_neg (fun z => h_13 (by rw [h2]; exact b01_t.2 z.1))] at q; omega)
      | (rw [hcu, if_neg (fun z => absurd z.2 (by omega))] at q; omega)
      | (rw [hcu, if_pos ⟨b01_t.1 (by omega), by omega⟩] at q; exact h_54 q)
    · refine ev_aload_0 (q := 17) dX8_number_16 rfl ?_
      refine ev_getI (q := 20) dX8_number_17 fl_RX8_142 (by first | assumption | rfl) (by rfl) rfl (fun h_17 => ?_)
      rw [h1] at h_17 ⊢
      refine ev_aload_0 (q := 21) dX8_number_20 rfl ?_
      refine ev_getI (q := 24) dX8_number_21 fl_RX8_85 (by first | assumption | rfl) (by rfl) rfl (fun h_21 => ?_)
      rw [h7] at h_21 ⊢
      refine ev_icmp_ge (t := 90) (q := 27) dX8_number_24 (by decide) rfl (by constructor <;> omega) (by constructor <;> omega) (fun h_24 => ?_) (fun h_24 => ?_)
      · refine hend (n + 1) M1 P' v hn h hv (hno (fun q => ?_))
        first
        | omega
        | (rw [hcu, if_neg (fun z => h_13 (by rw [h2]; exact b01_t.2 z.1))] at q; omega)
        | (rw [hcu, if_neg (fun z => absurd z.2 (by omega))] at q; omega)
        | (rw [hcu, if_pos ⟨b01_t.1 (by omega), by omega⟩] at q; exact h_54 q)
      · refine ev_aload_0 (q := 28) dX8_number_27 rfl ?_
        refine ev_getI (q := 31) dX8_number_28 fl_RX8_142 (by first | assumption | rfl) (by rfl) rfl (fun h_28 => ?_)
        rw [h1] at h_28 ⊢
        refine ev_iload_4 (q := 33) dX8_number_31 rfl ?_
        refine ev_iload_1 (q := 34) dX8_number_33 rfl ?_
        refine ev_iadd (q := 35) dX8_number_34 rfl ?_
        refine ev_icmp_ge (t := 90) (q := 38) dX8_number_35 (by decide) rfl (by constructor <;> omega) (by constructor <;> omega) (fun h_35 => ?_) (fun h_35 => ?_)
        · refine hend (n + 1) M1 P' v hn h hv (hno (fun q => ?_))
          first
          | omega
          | (rw [hcu, if_neg (fun z => h_13 (by rw [h2]; exact b01_t.2 z.1))] at q; omega)
          | (rw [hcu, if_neg (fun z => absurd z.2 (by omega))] at q; omega)
          | (rw [hcu, if_pos ⟨b01_t.1 (by omega), by omega⟩] at q; exact h_54 q)
        · refine ev_aload_0 (q := 39) dX8_number_38 rfl ?_
          refine ev_getR (q := 42) dX8_number_39 fl_RX8_16 (by first | assumption | rfl) (by rfl) rfl ?_
          refine ev_aload_0 (q := 43) dX8_number_42 rfl ?_
          refine ev_getI (q := 46) dX8_number_43 fl_RX8_142 (by first | assumption | rfl) (by rfl) rfl (fun h_43 => ?_)
          rw [h1] at h_43 ⊢
          refine ev_caload (q := 47) dX8_number_46 (by first | assumption | rfl) (by omega) (by first | decide | omega) rfl (fun h_46 => ?_)
          refine ev_bipush (q := 49) dX8_number_47 rfl (by decide) ?_
          refine ev_bipush (q := 51) dX8_number_49 rfl (by decide) ?_
          refine ev_callS3i (q := 54) dX8_number_51 ss_RX8_39 (c_X8_in (by constructor <;> omega) (by constructor <;> omega) (by constructor <;> omega)) (by decide) (Nat.le_of_ble_eq_true rfl) rfl (fun h_51 => ?_)
          refine ev_b_eq (t := 90) (q := 57) dX8_number_54 (by decide) rfl (fun h_54 => ?_) (fun h_54 => ?_)
          · refine hend (n + 1) M1 P' v hn h hv (hno (fun q => ?_))
            first
            | omega
            | (rw [hcu, if_neg (fun z => h_13 (by rw [h2]; exact b01_t.2 z.1))] at q; omega)
            | (rw [hcu, if_neg (fun z => absurd z.2 (by omega))] at q; omega)
            | (rw [hcu, if_pos ⟨b01_t.1 (by omega), by omega⟩] at q; exact h_54 q)
          · refine ev_bipush (q := 59) dX8_number_57 rfl (by decide) ?_
            refine ev_iload_5 (q := 61) dX8_number_59 rfl ?_
            refine ev_imul (q := 62) dX8_number_61 rfl ?_
            refine ev_aload_0 (q := 63) dX8_number_62 rfl ?_
            refine ev_getR (q := 66) dX8_number_63 fl_RX8_16 (by first | assumption | rfl) (by rfl) rfl ?_
            refine ev_aload_0 (q := 67) dX8_number_66 rfl ?_
            refine ev_getI (q := 70) dX8_number_67 fl_RX8_142 (by first | assumption | rfl) (by rfl) rfl (fun h_67 => ?_)
            rw [h1] at h_67 ⊢
            refine ev_caload (q := 71) dX8_number_70 (by first | assumption | rfl) (by omega) (by first | decide | omega) rfl (fun h_70 => ?_)
            refine ev_iadd (q := 72) dX8_number_71 rfl ?_
            refine ev_bipush (q := 74) dX8_number_72 rfl (by decide) ?_
            refine ev_isub (q := 75) dX8_number_74 rfl ?_
            refine ev_istore_5 (q := 77) dX8_number_75 rfl (by decide) ?_
            refine ev_aload_0 (q := 78) dX8_number_77 rfl ?_
            refine ev_dup (q := 79) dX8_number_78 rfl ?_
            refine ev_getI (q := 82) dX8_number_79 fl_RX8_142 (by first | assumption | rfl) (by rfl) rfl (fun h_79 => ?_)
            rw [h1] at h_79 ⊢
            refine ev_iconst (q := 83) dX8_number_82 rfl ?_
            refine ev_iadd (q := 84) dX8_number_83 rfl ?_
            refine ev_putI (q := 87) dX8_number_84 fl_RX8_142 (by first | assumption | rfl) (by rfl) rfl (by constructor <;> omega) ?_
            refine ev_goto (q := 9) dX8_number_87 (by decide) ?_
            have hcc : cur t len P' = M1 103 (pat P').toNat := hcu.trans (if_pos ⟨b01_t.1 (by omega), by omega⟩)
            refine ih _ (pat P' + 1, P'.2) _ (by omega) ?_ (h.at (by omega)) (by rw [hb2]; omega) ?_
            · show pat P' + 1 = _
              omega
            · rw [hr, numL, if_pos (by rw [hcc]; exact h_54), hcc]
set_option maxHeartbeats 4000000 in
theorem q_number {d : Nat} {x lo hi : Int} (hx : x = (d : Int)) (h : MB M0 t len M P) (hd : d ≤ 3) (hlo : inR lo) (hhi : inR hi) : Ri l 1 kX8_number yX8_number S0 M [vr 100, vi x, vi lo, vi hi] (fun x M2 => x = (numS t len d lo hi P).1 ∧ (0 ≤ x ∧ x ≤ bnd d) ∧ MB M0 t len M2 (numS t len d lo hi P).2) := by
  subst hx
  have h1 := h.1.1
  have h5 := h.1.2.2.2.2.1
  have h6 := h.1.2.2.2.2.2.1
  have hbd := bnd_le d hd
  have hsd := numL_sd t len d 0 P
  have hf : (numS t len d lo hi P).1 = (numL t len d 0 P).1 := by
    unfold numS numE
    split
    · rfl
    · split <;> rfl
  have K : ∀ M1 : ev_M, MB M0 t len M1 (numL t len d 0 P).2 → 0 ≤ (numL t len d 0 P).1 ∧ (numL t len d 0 P).1 ≤ bnd d → Ev l none 1 kX8_number (0, 0) S0 M1 90 [some (vr 100), some (vi (d : Int)), some (vi lo), some (vi hi), some (vi (pat P)), some (vi (numL t len d 0 P).1)] [] (QI S0 (fun x M2 => x = (numS t len d lo hi P).1 ∧ (0 ≤ x ∧ x ≤ bnd d) ∧ MB M0 t len M2 (numS t len d lo hi P).2)) := by
    intro M1 hm hr
    have hh := t_num90 (l := l) (d := (d : Int)) hlo hhi (r := numL t len d 0 P) (by omega) (P := P) (by omega) hm hsd.2.1 (fun q => by
      rw [hsd.2.2] at q
      rw [numL_w q])
    have e : (fun x M2 => x = (numS t len d lo hi P).1 ∧ (0 ≤ x ∧ x ≤ bnd d) ∧ MB M0 t len M2 (numS t len d lo hi P).2) = (fun x M2 => x = (numL t len d 0 P).1 ∧ MB M0 t len M2 (numE lo hi P (numL t len d 0 P)).2) := by
      funext x M2
      apply propext
      constructor
      · intro q; exact ⟨q.1.trans hf, q.2.2⟩
      · intro q; exact ⟨q.1.trans hf.symm, by rw [q.1]; exact hr, q.2⟩
    rw [e]
    exact hh
  refine Ri.of (by decide) rfl (by decide) (Nat.le_of_ble_eq_true rfl) ?_
  refine (show Ev _ none _ _ _ _ _ 0 [_, _, _, _, _, _] [] _ from ?_)
  refine ev_aload_0 (q := 1) dX8_number_0 rfl ?_
  refine ev_getI (q := 4) dX8_number_1 fl_RX8_142 (by first | assumption | rfl) (by rfl) rfl (fun h_1 => ?_)
  rw [h1] at h_1 ⊢
  refine ev_istore_4 (q := 6) dX8_number_4 rfl (by decide) ?_
  refine ev_iconst (q := 7) dX8_number_6 rfl ?_
  refine ev_istore_5 (q := 9) dX8_number_7 rfl (by decide) ?_
  exact lp_number hd (by omega) K d _ P 0 (Nat.le_refl _) (by rw [Nat.sub_self]; simp) h (by rw [Nat.sub_self]; exact ⟨Int.le_refl _, Int.le_refl _⟩) rfl
end Mn

