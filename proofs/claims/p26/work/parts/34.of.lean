def RowOK (v : Vw) (M : ev_M) (e : Nat) : Prop := (∀ r : Nat, (r : Int) < vrn v → M 83 (16 * e + r) = strV v r e) ∧ (∀ p : Nat, p < 16 → M 85 (16 * e + p) = winV v e p) ∧ (∀ p : Nat, 8 ≤ p → p < 16 → M 87 (16 * e + p) = cycV v e p) ∧ ValOK M v e
def OutOK (v : Vw) (M : ev_M) : Prop := M 81 1 = vel v ∧ M 81 2 = vrn v ∧ ∀ e : Nat, (e : Int) < vel v → RowOK v M e
def OutFr (M M' : ev_M) : Prop := ∀ i, i ≠ 81 → i ≠ 83 → i ≠ 85 → i ≠ 87 → i ≠ 89 → i ≠ 91 → M' i = M i
theorem gvC_o {v : Vw} {e : Nat} {M : ev_M} {k : Nat} (hk : k < 16 * e ∨ 16 * e + 16 ≤ k) (i : Nat) : ∀ j, j ≤ 8 → gvC v e j M i k = M i k
  | 0, _ => rfl
  | j + 1, hj => by
    show gvM v e (8 + j) (gvC v e j M) i k = _
    rw [gvM_o (by omega) hk, gvC_o hk i j (by omega)]
theorem gvR_o {v : Vw} {e : Nat} {M : ev_M} {k : Nat} (hk : k < 16 * e ∨ 16 * e + 16 ≤ k) (i : Nat) : ∀ j, gvR v e j M i k = M i k
  | 0 => rfl
  | j + 1 => by
    show gvC v e 8 (gvR v e j M) i k = _
    rw [gvC_o hk i 8 (Nat.le_refl _), gvR_o hk i j]
theorem gvP_o {v : Vw} {e : Nat} {M : ev_M} {k : Nat} (hk : k < 16 * e ∨ 16 * e + 16 ≤ k) (i : Nat) : ∀ j, j ≤ 8 → gvP v e j M i k = M i k
  | 0, _ => rfl
  | j + 1, hj => by
    show gvM v e j (gvP v e j M) i k = _
    rw [gvM_o (by omega) hk, gvP_o hk i j (by omega)]
/-- an element's equations hold where its row and its parent's are the same -/
theorem ValOK_same {v : Vw} {M M' : ev_M} {e : Nat} (h : Wf v) (he : (e : Int) < vel v) (hM : ∀ k, k < 16 * e + 16 → M' 89 k = M 89 k ∧ M' 91 k = M 91 k) (hv : ValOK M v e) : ValOK M' v e := by
  have hpar := (h.2.2.1 e he).1
  intro p hp
  rw [(hM (16 * e + p) (by omega)).1, (hM (16 * e + p) (by omega)).2, hv p hp]
  refine gpr_congr ?_ (fun he0 => ⟨((hM _ (by omega)).1).symm, ((hM _ (by omega)).2).symm⟩)
  by_cases hb : bs v e p
  · exact Or.inl hb
  · have hr := rf_rng h (e := e) hp hb
    exact Or.inr ((hM _ (by omega)).1).symm
/-- one element's turn -/
def turnM (v : Vw) (e : Nat) (M : ev_M) : ev_M := gvP v e 8 (gvR v e 8 (wr (wr (wr M 83 (16 * e) (vrn v).toNat (fun r => strV v r e)) 85 (16 * e) 16 (fun p => winV v e p)) 87 (16 * e + 8) 8 (fun q => cycV v e (8 + (q : Int)))))
theorem turn_VI {v : Vw} {e : Nat} {M : ev_M} (h : Wf v) (he : e < 16) (hR : RM M) : VI (wr (wr (wr M 83 (16 * e) (vrn v).toNat (fun r => strV v r e)) 85 (16 * e) 16 (fun p => winV v e p)) 87 (16 * e + 8) 8 (fun q => cycV v e (8 + (q : Int)))) (turnM v e M) := by
  have hR3 : RM (wr (wr (wr M 83 (16 * e) (vrn v).toNat (fun r => strV v r e)) 85 (16 * e) 16 (fun p => winV v e p)) 87 (16 * e + 8) 8 (fun q => cycV v e (8 + (q : Int)))) := by
    intro a b
    rw [wr_at]
    have c1 := cycV_rng v e (8 + ((b - (16 * e + 8) : Nat) : Int))
    have c2 := winV_rng h e (b - 16 * e)
    split
    · constructor <;> omega
    · rw [wr_at]
      split
      · constructor <;> omega
      · rw [wr_at]
        split
        · have h2 := h.2.1
          have c3 := strV_rng h (r := b - 16 * e) (e := e) (by omega)
          constructor <;> omega
        · exact hR a b
  exact VI_gvP h he (VI_gvR h he ⟨hR3, fun _ _ _ => rfl⟩ 8) 8 (Nat.le_refl _)
theorem turn_o {v : Vw} {e : Nat} {M : ev_M} (h : Wf v) {k : Nat} (hk : k < 16 * e) (i : Nat) : turnM v e M i k = M i k := by
  unfold turnM
  rw [gvP_o (Or.inl hk) i 8 (Nat.le_refl _), gvR_o (Or.inl hk), wr_at, if_neg (by omega), wr_at, if_neg (by omega), wr_at, if_neg (by omega)]
theorem turn_OK {v : Vw} {e : Nat} {M : ev_M} (h : Wf v) (he : (e : Int) < vel v) (hR : RM M) : RowOK v (turnM v e M) e := by
  have h1 := h.1; have h2 := h.2.1
  have hVI := (turn_VI h (e := e) (by omega) hR).2
  refine ⟨fun r hr => ?_, fun p hp => ?_, fun p hp1 hp2 => ?_, give_OK h he⟩
  · rw [hVI 83 (by decide) (by decide), wr_ne (by decide), wr_ne (by decide), wr_at, if_pos (by omega), show 16 * e + r - 16 * e = r by omega]
  · rw [hVI 85 (by decide) (by decide), wr_ne (by decide), wr_at, if_pos (by omega), show 16 * e + p - 16 * e = p by omega]
  · rw [hVI 87 (by decide) (by decide), wr_at, if_pos (by omega)]
    congr 1
    omega
theorem turn_fr {v : Vw} {e : Nat} {M : ev_M} (h : Wf v) (he : e < 16) (hR : RM M) : ∀ i, i ≠ 83 → i ≠ 85 → i ≠ 87 → i ≠ 89 → i ≠ 91 → turnM v e M i = M i := by
  intro i i1 i2 i3 i4 i5
  rw [(turn_VI h he hR).2 i i4 i5, wr_ne i3, wr_ne i2, wr_ne i1]
abbrev QO (v : Vw) (M : ev_M) : Option ev_V → List ev_Sh → ev_M → Prop := fun v' S' M2 => v' = some (vr 81) ∧ S' = S0 ∧ OutFr M M2 ∧ OutOK v M2 ∧ M2 81 0 = 1
set_option maxHeartbeats 4000000 in
theorem lp_of {l : Launch} {M : ev_M} {v : Vw} (hv : cV M 1 = v) (h : Wf v) : ∀ (n j : Nat) (x : Int) (M' : ev_M), x = j → (j : Int) + n = vel v → RM M' → OutFr M M' → M' 81 1 = vel v → M' 81 2 = vrn v → (∀ e : Nat, e < j → RowOK v M' e) → Ev l none 5 kX1_of (0, 0) S0 M' 37 [some (vr 81), some (vr 1), some (vi x)] [] (QO v M) := by
  have h1 := h.1; have h2 := h.2.1
  intro n
  induction n with
  | zero =>
    intro j x M' hx hj hR hF hm1 hm2 hrow
    refine ev_iload_2 (q := 38) dX1_of_37 rfl ?_
    refine ev_aload_0 (q := 39) dX1_of_38 rfl ?_
    refine ev_getI (q := 42) dX1_of_39 fl_RX1_48 (by first | assumption | rfl) (by rfl) rfl (fun h_39 => ?_)
    rw [hm1] at h_39 ⊢
    refine ev_icmp_ge (t := 81) (q := 45) dX1_of_42 (by decide) rfl (by constructor <;> omega) (by constructor <;> omega) (fun h_42 => ?_) (fun h_42 => ?_)
    · refine ev_aload_0 (q := 82) dX1_of_81 rfl ?_
      refine ev_iconst (q := 83) dX1_of_82 rfl ?_
      refine ev_putZ (q := 86) dX1_of_83 fl_RX1_32 (by first | assumption | rfl) (by rfl) rfl (by first | exact Or.inl rfl | exact Or.inr rfl | omega) ?_
      refine ev_aload_0 (q := 87) dX1_of_86 rfl ?_
      refine ev_areturn dX1_of_87 rfl ?_
      refine ⟨rfl, rfl, fun i i1 i2 i3 i4 i5 i6 => ?_, ⟨?_, ?_, fun e he => ?_⟩, rfl⟩
      · rw [up_ne i1]; exact hF i i1 i2 i3 i4 i5 i6
      · rw [up_at, if_neg (by omega)]; exact hm1
      · rw [up_at, if_neg (by omega)]; exact hm2
      · obtain ⟨r1, r2, r3, r4⟩ := hrow e (by omega)
        exact ⟨fun r hr => by rw [up_ne (by decide)]; exact r1 r hr, fun p hp => by rw [up_ne (by decide)]; exact r2 p hp, fun p hp hp2 => by rw [up_ne (by decide)]; exact r3 p hp hp2, ValOK_same h he (fun k hk => ⟨by rw [up_ne (by decide)], by rw [up_ne (by decide)]⟩) r4⟩
    · omega
  | succ n ih =>
    intro j x M' hx hj hR hF hm1 hm2 hrow
    subst hx
    have hvM : cV M' 1 = v := by rw [cV_eq (fun i hi => hF i (by omega) (by omega) (by omega) (by omega) (by omega) (by omega))]; exact hv
    have hR1 : RM (wr M' 83 (16 * j) (vrn v).toNat (fun r => strV v r j)) := fun a b => by
      rw [wr_at]
      split
      · have c3 := strV_rng h (r := b - 16 * j) (e := j) (by omega)
        constructor <;> omega
      · exact hR a b
    have hc1 := c_X1_weighRules (l := l) (e := j) hvM h (by omega) hm2
    have hv1 : cV (wr M' 83 (16 * j) (vrn v).toNat (fun r => strV v r j)) 1 = v := by rw [wr_V (by decide)]; exact hvM
    have hc2 := c_X1_chooseWinners (l := l) (e := j) hR1 hv1 h (by omega) (by rw [wr_ne (by decide)]; exact hm2) (fun r hr => by rw [wr_at, if_pos (by omega), show 16 * j + r - 16 * j = r by omega])
    have hv2 : cV (wr (wr M' 83 (16 * j) (vrn v).toNat (fun r => strV v r j)) 85 (16 * j) 16 (fun p => winV v j p)) 1 = v := by rw [wr_V (by decide)]; exact hv1
    have hw2 : ∀ p : Nat, p < 16 → (wr (wr M' 83 (16 * j) (vrn v).toNat (fun r => strV v r j)) 85 (16 * j) 16 (fun p => winV v j p)) 85 (16 * j + p) = winV v j p := fun p hp => by rw [wr_at, if_pos (by omega), show 16 * j + p - 16 * j = p by omega]
    have hc3 := c_X1_findCycles (l := l) (e := j) hv2 h (by omega) hw2
    have hVI := turn_VI h (e := j) (M := M') (by omega) hR
    have hR3 : RM (wr (wr (wr M' 83 (16 * j) (vrn v).toNat (fun r => strV v r j)) 85 (16 * j) 16 (fun p => winV v j p)) 87 (16 * j + 8) 8 (fun q => cycV v j (8 + (q : Int)))) := by
      intro a b
      rw [wr_at]
      have c1 := cycV_rng v j (8 + ((b - (16 * j + 8) : Nat) : Int))
      have c2 := winV_rng h j (b - 16 * j)
      split
      · constructor <;> omega
      · rw [wr_at]
        split
        · constructor <;> omega
        · exact hR1 a b
    have hc4 := c_X1_giveValues (l := l) (e := j) hR3 (by rw [wr_V (by decide)]; exact hv2) h (by omega) (fun p hp => by rw [wr_ne (by decide)]; exact hw2 p hp) (fun p hp hp2 => by
      rw [wr_at, if_pos (by omega)]
      congr 1
      omega)
    have hfr := turn_fr h (e := j) (M := M') (by omega) hR
    refine ev_iload_2 (q := 38) dX1_of_37 rfl ?_
    refine ev_aload_0 (q := 39) dX1_of_38 rfl ?_
    refine ev_getI (q := 42) dX1_of_39 fl_RX1_48 (by first | assumption | rfl) (by rfl) rfl (fun h_39 => ?_)
    rw [hm1] at h_39 ⊢
    refine ev_icmp_ge (t := 81) (q := 45) dX1_of_42 (by decide) rfl (by constructor <;> omega) (by constructor <;> omega) (fun h_42 => ?_) (fun h_42 => ?_)
    · omega
    · refine ev_aload_0 (q := 46) dX1_of_45 rfl ?_
      refine ev_aload_1 (q := 47) dX1_of_46 rfl ?_
      refine ev_iload_2 (q := 48) dX1_of_47 rfl ?_
      refine ev_callV2v (q := 51) dX1_of_48 vs_RX1_61 (by first | assumption | rfl) hc1 (by decide) (Nat.le_of_ble_eq_true rfl) rfl ?_
      refine ev_aload_0 (q := 52) dX1_of_51 rfl ?_
      refine ev_aload_1 (q := 53) dX1_of_52 rfl ?_
      refine ev_getR (q := 56) dX1_of_53 fl_RX1_52 (by first | assumption | rfl) (by rfl) rfl ?_
      refine ev_iload_2 (q := 57) dX1_of_56 rfl ?_
      refine ev_callV2v (q := 60) dX1_of_57 vs_RX1_65 (by first | assumption | rfl) hc2 (by decide) (Nat.le_of_ble_eq_true rfl) rfl ?_
      refine ev_aload_0 (q := 61) dX1_of_60 rfl ?_
      refine ev_aload_1 (q := 62) dX1_of_61 rfl ?_
      refine ev_getR (q := 65) dX1_of_62 fl_RX1_52 (by first | assumption | rfl) (by rfl) rfl ?_
      refine ev_iload_2 (q := 66) dX1_of_65 rfl ?_
      refine ev_callV2v (q := 69) dX1_of_66 vs_RX1_69 (by first | assumption | rfl) hc3 (by decide) (Nat.le_of_ble_eq_true rfl) rfl ?_
      refine ev_aload_0 (q := 70) dX1_of_69 rfl ?_
      refine ev_aload_1 (q := 71) dX1_of_70 rfl ?_
      refine ev_iload_2 (q := 72) dX1_of_71 rfl ?_
      refine ev_callV2v (q := 75) dX1_of_72 vs_RX1_72 (by first | assumption | rfl) hc4 (by decide) (Nat.le_of_ble_eq_true rfl) rfl ?_
      refine ev_iinc_2 (q := 78) dX1_of_75 rfl (by decide) ?_
      refine ev_goto (q := 37) dX1_of_78 (by decide) ?_
      refine ih (j + 1) _ (turnM v j M') (by omega) (by omega) hVI.1 (fun i i1 i2 i3 i4 i5 i6 => (hfr i i2 i3 i4 i5 i6).trans (hF i i1 i2 i3 i4 i5 i6)) (by rw [hfr 81 (by decide) (by decide) (by decide) (by decide) (by decide)]; exact hm1) (by rw [hfr 81 (by decide) (by decide) (by decide) (by decide) (by decide)]; exact hm2) (fun e he => ?_)
      by_cases hej : e = j
      · subst hej
        exact turn_OK h (by omega) hR
      · obtain ⟨r1, r2, r3, r4⟩ := hrow e (by omega)
        exact ⟨fun r hr => by rw [turn_o h (by omega)]; exact r1 r hr, fun p hp => by rw [turn_o h (by omega)]; exact r2 p hp, fun p hp hp2 => by rw [turn_o h (by omega)]; exact r3 p hp hp2, ValOK_same h (by omega) (fun k hk => ⟨turn_o h (by omega) 89, turn_o h (by omega) 91⟩) r4⟩
set_option maxHeartbeats 4000000 in
theorem c_X1_of {l : Launch} {M : ev_M} {v : Vw} (hR : RM M) (hv : cV M 1 = v) (h : Wf v) (hf : M 81 0 = 0 ∨ M 81 0 = 1) (hO : M 81 0 = 1 → OutOK v M) : Ct l 5 kX1_of yX1_of (0, 0) S0 M [vr 81, vr 1] (QO v M) := by
  have h1 := h.1; have h2 := h.2.1
  have e1 : M 2 0 = vel v := by rw [← hv]; rfl
  have e2 : M 9 0 = vrn v := by rw [← hv]; rfl
  have e3 : (up M 81 1 (M 2 0)) 9 0 = M 9 0 := by rw [up_ne (by decide)]
  refine Ct.of (by decide) rfl (by decide) (Nat.le_of_ble_eq_true rfl) ?_
  refine (show Ev _ none _ _ _ _ _ 0 [_, _, _] [] _ from ?_)
  refine ev_aload_0 (q := 1) dX1_of_0 rfl ?_
  refine ev_getI (q := 4) dX1_of_1 fl_RX1_32 (by first | assumption | rfl) (by rfl) rfl (fun h_1 => ?_)
  refine ev_if_ne (t := 11) (q := 7) dX1_of_4 (by decide) rfl (by constructor <;> omega) (fun h_4 => ?_) (fun h_4 => ?_)
  · refine ev_aload_0 (q := 12) dX1_of_11 rfl ?_
    refine ev_areturn dX1_of_12 rfl ?_
    exact ⟨rfl, rfl, fun _ _ _ _ _ _ _ => rfl, hO (by omega), by omega⟩
  · refine ev_aload_1 (q := 8) dX1_of_7 rfl ?_
    refine ev_ifnonnull (t := 13) dX1_of_8 (by decide) ?_
    refine ev_aload_0 (q := 14) dX1_of_13 rfl ?_
    refine ev_aload_1 (q := 15) dX1_of_14 rfl ?_
    refine ev_getR (q := 18) dX1_of_15 fl_RX1_36 (by first | assumption | rfl) (by rfl) rfl ?_
    refine ev_callV0i (q := 21) dX1_of_18 vs_RX1_42 (by first | assumption | rfl) c_X6_size (by decide) (Nat.le_of_ble_eq_true rfl) rfl (fun h_18 => ?_)
    refine ev_putI (q := 24) dX1_of_21 fl_RX1_48 (by first | assumption | rfl) (by rfl) rfl (by constructor <;> omega) ?_
    refine ev_aload_0 (q := 25) dX1_of_24 rfl ?_
    refine ev_aload_1 (q := 26) dX1_of_25 rfl ?_
    refine ev_getR (q := 29) dX1_of_26 fl_RX1_52 (by first | assumption | rfl) (by rfl) rfl ?_
    refine ev_callV0i (q := 32) dX1_of_29 vs_RX1_56 (by first | assumption | rfl) c_X3_size (by decide) (Nat.le_of_ble_eq_true rfl) rfl (fun h_29 => ?_)
    rw [e3] at *
    refine ev_putI (q := 35) dX1_of_32 fl_RX1_59 (by first | assumption | rfl) (by rfl) rfl (by constructor <;> omega) ?_
    refine ev_iconst (q := 36) dX1_of_35 rfl ?_
    refine ev_istore_2 (q := 37) dX1_of_36 rfl (by decide) ?_
    refine lp_of hv h (vel v).toNat 0 0 _ rfl (by omega) (RM_up (RM_up hR (by constructor <;> omega)) (by constructor <;> omega)) (fun i i1 _ _ _ _ _ => by rw [up_ne i1, up_ne i1]) ?_ ?_ (fun e he => by omega)
    · rw [up_at, if_neg (by omega), up_at, if_pos ⟨rfl, rfl⟩]; exact e1
    · rw [up_at, if_pos ⟨rfl, rfl⟩]; exact e2

