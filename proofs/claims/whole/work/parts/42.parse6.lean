/-- the same reading, with something else said -/
abbrev wf (P : PS) (f : Nat → Int) : PS := (pat P, pwr P, pbd P, f)
theorem cur_f {t : Nat → Int} {len : Int} {P : PS} {f : Nat → Int} : cur t len (wf P f) = cur t len P := rfl
theorem accS_f {t : Nat → Int} {len c : Int} {P : PS} {f : Nat → Int} : accS t len c (wf P f) = wf (accS t len c P) f := by
  unfold accS
  rw [cur_f]
  by_cases h : cur t len P = c
  · rw [if_pos h, if_pos h]
  · rw [if_neg h, if_neg h]
theorem numL_f {t : Nat → Int} {len : Int} {f : Nat → Int} : ∀ (n : Nat) (v : Int) (P : PS), numL t len n v (wf P f) = ((numL t len n v P).1, wf (numL t len n v P).2 f)
  | 0, _, _ => rfl
  | n + 1, v, P => by
    unfold numL
    rw [cur_f]
    by_cases h : 48 ≤ cur t len P ∧ cur t len P ≤ 57
    · rw [if_pos h, if_pos h]
      exact numL_f n (10 * v + cur t len P - 48) (pat P + 1, P.2)
    · rw [if_neg h, if_neg h]
theorem numS_f {t : Nat → Int} {len : Int} {d : Nat} {lo hi : Int} {P : PS} {f : Nat → Int} : numS t len d lo hi (wf P f) = ((numS t len d lo hi P).1, wf (numS t len d lo hi P).2 f) := by
  unfold numS
  rw [numL_f]
  generalize numL t len d 0 P = r
  unfold numE
  by_cases h1 : pat r.2 = pat P
  · rw [if_pos h1, if_pos h1]
  · rw [if_neg h1, if_neg h1]
    by_cases h2 : ¬ (lo ≤ r.1 ∧ r.1 ≤ hi) ∧ pbd r.2 = -1
    · rw [if_pos h2, if_pos h2]
    · rw [if_neg h2, if_neg h2]
theorem partS_f {t : Nat → Int} {len c : Int} {d : Nat} {m o : Int} {P : PS} {f : Nat → Int} : partS t len c d m o (wf P f) = ((partS t len c d m o P).1, wf (partS t len c d m o P).2 f) := by
  unfold partS
  rw [cur_f]
  by_cases h : cur t len P = c
  · rw [if_pos h, if_pos h, accS_f, numS_f]
  · rw [if_neg h, if_neg h]
theorem partS_sd {t : Nat → Int} {len c : Int} {d : Nat} {m o : Int} {P : PS} : psd (partS t len c d m o P).2 = psd P := by
  unfold partS
  split
  · rw [(numS_sd t len d 0 m _).1, accS_sd.1]
  · rfl
abbrev P0 : PS := (0, false, -1, fun _ => 0)
def hd1 (t : Nat → Int) (len : Int) : Int × PS := partS t len 107 1 5 (-1) P0
def hd2 (t : Nat → Int) (len : Int) : Int × PS := partS t len 46 2 15 0 (hd1 t len).2
def hd3 (t : Nat → Int) (len : Int) : Int × PS := partS t len 60 1 5 (-1) (hd2 t len).2
def hd4 (t : Nat → Int) (len el : Int) : Int × PS := partS t len 64 2 (el - 1) (-1) (hd3 t len).2
def hd5 (t : Nat → Int) (len el : Int) : Int × PS := partS t len 76 1 3 0 (hd4 t len el).2
def hdI (t : Nat → Int) (len el : Int) : Int := if cur t len (hd5 t len el).2 = 33 then 1 else 0
def hdP (t : Nat → Int) (len el : Int) : PS := accS t len 33 (hd5 t len el).2
theorem hd_sd (t : Nat → Int) (len el : Int) : psd (hdP t len el) = fun _ => 0 := by
  unfold hdP hd5 hd4 hd3 hd2 hd1
  rw [accS_sd.1, partS_sd, partS_sd, partS_sd, partS_sd, partS_sd]
/-- the numbers of the rule's parts, as the head tells them -/
def HdR (t : Nat → Int) (len el : Int) (M : ev_M) : Prop := M 97 0 = (hd1 t len).1 ∧ M 97 1 = (hd2 t len).1 ∧ M 97 2 = (hd3 t len).1 ∧ M 97 3 = (hd5 t len el).1 ∧ M 97 4 = (hd4 t len el).1 ∧ M 97 5 = hdI t len el ∧ M 95 0 = 1
abbrev fg : Nat → Int := fun k => if k = 48 then 1 else 0
theorem apM_RC {M : ev_M} {P : PS} {k c a y s i : Int} (h : RC M P) (h0 : M 95 0 = 0) (hsd : psd P = fg) : RC (apM M 95 97 99 k c a y s i) (wf P (fun _ => 0)) ∧ (∀ j, j ≠ 95 → j ≠ 97 → j ≠ 99 → apM M 95 97 99 k c a y s i j = M j) ∧ (apM M 95 97 99 k c a y s i 97 0 = k ∧ apM M 95 97 99 k c a y s i 97 1 = c ∧ apM M 95 97 99 k c a y s i 97 2 = a ∧ apM M 95 97 99 k c a y s i 97 3 = y ∧ apM M 95 97 99 k c a y s i 97 4 = s ∧ apM M 95 97 99 k c a y s i 97 5 = i ∧ apM M 95 97 99 k c a y s i 95 0 = 1) := by
  have e0 : (M 95 0 * 6 + 0).toNat = 0 := by omega
  have e1 : (M 95 0 * 6 + 1).toNat = 1 := by omega
  have e2 : (M 95 0 * 6 + 2).toNat = 2 := by omega
  have e3 : (M 95 0 * 6 + 3).toNat = 3 := by omega
  have e4 : (M 95 0 * 6 + 4).toNat = 4 := by omega
  have e5 : (M 95 0 * 6 + 5).toNat = 5 := by omega
  have e6 : 48 * (M 95 0).toNat = 0 := by omega
  have hA : apM M 95 97 99 k c a y s i = up (fil (up (up (up (up (up (up M 97 0 k) 97 1 c) 97 2 a) 97 3 y) 97 4 s) 97 5 i) 99 0 48 (-1)) 95 0 1 := by
    unfold apM
    rw [e0, e1, e2, e3, e4, e5, e6, h0]
    rfl
  rw [hA]
  have hfil : ∀ (X : ev_M) j, j ≠ 99 → fil X 99 0 48 (-1) j = X j := fun X j hj => by funext b; simp [fil, hj]
  have hne : ∀ j, j ≠ 95 → j ≠ 97 → j ≠ 99 → (up (fil (up (up (up (up (up (up M 97 0 k) 97 1 c) 97 2 a) 97 3 y) 97 4 s) 97 5 i) 99 0 48 (-1)) 95 0 1) j = M j := fun j j1 j2 j3 => by
    rw [up_ne j1, hfil _ _ j3, up_ne j2, up_ne j2, up_ne j2, up_ne j2, up_ne j2, up_ne j2]
  refine ⟨?_, hne, ?_⟩
  · obtain ⟨h1, h2, h3, h4, h5, h6, h7⟩ := h
    refine ⟨?_, ?_, ?_, fun q => ?_, fun q => ?_, ?_, ?_, h7.2⟩
    · rw [hne 92 (by decide) (by decide) (by decide)]; exact h1
    · rw [hne 92 (by decide) (by decide) (by decide)]; exact h2
    · rw [hne 92 (by decide) (by decide) (by decide)]; exact h3
    · rw [hne 92 (by decide) (by decide) (by decide)]; exact h4 q
    · obtain ⟨a1, a2, a3⟩ := h5 q
      rw [hne 92 (by decide) (by decide) (by decide)]
      refine ⟨a1, a2, fun _ p hp => Or.inl ⟨rfl, ?_⟩⟩
      rw [up_ne (by decide), fil_at, if_pos (by omega), fil_at, if_pos (by omega), fil_at, if_pos (by omega)]
      exact ⟨rfl, rfl, rfl⟩
    · intro j hj
      rw [hne 92 (by decide) (by decide) (by decide)] at hj
      rw [hne 94 (by decide) (by decide) (by decide)]
      exact h6 j hj
    · rw [hne 92 (by decide) (by decide) (by decide)]; exact h7.1
  · refine ⟨?_, ?_, ?_, ?_, ?_, ?_, ?_⟩
    · rw [up_ne (by decide), hfil _ _ (by decide)]; simp [up_at]
    · rw [up_ne (by decide), hfil _ _ (by decide)]; simp [up_at]
    · rw [up_ne (by decide), hfil _ _ (by decide)]; simp [up_at]
    · rw [up_ne (by decide), hfil _ _ (by decide)]; simp [up_at]
    · rw [up_ne (by decide), hfil _ _ (by decide)]; simp [up_at]
    · rw [up_ne (by decide), hfil _ _ (by decide)]; simp [up_at]
    · rw [up_at, if_pos ⟨rfl, rfl⟩]
theorem partS_rng {t : Nat → Int} {len c : Int} {d : Nat} {m o : Int} {P : PS} (hd : d ≤ 2) (ho : -1 ≤ o ∧ o ≤ 0) : -1 ≤ (partS t len c d m o P).1 := by
  have hL : ∀ (n : Nat) (v : Int) (P : PS), 0 ≤ v → 0 ≤ (numL t len n v P).1 := by
    intro n
    induction n with
    | zero => intro v P hv; exact hv
    | succ n ih =>
      intro v P hv
      unfold numL
      split
      · exact ih _ _ (by omega)
      · exact hv
  unfold partS
  split
  · have h0 := hL d 0 (accS t len c P) (Int.le_refl _)
    unfold numS
    generalize numL t len d 0 (accS t len c P) = r at h0
    unfold numE
    split
    · show -1 ≤ r.1; omega
    · split
      · show -1 ≤ r.1; omega
      · omega
  · show -1 ≤ o; omega
set_option maxHeartbeats 4000000 in
theorem n_parseHead {l : Launch} {M : ev_M} {t : Nat → Int} {len el : Int} (hel : 1 ≤ el ∧ el ≤ 16) (h : RB M t len M (wf P0 fg)) (h0 : M 95 0 = 0) : Rv l 4 kX5_parseHead yX5_parseHead S0 M [vr 92, vi el] (fun M2 => RC M2 (hdP t len el) ∧ HdR t len el M2 ∧ M2 94 = t ∧ M2 92 1 = len ∧ ∀ i, i ≠ 92 → i ≠ 95 → i ≠ 97 → i ≠ 99 → M2 i = M i) := by
  have f2 : ∀ (c : Int) (d : Nat) (m o : Int) (P : PS), (partS t len c d m o (wf P fg)).2 = wf (partS t len c d m o P).2 fg := fun c d m o P => by rw [partS_f]
  have f1 : ∀ (c : Int) (d : Nat) (m o : Int) (P : PS), (partS t len c d m o (wf P fg)).1 = (partS t len c d m o P).1 := fun c d m o P => by rw [partS_f]
  refine Rv.of (by decide) rfl (by decide) (Nat.le_of_ble_eq_true rfl) ?_
  refine (show Ev _ none _ _ _ _ _ 0 [_, _, _, _, _, _, _, _] [] _ from ?_)
  refine ev_aload_0 (q := 1) dX5_parseHead_0 rfl ?_
  refine ev_bipush (q := 3) dX5_parseHead_1 rfl (by decide) ?_
  refine ev_iconst (q := 4) dX5_parseHead_3 rfl ?_
  refine ev_iconst (q := 5) dX5_parseHead_4 rfl ?_
  refine ev_iconst (q := 6) dX5_parseHead_5 rfl ?_
  refine ev_callV4iR (q := 9) dX5_parseHead_6 vs_RX5_57 (by first | assumption | rfl) (n_partAfter (d := 1) rfl h (by decide) (by decide) (by decide) (by constructor <;> omega)) (by decide) (Nat.le_of_ble_eq_true rfl) rfl (fun x_6 M_6 hq_6 h_6 => ?_)
  obtain ⟨a1, a2⟩ := hq_6
  rw [f1] at a1
  rw [f2] at a2
  change RB M t len M_6 (wf (hd1 t len).2 fg) at a2
  refine ev_istore_2 (q := 10) dX5_parseHead_9 rfl (by decide) ?_
  refine ev_aload_0 (q := 11) dX5_parseHead_10 rfl ?_
  refine ev_bipush (q := 13) dX5_parseHead_11 rfl (by decide) ?_
  refine ev_iconst (q := 14) dX5_parseHead_13 rfl ?_
  refine ev_bipush (q := 16) dX5_parseHead_14 rfl (by decide) ?_
  refine ev_iconst (q := 17) dX5_parseHead_16 rfl ?_
  refine ev_callV4iR (q := 20) dX5_parseHead_17 vs_RX5_57 (by first | assumption | rfl) (n_partAfter (d := 2) rfl a2 (by decide) (by decide) (by decide) (by constructor <;> omega)) (by decide) (Nat.le_of_ble_eq_true rfl) rfl (fun x_17 M_17 hq_17 h_17 => ?_)
  obtain ⟨b1, b2⟩ := hq_17
  rw [f1] at b1
  rw [f2] at b2
  change RB M t len M_17 (wf (hd2 t len).2 fg) at b2
  refine ev_istore_3 (q := 21) dX5_parseHead_20 rfl (by decide) ?_
  refine ev_aload_0 (q := 22) dX5_parseHead_21 rfl ?_
  refine ev_bipush (q := 24) dX5_parseHead_22 rfl (by decide) ?_
  refine ev_iconst (q := 25) dX5_parseHead_24 rfl ?_
  refine ev_iconst (q := 26) dX5_parseHead_25 rfl ?_
  refine ev_iconst (q := 27) dX5_parseHead_26 rfl ?_
  refine ev_callV4iR (q := 30) dX5_parseHead_27 vs_RX5_57 (by first | assumption | rfl) (n_partAfter (d := 1) rfl b2 (by decide) (by decide) (by decide) (by constructor <;> omega)) (by decide) (Nat.le_of_ble_eq_true rfl) rfl (fun x_27 M_27 hq_27 h_27 => ?_)
  obtain ⟨c1, c2⟩ := hq_27
  rw [f1] at c1
  rw [f2] at c2
  change RB M t len M_27 (wf (hd3 t len).2 fg) at c2
  refine ev_istore_4 (q := 32) dX5_parseHead_30 rfl (by decide) ?_
  refine ev_aload_0 (q := 33) dX5_parseHead_32 rfl ?_
  refine ev_bipush (q := 35) dX5_parseHead_33 rfl (by decide) ?_
  refine ev_iconst (q := 36) dX5_parseHead_35 rfl ?_
  refine ev_iload_1 (q := 37) dX5_parseHead_36 rfl ?_
  refine ev_iconst (q := 38) dX5_parseHead_37 rfl ?_
  refine ev_isub (q := 39) dX5_parseHead_38 rfl ?_
  refine ev_iconst (q := 40) dX5_parseHead_39 rfl ?_
  refine ev_callV4iR (q := 43) dX5_parseHead_40 vs_RX5_57 (by first | assumption | rfl) (n_partAfter (d := 2) rfl c2 (by decide) (by decide) (by omega) (by constructor <;> omega)) (by decide) (Nat.le_of_ble_eq_true rfl) rfl (fun x_40 M_40 hq_40 h_40 => ?_)
  obtain ⟨e1, e2⟩ := hq_40
  rw [f1] at e1
  rw [f2] at e2
  change RB M t len M_40 (wf (hd4 t len el).2 fg) at e2
  refine ev_istore_5 (q := 45) dX5_parseHead_43 rfl (by decide) ?_
  refine ev_aload_0 (q := 46) dX5_parseHead_45 rfl ?_
  refine ev_bipush (q := 48) dX5_parseHead_46 rfl (by decide) ?_
  refine ev_iconst (q := 49) dX5_parseHead_48 rfl ?_
  refine ev_iconst (q := 50) dX5_parseHead_49 rfl ?_
  refine ev_iconst (q := 51) dX5_parseHead_50 rfl ?_
  refine ev_callV4iR (q := 54) dX5_parseHead_51 vs_RX5_57 (by first | assumption | rfl) (n_partAfter (d := 1) rfl e2 (by decide) (by decide) (by decide) (by constructor <;> omega)) (by decide) (Nat.le_of_ble_eq_true rfl) rfl (fun x_51 M_51 hq_51 h_51 => ?_)
  obtain ⟨g1, g2⟩ := hq_51
  rw [f1] at g1
  rw [f2] at g2
  change RB M t len M_51 (wf (hd5 t len el).2 fg) at g2
  refine ev_istore_6 (q := 56) dX5_parseHead_54 rfl (by decide) ?_
  refine ev_aload_0 (q := 57) dX5_parseHead_56 rfl ?_
  refine ev_bipush (q := 59) dX5_parseHead_57 rfl (by decide) ?_
  refine ev_callV1iR (q := 62) dX5_parseHead_59 vs_RX5_61 (by first | assumption | rfl) (n_accepts g2 (by decide)) (by decide) (Nat.le_of_ble_eq_true rfl) rfl (fun x_59 M_59 hq_59 h_59 => ?_)
  obtain ⟨i1, i2⟩ := hq_59
  rw [accS_f] at i2
  change RB M t len M_59 (wf (hdP t len el) fg) at i2
  have i3 : M_59 95 0 = 0 := by rw [i2.2.2.2.1 95 (by decide) (by decide)]; exact h0
  rw [i1]
  refine ev_b_eq (t := 69) (q := 65) dX5_parseHead_62 (by decide) rfl (fun h_62 => ?_) (fun h_62 => ?_)
  · refine ev_iconst (q := 70) dX5_parseHead_69 rfl ?_
    refine ev_istore_7 (q := 72) dX5_parseHead_70 rfl (by decide) ?_
    refine ev_aload_0 (q := 73) dX5_parseHead_72 rfl ?_
    refine ev_getR (q := 76) dX5_parseHead_73 fl_RX5_23 (by first | assumption | rfl) (by rfl) rfl ?_
    refine ev_iload_2 (q := 77) dX5_parseHead_76 rfl ?_
    refine ev_iload_3 (q := 78) dX5_parseHead_77 rfl ?_
    refine ev_iload_4 (q := 80) dX5_parseHead_78 rfl ?_
    refine ev_iload_6 (q := 82) dX5_parseHead_80 rfl ?_
    refine ev_iload_5 (q := 84) dX5_parseHead_82 rfl ?_
    refine ev_iload_7 (q := 86) dX5_parseHead_84 rfl ?_
    refine ev_callV6i (q := 89) dX5_parseHead_86 vs_RX5_65 (by first | assumption | rfl) (c_X3_append ru95 (by decide) (by decide) (by omega) (by omega) (by omega) (by constructor <;> omega) (by constructor <;> omega) (by constructor <;> omega) (by constructor <;> omega) (by constructor <;> omega) (by constructor <;> omega)) (by decide) (Nat.le_of_ble_eq_true rfl) rfl (fun h_86 => ?_)
    refine ev_pop (q := 90) dX5_parseHead_89 rfl ?_
    refine ev_return dX5_parseHead_90 rfl ?_
    refine ⟨rfl, rfl, ?_⟩
    have hap := fun i => apM_RC (k := x_6) (c := x_17) (a := x_27) (y := x_51) (s := x_40) (i := i) i2.1 i3 rfl
    first
    | (obtain ⟨k1, k2, k3, k4, k5, k6, k7, k8, k9⟩ := hap 1
       refine ⟨by have := k1; rw [show wf (wf (hdP t len el) fg) (fun _ => 0) = hdP t len el from by rw [← hd_sd t len el]] at this; exact this, ⟨k3.trans a1, k4.trans b1, k5.trans c1, k6.trans g1, k7.trans e1, k8.trans (by unfold hdI; rw [if_pos (show cur t len (hd5 t len el).2 = 33 by assumption)]), k9⟩, (k2 94 (by decide) (by decide) (by decide)).trans i2.2.1, by rw [k2 92 (by decide) (by decide) (by decide)]; exact i2.2.2.1, fun i j1 j2 j3 j4 => (k2 i j2 j3 j4).trans (i2.2.2.2.1 i j1 j4)⟩)
    | (obtain ⟨k1, k2, k3, k4, k5, k6, k7, k8, k9⟩ := hap 0
       refine ⟨by have := k1; rw [show wf (wf (hdP t len el) fg) (fun _ => 0) = hdP t len el from by rw [← hd_sd t len el]] at this; exact this, ⟨k3.trans a1, k4.trans b1, k5.trans c1, k6.trans g1, k7.trans e1, k8.trans (by unfold hdI; rw [if_neg (show ¬ cur t len (hd5 t len el).2 = 33 by assumption)]), k9⟩, (k2 94 (by decide) (by decide) (by decide)).trans i2.2.1, by rw [k2 92 (by decide) (by decide) (by decide)]; exact i2.2.2.1, fun i j1 j2 j3 j4 => (k2 i j2 j3 j4).trans (i2.2.2.2.1 i j1 j4)⟩)
  · refine ev_iconst (q := 66) dX5_parseHead_65 rfl ?_
    refine ev_goto (q := 70) dX5_parseHead_66 (by decide) ?_
    refine ev_istore_7 (q := 72) dX5_parseHead_70 rfl (by decide) ?_
    refine ev_aload_0 (q := 73) dX5_parseHead_72 rfl ?_
    refine ev_getR (q := 76) dX5_parseHead_73 fl_RX5_23 (by first | assumption | rfl) (by rfl) rfl ?_
    refine ev_iload_2 (q := 77) dX5_parseHead_76 rfl ?_
    refine ev_iload_3 (q := 78) dX5_parseHead_77 rfl ?_
    refine ev_iload_4 (q := 80) dX5_parseHead_78 rfl ?_
    refine ev_iload_6 (q := 82) dX5_parseHead_80 rfl ?_
    refine ev_iload_5 (q := 84) dX5_parseHead_82 rfl ?_
    refine ev_iload_7 (q := 86) dX5_parseHead_84 rfl ?_
    refine ev_callV6i (q := 89) dX5_parseHead_86 vs_RX5_65 (by first | assumption | rfl) (c_X3_append ru95 (by decide) (by decide) (by omega) (by omega) (by omega) (by constructor <;> omega) (by constructor <;> omega) (by constructor <;> omega) (by constructor <;> omega) (by constructor <;> omega) (by constructor <;> omega)) (by decide) (Nat.le_of_ble_eq_true rfl) rfl (fun h_86 => ?_)
    refine ev_pop (q := 90) dX5_parseHead_89 rfl ?_
    refine ev_return dX5_parseHead_90 rfl ?_
    refine ⟨rfl, rfl, ?_⟩
    have hap := fun i => apM_RC (k := x_6) (c := x_17) (a := x_27) (y := x_51) (s := x_40) (i := i) i2.1 i3 rfl
    first
    | (obtain ⟨k1, k2, k3, k4, k5, k6, k7, k8, k9⟩ := hap 1
       refine ⟨by have := k1; rw [show wf (wf (hdP t len el) fg) (fun _ => 0) = hdP t len el from by rw [← hd_sd t len el]] at this; exact this, ⟨k3.trans a1, k4.trans b1, k5.trans c1, k6.trans g1, k7.trans e1, k8.trans (by unfold hdI; rw [if_pos (show cur t len (hd5 t len el).2 = 33 by assumption)]), k9⟩, (k2 94 (by decide) (by decide) (by decide)).trans i2.2.1, by rw [k2 92 (by decide) (by decide) (by decide)]; exact i2.2.2.1, fun i j1 j2 j3 j4 => (k2 i j2 j3 j4).trans (i2.2.2.2.1 i j1 j4)⟩)
    | (obtain ⟨k1, k2, k3, k4, k5, k6, k7, k8, k9⟩ := hap 0
       refine ⟨by have := k1; rw [show wf (wf (hdP t len el) fg) (fun _ => 0) = hdP t len el from by rw [← hd_sd t len el]] at this; exact this, ⟨k3.trans a1, k4.trans b1, k5.trans c1, k6.trans g1, k7.trans e1, k8.trans (by unfold hdI; rw [if_neg (show ¬ cur t len (hd5 t len el).2 = 33 by assumption)]), k9⟩, (k2 94 (by decide) (by decide) (by decide)).trans i2.2.1, by rw [k2 92 (by decide) (by decide) (by decide)]; exact i2.2.2.1, fun i j1 j2 j3 j4 => (k2 i j2 j3 j4).trans (i2.2.2.2.1 i j1 j4)⟩)

