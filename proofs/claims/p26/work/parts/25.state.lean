/-- what a state shows: parents, kinds, classes, parts of rules, entries, elements, rules -/
abbrev Vw : Type := (Nat → Int) × (Nat → Int) × (Nat → Int) × (Nat → Nat → Int) × (Nat → Nat → Nat → Int) × Int × Int
abbrev vpar (v : Vw) : Nat → Int := v.1
abbrev vknd (v : Vw) : Nat → Int := v.2.1
abbrev vcls (v : Vw) : Nat → Int := v.2.2.1
abbrev vpt (v : Vw) : Nat → Nat → Int := v.2.2.2.1
abbrev ven (v : Vw) : Nat → Nat → Nat → Int := v.2.2.2.2.1
abbrev vel (v : Vw) : Int := v.2.2.2.2.2.1
abbrev vrn (v : Vw) : Int := v.2.2.2.2.2.2
/-- the view of the class's state object s -/
def cV (M : ev_M) (s : Nat) : Vw := (M (s + 3), M (s + 5), M (s + 7), fun r w => M (s + 10) (6 * r + w), fun r p w => M (s + 12) (48 * r + 3 * p + w), M (s + 1) 0, M (s + 8) 0)
/-- a state that can be -/
def Wf (v : Vw) : Prop := (1 ≤ vel v ∧ vel v ≤ 16) ∧ (0 ≤ vrn v ∧ vrn v ≤ 16) ∧ (∀ i : Nat, (i : Int) < vel v → (-1 ≤ vpar v i ∧ vpar v i < i ∧ (0 < i → 0 ≤ vpar v i)) ∧ (0 ≤ vknd v i ∧ vknd v i ≤ 5) ∧ 0 ≤ vcls v i ∧ vcls v i ≤ 15) ∧
  (∀ r : Nat, (r : Int) < vrn v → (-1 ≤ vpt v r 0 ∧ vpt v r 0 ≤ 5) ∧ (0 ≤ vpt v r 1 ∧ vpt v r 1 ≤ 15) ∧ (-1 ≤ vpt v r 2 ∧ vpt v r 2 ≤ 5) ∧ (0 ≤ vpt v r 3 ∧ vpt v r 3 ≤ 3) ∧ (-1 ≤ vpt v r 4 ∧ vpt v r 4 < vel v) ∧ (0 ≤ vpt v r 5 ∧ vpt v r 5 ≤ 1)) ∧
  (∀ r p : Nat, (r : Int) < vrn v → p < 16 → (-1 ≤ ven v r p 0 ∧ ven v r p 0 ≤ 999) ∧ (ven v r p 1 = -1 ∨ 8 ≤ ven v r p 1 ∧ ven v r p 1 ≤ 15) ∧ (-1 ≤ ven v r p 2 ∧ ven v r p 2 ≤ 999) ∧ (ven v r p 0 ≠ -1 → ven v r p 1 = -1) ∧ (ven v r p 1 = -1 → ven v r p 2 = -1))
/-- all of the rule's classes are the element's -/
def subB (c d : Int) : Bool := decide ((Int32.ofInt d &&& Int32.ofInt c).toInt = c)
def fitB (v : Vw) (r e : Nat) : Bool := (decide (vpt v r 0 = -1) || decide (vpt v r 0 = vknd v e)) && subB (vpt v r 1) (vcls v e) && (decide (vpt v r 2 = -1) || hka (vpar v) (vknd v) 16 (vpar v e) (vpt v r 2)) && (decide (vpt v r 4 = -1) || decide (stp (vpar v) 16 e (vpt v r 4) ≠ -1))
def rkV (v : Vw) (r e c : Nat) : Int :=
  if c = 1 then (if vpt v r 5 = 1 then 1 else 0)
  else if c = 2 then (if vpt v r 5 = 1 then 3 - vpt v r 3 else vpt v r 3)
  else if c = 3 then (if vpt v r 4 = -1 then 0 else 16 - stp (vpar v) 16 e (vpt v r 4))
  else if c = 4 then spc (vpt v r 0) (vpt v r 1) (vpt v r 2) else r
def accV (v : Vw) (r e : Nat) : Nat → Int
  | 0 => 0
  | j + 1 => if j = 0 then 0 else accV v r e j * 64 + rkV v r e j
def strV (v : Vw) (r e : Nat) : Int := if fitB v r e = true then accV v r e 6 else -1
def crV (v : Vw) (a b e : Nat) : Int := if rkV v a e 1 ≠ rkV v b e 1 then 1 else if rkV v a e 2 ≠ rkV v b e 2 then 2 else if rkV v a e 3 ≠ rkV v b e 3 then 3 else if rkV v a e 4 ≠ rkV v b e 4 then 4 else 5
theorem Wf.par {M : ev_M} (h : Wf (cV M 1)) : Par M (M 2 0) 4 := ⟨h.1.1, h.1.2, fun i hi => ⟨(h.2.2.1 i hi).1.1, (h.2.2.1 i hi).1.2.1⟩⟩
theorem rkV_rng {v : Vw} (h : Wf v) {r e c : Nat} (hr : (r : Int) < vrn v) : 0 ≤ rkV v r e c ∧ rkV v r e c < 64 := by
  obtain ⟨h1, h2, h3, h4, h5⟩ := h
  have h6 := h4 r hr
  have h7 := stp_rng (vpar v) 16 e (vpt v r 4)
  have h8 := spc_rng (k := vpt v r 0) (a := vpt v r 2) h6.2.1
  unfold rkV
  (repeat' split) <;> omega
theorem accV_rng {v : Vw} (h : Wf v) {r e : Nat} (hr : (r : Int) < vrn v) : ∀ j, j ≤ 6 → 0 ≤ accV v r e j ∧ accV v r e j < 64 ^ (j - 1) := by
  intro j
  induction j with
  | zero => intro _; simp [accV]
  | succ j ih =>
    intro hj
    have h1 := ih (by omega)
    have h2 := rkV_rng h (e := e) (c := j) hr
    unfold accV
    split
    · simp_all
    · have e1 : j + 1 - 1 = (j - 1) + 1 := by omega
      rw [e1, Int.pow_succ]
      omega
theorem c_X3_partN {l : Launch} {M : ev_M} {r w : Nat} (hr : r < 16) (hw : w < 6) : Cx l 1 kX3_part yX3_part S0 M [vr 9, vi (r : Int), vi (w : Int)] (some (vi (vpt (cV M 1) r w))) M := by
  have := c_X3_part (l := l) (M := M) (r := r) (w := w) (by omega) (by omega)
  rw [show ((r : Int) * 6 + w).toNat = 6 * r + w by omega] at this
  exact this
theorem c_X6_kindN {l : Launch} {M : ev_M} {e : Nat} (hx : e < 16) : Cx l 1 kX6_kindOf yX6_kindOf S0 M [vr 2, vi (e : Int)] (some (vi (vknd (cV M 1) e))) M := by
  have := c_X6_kindOf (l := l) (M := M) (x := e) (by omega)
  simp only [Int.toNat_natCast] at this
  exact this
theorem c_X6_classesN {l : Launch} {M : ev_M} {e : Nat} (hx : e < 16) : Cx l 1 kX6_classesOf yX6_classesOf S0 M [vr 2, vi (e : Int)] (some (vi (vcls (cV M 1) e))) M := by
  have := c_X6_classesOf (l := l) (M := M) (x := e) (by omega)
  simp only [Int.toNat_natCast] at this
  exact this
theorem c_X6_parentN {l : Launch} {M : ev_M} {e : Nat} (hx : e < 16) : Cx l 1 kX6_parentOf yX6_parentOf S0 M [vr 2, vi (e : Int)] (some (vi (vpar (cV M 1) e))) M := by
  have := c_X6_parentOf (l := l) (M := M) (x := e) (by omega)
  simp only [Int.toNat_natCast] at this
  exact this
theorem c_X6_stepsN {l : Launch} {M : ev_M} {e : Nat} {a : Int} (h : Wf (cV M 1)) (he : (e : Int) < M 2 0) (ha : inR a) : Cx l 1 kX6_stepsUp yX6_stepsUp S0 M [vr 2, vi (e : Int), vi a] (some (vi (stp (vpar (cV M 1)) 16 e a))) M := c_X6_stepsUp h.par (by omega) ha
theorem c_X6_hasKindN {l : Launch} {M : ev_M} {e : Nat} {a : Int} (h : Wf (cV M 1)) (he : (e : Int) < M 2 0) (ha : inR a) : Cx l 1 kX6_hasKindAbove yX6_hasKindAbove S0 M [vr 2, vi (e : Int), vi a] (some (vi (if hka (vpar (cV M 1)) (vknd (cV M 1)) 16 (vpar (cV M 1) e) a = true then 1 else 0))) M := by
  have := c_X6_hasKindAbove (l := l) h.par (x := e) (k := a) (by omega) ha
  simp only [Int.toNat_natCast] at this
  exact this
theorem c_X3_specN {l : Launch} {M : ev_M} {r : Nat} (hr : r < 16) (h : Wf (cV M 1)) (hr2 : (r : Int) < M 9 0) : Cx l 1 kX3_specificity yX3_specificity S0 M [vr 9, vi (r : Int)] (some (vi (spc (vpt (cV M 1) r 0) (vpt (cV M 1) r 1) (vpt (cV M 1) r 2)))) M := by
  have h1 := (h.2.2.2.1 r hr2).2.1
  have e0 : ((r : Int) * 6 + 0).toNat = 6 * r + 0 := by omega
  have e1 : ((r : Int) * 6 + 1).toNat = 6 * r + 1 := by omega
  have e2 : ((r : Int) * 6 + 2).toNat = 6 * r + 2 := by omega
  have := c_X3_specificity (l := l) (M := M) (r := r) (by omega) (by rw [e1]; exact h1)
  rw [e0, e1, e2] at this
  exact this
set_option maxHeartbeats 2000000 in
theorem c_X4_fits {l : Launch} {M : ev_M} {r e : Nat} (h : Wf (cV M 1)) (hr : (r : Int) < M 9 0) (he : (e : Int) < M 2 0) : Cx l 2 kX4_fits yX4_fits S0 M [vr 1, vi (r : Int), vi (e : Int)] (some (vi (if fitB (cV M 1) r e = true then 1 else 0))) M := by
  have h0 := h.1; have h00 := h.2.1
  have h4 := h.2.2.2.1 r hr
  have h3 := h.2.2.1 e he
  have hst := stp_rng (vpar (cV M 1)) 16 e (vpt (cV M 1) r 4)
  have hr16 : r < 16 := by have : vrn (cV M 1) = M 9 0 := rfl; omega
  have he16 : e < 16 := by have : vel (cV M 1) = M 2 0 := rfl; omega
  have hb := (Int32.ofInt (vcls (cV M 1) e) &&& Int32.ofInt (vpt (cV M 1) r 1)).toInt_lt
  have hb2 := (Int32.ofInt (vcls (cV M 1) e) &&& Int32.ofInt (vpt (cV M 1) r 1)).le_toInt
  generalize hv : vel (cV M 1) = nn at *
  refine Cx.of (by decide) rfl (by decide) (Nat.le_of_ble_eq_true rfl) ?_
  refine (show Ev _ none _ _ _ _ _ 0 [_, _, _, _, _, _, _] [] _ from ?_)
  refine ev_aload_0 (q := 1) dX4_fits_0 rfl ?_
  refine ev_getR (q := 4) dX4_fits_1 fl_RX4_23 (by first | assumption | rfl) (by rfl) rfl ?_
  refine ev_iload_1 (q := 5) dX4_fits_4 rfl ?_
  refine ev_iconst (q := 6) dX4_fits_5 rfl ?_
  refine ev_callV2i (q := 9) dX4_fits_6 vs_RX4_27 (by first | assumption | rfl) (c_X3_partN (r := r) (w := 0) hr16 (by decide)) (by decide) (Nat.le_of_ble_eq_true rfl) rfl (fun h_6 => ?_)
  refine ev_istore_3 (q := 10) dX4_fits_9 rfl (by decide) ?_
  refine ev_aload_0 (q := 11) dX4_fits_10 rfl ?_
  refine ev_getR (q := 14) dX4_fits_11 fl_RX4_23 (by first | assumption | rfl) (by rfl) rfl ?_
  refine ev_iload_1 (q := 15) dX4_fits_14 rfl ?_
  refine ev_iconst (q := 16) dX4_fits_15 rfl ?_
  refine ev_callV2i (q := 19) dX4_fits_16 vs_RX4_27 (by first | assumption | rfl) (c_X3_partN (r := r) (w := 1) hr16 (by decide)) (by decide) (Nat.le_of_ble_eq_true rfl) rfl (fun h_16 => ?_)
  refine ev_istore_4 (q := 21) dX4_fits_19 rfl (by decide) ?_
  refine ev_aload_0 (q := 22) dX4_fits_21 rfl ?_
  refine ev_getR (q := 25) dX4_fits_22 fl_RX4_23 (by first | assumption | rfl) (by rfl) rfl ?_
  refine ev_iload_1 (q := 26) dX4_fits_25 rfl ?_
  refine ev_iconst (q := 27) dX4_fits_26 rfl ?_
  refine ev_callV2i (q := 30) dX4_fits_27 vs_RX4_27 (by first | assumption | rfl) (c_X3_partN (r := r) (w := 2) hr16 (by decide)) (by decide) (Nat.le_of_ble_eq_true rfl) rfl (fun h_27 => ?_)
  refine ev_istore_5 (q := 32) dX4_fits_30 rfl (by decide) ?_
  refine ev_aload_0 (q := 33) dX4_fits_32 rfl ?_
  refine ev_getR (q := 36) dX4_fits_33 fl_RX4_23 (by first | assumption | rfl) (by rfl) rfl ?_
  refine ev_iload_1 (q := 37) dX4_fits_36 rfl ?_
  refine ev_iconst (q := 38) dX4_fits_37 rfl ?_
  refine ev_callV2i (q := 41) dX4_fits_38 vs_RX4_27 (by first | assumption | rfl) (c_X3_partN (r := r) (w := 4) hr16 (by decide)) (by decide) (Nat.le_of_ble_eq_true rfl) rfl (fun h_38 => ?_)
  refine ev_istore_6 (q := 43) dX4_fits_41 rfl (by decide) ?_
  refine ev_iload_3 (q := 44) dX4_fits_43 rfl ?_
  refine ev_iconst (q := 45) dX4_fits_44 rfl ?_
  refine ev_icmp_eq (t := 60) (q := 48) dX4_fits_45 (by decide) rfl (by constructor <;> omega) (by constructor <;> omega) (fun h_45 => ?_) (fun h_45 => ?_)
  · refine ev_aload_0 (q := 61) dX4_fits_60 rfl ?_
    refine ev_getR (q := 64) dX4_fits_61 fl_RX4_12 (by first | assumption | rfl) (by rfl) rfl ?_
    refine ev_iload_2 (q := 65) dX4_fits_64 rfl ?_
    refine ev_callV1i (q := 68) dX4_fits_65 vs_RX4_35 (by first | assumption | rfl) (c_X6_classesN he16) (by decide) (Nat.le_of_ble_eq_true rfl) rfl (fun h_65 => ?_)
    refine ev_iload_4 (q := 70) dX4_fits_68 rfl ?_
    refine ev_iand (q := 71) dX4_fits_70 rfl ?_
    refine ev_iload_4 (q := 73) dX4_fits_71 rfl ?_
    refine ev_icmp_ne (t := 119) (q := 76) dX4_fits_73 (by decide) rfl (by constructor <;> omega) (by constructor <;> omega) (fun h_73 => ?_) (fun h_73 => ?_)
    · refine ev_iconst (q := 120) dX4_fits_119 rfl ?_
      refine ev_ireturn dX4_fits_120 rfl (by first | rfl | decide | (split <;> rfl) | (split <;> decide)) (by constructor <;> omega) ?_
      refine ⟨congrArg (fun z => some (Sum.inl z)) ?_, rfl, rfl⟩
      simp_all [fitB, subB]
    · refine ev_iload_5 (q := 78) dX4_fits_76 rfl ?_
      refine ev_iconst (q := 79) dX4_fits_78 rfl ?_
      refine ev_icmp_eq (t := 95) (q := 82) dX4_fits_79 (by decide) rfl (by constructor <;> omega) (by constructor <;> omega) (fun h_79 => ?_) (fun h_79 => ?_)
      · refine ev_iload_6 (q := 97) dX4_fits_95 rfl ?_
        refine ev_iconst (q := 98) dX4_fits_97 rfl ?_
        refine ev_icmp_eq (t := 115) (q := 101) dX4_fits_98 (by decide) rfl (by constructor <;> omega) (by constructor <;> omega) (fun h_98 => ?_) (fun h_98 => ?_)
        · refine ev_iconst (q := 116) dX4_fits_115 rfl ?_
          refine ev_goto (q := 120) dX4_fits_116 (by decide) ?_
          refine ev_ireturn dX4_fits_120 rfl (by first | rfl | decide | (split <;> rfl) | (split <;> decide)) (by constructor <;> omega) ?_
          refine ⟨congrArg (fun z => some (Sum.inl z)) ?_, rfl, rfl⟩
          simp_all [fitB, subB]
        · refine ev_aload_0 (q := 102) dX4_fits_101 rfl ?_
          refine ev_getR (q := 105) dX4_fits_102 fl_RX4_12 (by first | assumption | rfl) (by rfl) rfl ?_
          refine ev_iload_2 (q := 106) dX4_fits_105 rfl ?_
          refine ev_iload_6 (q := 108) dX4_fits_106 rfl ?_
          refine ev_callV2i (q := 111) dX4_fits_108 vs_RX4_42 (by first | assumption | rfl) (c_X6_stepsN h he (by constructor <;> omega)) (by decide) (Nat.le_of_ble_eq_true rfl) rfl (fun h_108 => ?_)
          refine ev_iconst (q := 112) dX4_fits_111 rfl ?_
          refine ev_icmp_eq (t := 119) (q := 115) dX4_fits_112 (by decide) rfl (by constructor <;> omega) (by constructor <;> omega) (fun h_112 => ?_) (fun h_112 => ?_)
          · refine ev_iconst (q := 120) dX4_fits_119 rfl ?_
            refine ev_ireturn dX4_fits_120 rfl (by first | rfl | decide | (split <;> rfl) | (split <;> decide)) (by constructor <;> omega) ?_
            refine ⟨congrArg (fun z => some (Sum.inl z)) ?_, rfl, rfl⟩
            simp_all [fitB, subB]
          · refine ev_iconst (q := 116) dX4_fits_115 rfl ?_
            refine ev_goto (q := 120) dX4_fits_116 (by decide) ?_
            refine ev_ireturn dX4_fits_120 rfl (by first | rfl | decide | (split <;> rfl) | (split <;> decide)) (by constructor <;> omega) ?_
            refine ⟨congrArg (fun z => some (Sum.inl z)) ?_, rfl, rfl⟩
            simp_all [fitB, subB]
      · refine ev_aload_0 (q := 83) dX4_fits_82 rfl ?_
        refine ev_getR (q := 86) dX4_fits_83 fl_RX4_12 (by first | assumption | rfl) (by rfl) rfl ?_
        refine ev_iload_2 (q := 87) dX4_fits_86 rfl ?_
        refine ev_iload_5 (q := 89) dX4_fits_87 rfl ?_
        refine ev_callV2i (q := 92) dX4_fits_89 vs_RX4_38 (by first | assumption | rfl) (c_X6_hasKindN h he (by constructor <;> omega)) (by decide) (Nat.le_of_ble_eq_true rfl) rfl (fun h_89 => ?_)
        refine ev_b_eq (t := 119) (q := 95) dX4_fits_92 (by decide) rfl (fun h_92 => ?_) (fun h_92 => ?_)
        · refine ev_iconst (q := 120) dX4_fits_119 rfl ?_
          refine ev_ireturn dX4_fits_120 rfl (by first | rfl | decide | (split <;> rfl) | (split <;> decide)) (by constructor <;> omega) ?_
          refine ⟨congrArg (fun z => some (Sum.inl z)) ?_, rfl, rfl⟩
          simp_all [fitB, subB]
        · refine ev_iload_6 (q := 97) dX4_fits_95 rfl ?_
          refine ev_iconst (q := 98) dX4_fits_97 rfl ?_
          refine ev_icmp_eq (t := 115) (q := 101) dX4_fits_98 (by decide) rfl (by constructor <;> omega) (by constructor <;> omega) (fun h_98 => ?_) (fun h_98 => ?_)
          · refine ev_iconst (q := 116) dX4_fits_115 rfl ?_
            refine ev_goto (q := 120) dX4_fits_116 (by decide) ?_
            refine ev_ireturn dX4_fits_120 rfl (by first | rfl | decide | (split <;> rfl) | (split <;> decide)) (by constructor <;> omega) ?_
            refine ⟨congrArg (fun z => some (Sum.inl z)) ?_, rfl, rfl⟩
            simp_all [fitB, subB]
          · refine ev_aload_0 (q := 102) dX4_fits_101 rfl ?_
            refine ev_getR (q := 105) dX4_fits_102 fl_RX4_12 (by first | assumption | rfl) (by rfl) rfl ?_
            refine ev_iload_2 (q := 106) dX4_fits_105 rfl ?_
            refine ev_iload_6 (q := 108) dX4_fits_106 rfl ?_
            refine ev_callV2i (q := 111) dX4_fits_108 vs_RX4_42 (by first | assumption | rfl) (c_X6_stepsN h he (by constructor <;> omega)) (by decide) (Nat.le_of_ble_eq_true rfl) rfl (fun h_108 => ?_)
            refine ev_iconst (q := 112) dX4_fits_111 rfl ?_
            refine ev_icmp_eq (t := 119) (q := 115) dX4_fits_112 (by decide) rfl (by constructor <;> omega) (by constructor <;> omega) (fun h_112 => ?_) (fun h_112 => ?_)
            · refine ev_iconst (q := 120) dX4_fits_119 rfl ?_
              refine ev_ireturn dX4_fits_120 rfl (by first | rfl | decide | (split <;> rfl) | (split <;> decide)) (by constructor <;> omega) ?_
              refine ⟨congrArg (fun z => some (Sum.inl z)) ?_, rfl, rfl⟩
              simp_all [fitB, subB]
            · refine ev_iconst (q := 116) dX4_fits_115 rfl ?_
              refine ev_goto (q := 120) dX4_fits_116 (by decide) ?_
              refine ev_ireturn dX4_fits_120 rfl (by first | rfl | decide | (split <;> rfl) | (split <;> decide)) (by constructor <;> omega) ?_
              refine ⟨congrArg (fun z => some (Sum.inl z)) ?_, rfl, rfl⟩
              simp_all [fitB, subB]
  · refine ev_iload_3 (q := 49) dX4_fits_48 rfl ?_
    refine ev_aload_0 (q := 50) dX4_fits_49 rfl ?_
    refine ev_getR (q := 53) dX4_fits_50 fl_RX4_12 (by first | assumption | rfl) (by rfl) rfl ?_
    refine ev_iload_2 (q := 54) dX4_fits_53 rfl ?_
    refine ev_callV1i (q := 57) dX4_fits_54 vs_RX4_31 (by first | assumption | rfl) (c_X6_kindN he16) (by decide) (Nat.le_of_ble_eq_true rfl) rfl (fun h_54 => ?_)
    refine ev_icmp_ne (t := 119) (q := 60) dX4_fits_57 (by decide) rfl (by constructor <;> omega) (by constructor <;> omega) (fun h_57 => ?_) (fun h_57 => ?_)
    · refine ev_iconst (q := 120) dX4_fits_119 rfl ?_
      refine ev_ireturn dX4_fits_120 rfl (by first | rfl | decide | (split <;> rfl) | (split <;> decide)) (by constructor <;> omega) ?_
      refine ⟨congrArg (fun z => some (Sum.inl z)) ?_, rfl, rfl⟩
      simp_all [fitB, subB]
    · refine ev_aload_0 (q := 61) dX4_fits_60 rfl ?_
      refine ev_getR (q := 64) dX4_fits_61 fl_RX4_12 (by first | assumption | rfl) (by rfl) rfl ?_
      refine ev_iload_2 (q := 65) dX4_fits_64 rfl ?_
      refine ev_callV1i (q := 68) dX4_fits_65 vs_RX4_35 (by first | assumption | rfl) (c_X6_classesN he16) (by decide) (Nat.le_of_ble_eq_true rfl) rfl (fun h_65 => ?_)
      refine ev_iload_4 (q := 70) dX4_fits_68 rfl ?_
      refine ev_iand (q := 71) dX4_fits_70 rfl ?_
      refine ev_iload_4 (q := 73) dX4_fits_71 rfl ?_
      refine ev_icmp_ne (t := 119) (q := 76) dX4_fits_73 (by decide) rfl (by constructor <;> omega) (by constructor <;> omega) (fun h_73 => ?_) (fun h_73 => ?_)
      · refine ev_iconst (q := 120) dX4_fits_119 rfl ?_
        refine ev_ireturn dX4_fits_120 rfl (by first | rfl | decide | (split <;> rfl) | (split <;> decide)) (by constructor <;> omega) ?_
        refine ⟨congrArg (fun z => some (Sum.inl z)) ?_, rfl, rfl⟩
        simp_all [fitB, subB]
      · refine ev_iload_5 (q := 78) dX4_fits_76 rfl ?_
        refine ev_iconst (q := 79) dX4_fits_78 rfl ?_
        refine ev_icmp_eq (t := 95) (q := 82) dX4_fits_79 (by decide) rfl (by constructor <;> omega) (by constructor <;> omega) (fun h_79 => ?_) (fun h_79 => ?_)
        · refine ev_iload_6 (q := 97) dX4_fits_95 rfl ?_
          refine ev_iconst (q := 98) dX4_fits_97 rfl ?_
          refine ev_icmp_eq (t := 115) (q := 101) dX4_fits_98 (by decide) rfl (by constructor <;> omega) (by constructor <;> omega) (fun h_98 => ?_) (fun h_98 => ?_)
          · refine ev_iconst (q := 116) dX4_fits_115 rfl ?_
            refine ev_goto (q := 120) dX4_fits_116 (by decide) ?_
            refine ev_ireturn dX4_fits_120 rfl (by first | rfl | decide | (split <;> rfl) | (split <;> decide)) (by constructor <;> omega) ?_
            refine ⟨congrArg (fun z => some (Sum.inl z)) ?_, rfl, rfl⟩
            simp_all [fitB, subB]
          · refine ev_aload_0 (q := 102) dX4_fits_101 rfl ?_
            refine ev_getR (q := 105) dX4_fits_102 fl_RX4_12 (by first | assumption | rfl) (by rfl) rfl ?_
            refine ev_iload_2 (q := 106) dX4_fits_105 rfl ?_
            refine ev_iload_6 (q := 108) dX4_fits_106 rfl ?_
            refine ev_callV2i (q := 111) dX4_fits_108 vs_RX4_42 (by first | assumption | rfl) (c_X6_stepsN h he (by constructor <;> omega)) (by decide) (Nat.le_of_ble_eq_true rfl) rfl (fun h_108 => ?_)
            refine ev_iconst (q := 112) dX4_fits_111 rfl ?_
            refine ev_icmp_eq (t := 119) (q := 115) dX4_fits_112 (by decide) rfl (by constructor <;> omega) (by constructor <;> omega) (fun h_112 => ?_) (fun h_112 => ?_)
            · refine ev_iconst (q := 120) dX4_fits_119 rfl ?_
              refine ev_ireturn dX4_fits_120 rfl (by first | rfl | decide | (split <;> rfl) | (split <;> decide)) (by constructor <;> omega) ?_
              refine ⟨congrArg (fun z => some (Sum.inl z)) ?_, rfl, rfl⟩
              simp_all [fitB, subB]
            · refine ev_iconst (q := 116) dX4_fits_115 rfl ?_
              refine ev_goto (q := 120) dX4_fits_116 (by decide) ?_
              refine ev_ireturn dX4_fits_120 rfl (by first | rfl | decide | (split <;> rfl) | (split <;> decide)) (by constructor <;> omega) ?_
              refine ⟨congrArg (fun z => some (Sum.inl z)) ?_, rfl, rfl⟩
              simp_all [fitB, subB]
        · refine ev_aload_0 (q := 83) dX4_fits_82 rfl ?_
          refine ev_getR (q := 86) dX4_fits_83 fl_RX4_12 (by first | assumption | rfl) (by rfl) rfl ?_
          refine ev_iload_2 (q := 87) dX4_fits_86 rfl ?_
          refine ev_iload_5 (q := 89) dX4_fits_87 rfl ?_
          refine ev_callV2i (q := 92) dX4_fits_89 vs_RX4_38 (by first | assumption | rfl) (c_X6_hasKindN h he (by constructor <;> omega)) (by decide) (Nat.le_of_ble_eq_true rfl) rfl (fun h_89 => ?_)
          refine ev_b_eq (t := 119) (q := 95) dX4_fits_92 (by decide) rfl (fun h_92 => ?_) (fun h_92 => ?_)
          · refine ev_iconst (q := 120) dX4_fits_119 rfl ?_
            refine ev_ireturn dX4_fits_120 rfl (by first | rfl | decide | (split <;> rfl) | (split <;> decide)) (by constructor <;> omega) ?_
            refine ⟨congrArg (fun z => some (Sum.inl z)) ?_, rfl, rfl⟩
            simp_all [fitB, subB]
          · refine ev_iload_6 (q := 97) dX4_fits_95 rfl ?_
            refine ev_iconst (q := 98) dX4_fits_97 rfl ?_
            refine ev_icmp_eq (t := 115) (q := 101) dX4_fits_98 (by decide) rfl (by constructor <;> omega) (by constructor <;> omega) (fun h_98 => ?_) (fun h_98 => ?_)
            · refine ev_iconst (q := 116) dX4_fits_115 rfl ?_
              refine ev_goto (q := 120) dX4_fits_116 (by decide) ?_
              refine ev_ireturn dX4_fits_120 rfl (by first | rfl | decide | (split <;> rfl) | (split <;> decide)) (by constructor <;> omega) ?_
              refine ⟨congrArg (fun z => some (Sum.inl z)) ?_, rfl, rfl⟩
              simp_all [fitB, subB]
            · refine ev_aload_0 (q := 102) dX4_fits_101 rfl ?_
              refine ev_getR (q := 105) dX4_fits_102 fl_RX4_12 (by first | assumption | rfl) (by rfl) rfl ?_
              refine ev_iload_2 (q := 106) dX4_fits_105 rfl ?_
              refine ev_iload_6 (q := 108) dX4_fits_106 rfl ?_
              refine ev_callV2i (q := 111) dX4_fits_108 vs_RX4_42 (by first | assumption | rfl) (c_X6_stepsN h he (by constructor <;> omega)) (by decide) (Nat.le_of_ble_eq_true rfl) rfl (fun h_108 => ?_)
              refine ev_iconst (q := 112) dX4_fits_111 rfl ?_
              refine ev_icmp_eq (t := 119) (q := 115) dX4_fits_112 (by decide) rfl (by constructor <;> omega) (by constructor <;> omega) (fun h_112 => ?_) (fun h_112 => ?_)
              · refine ev_iconst (q := 120) dX4_fits_119 rfl ?_
                refine ev_ireturn dX4_fits_120 rfl (by first | rfl | decide | (split <;> rfl) | (split <;> decide)) (by constructor <;> omega) ?_
                refine ⟨congrArg (fun z => some (Sum.inl z)) ?_, rfl, rfl⟩
                simp_all [fitB, subB]
              · refine ev_iconst (q := 116) dX4_fits_115 rfl ?_
                refine ev_goto (q := 120) dX4_fits_116 (by decide) ?_
                refine ev_ireturn dX4_fits_120 rfl (by first | rfl | decide | (split <;> rfl) | (split <;> decide)) (by constructor <;> omega) ?_
                refine ⟨congrArg (fun z => some (Sum.inl z)) ?_, rfl, rfl⟩
                simp_all [fitB, subB]

