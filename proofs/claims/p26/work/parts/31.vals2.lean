set_option maxHeartbeats 4000000 in
theorem c_X1_giveValue {l : Launch} {M : ev_M} {v : Vw} {e p : Nat} (hR : RM M) (hv : cV M 1 = v) (h : Wf v) (he : (e : Int) < vel v) (hp : p < 16) (hw : M 85 (16 * e + p) = winV v e p) (hcy : 8 ≤ p → M 87 (16 * e + p) = cycV v e p) : Cx l 3 kX1_giveValue yX1_giveValue S0 M [vr 81, vr 1, vi (e : Int), vi (p : Int)] none (gvM v e p M) := by
  have h0 := h.1
  have he16 : e < 16 := by omega
  have hpar := (h.2.2.1 e he).1
  have hcr := cycV_rng v e p
  have ei : ((e : Int) * 16 + (p : Int)).toNat = 16 * e + p := by omega
  have hcg := c_X1_given (l := l) hR hv h he16 hp hw
  have J125 : ∀ (x y : Int) (w4 w5 w8 : Option ev_V), x = (gpr v e (fun q => M 89 (16 * e + q)) (fun q => M 89 (16 * (vpar v e).toNat + q)) (fun q => M 91 (16 * (vpar v e).toNat + q)) p).1 → y = (gpr v e (fun q => M 89 (16 * e + q)) (fun q => M 89 (16 * (vpar v e).toNat + q)) (fun q => M 91 (16 * (vpar v e).toNat + q)) p).2 → inR x → inR y → Ev l none 3 kX1_giveValue (0, 0) S0 M 125 [some (vr 81), some (vr 1), some (vi (e : Int)), some (vi (p : Int)), w4, w5, some (vi x), some (vi y), w8] [] (QX none S0 (gvM v e p M)) := by
    intro x y w4 w5 w8 hx hy ix iy
    refine ev_aload_0 (q := 126) dX1_giveValue_125 rfl ?_
    refine ev_getR (q := 129) dX1_giveValue_126 fl_RX1_26 (by first | assumption | rfl) (by rfl) rfl ?_
    refine ev_iload_2 (q := 130) dX1_giveValue_129 rfl ?_
    refine ev_iload_3 (q := 131) dX1_giveValue_130 rfl ?_
    refine ev_callS2i (q := 134) dX1_giveValue_131 ss_RX1_83 (c_X1_cell (by omega) (by omega)) (by decide) (Nat.le_of_ble_eq_true rfl) rfl (fun h_131 => ?_)
    refine ev_iload_6 (q := 136) dX1_giveValue_134 rfl ?_
    refine ev_callV2v (q := 139) dX1_giveValue_136 vs_RX1_79 (by first | assumption | rfl) (c_X2_putR (by first | assumption | rfl) (by first | assumption | rfl) (by first | decide | omega) (by omega) (by constructor <;> omega)) (by decide) (Nat.le_of_ble_eq_true rfl) rfl ?_
    refine ev_aload_0 (q := 140) dX1_giveValue_139 rfl ?_
    refine ev_getR (q := 143) dX1_giveValue_140 fl_RX1_29 (by first | assumption | rfl) (by rfl) rfl ?_
    refine ev_iload_2 (q := 144) dX1_giveValue_143 rfl ?_
    refine ev_iload_3 (q := 145) dX1_giveValue_144 rfl ?_
    refine ev_callS2i (q := 148) dX1_giveValue_145 ss_RX1_83 (c_X1_cell (by omega) (by omega)) (by decide) (Nat.le_of_ble_eq_true rfl) rfl (fun h_145 => ?_)
    refine ev_iload_7 (q := 150) dX1_giveValue_148 rfl ?_
    refine ev_callV2v (q := 153) dX1_giveValue_150 vs_RX1_79 (by first | assumption | rfl) (c_X2_putR (by first | assumption | rfl) (by first | assumption | rfl) (by first | decide | omega) (by omega) (by constructor <;> omega)) (by decide) (Nat.le_of_ble_eq_true rfl) rfl ?_
    refine ev_return dX1_giveValue_153 rfl ?_
    refine ⟨rfl, rfl, ?_⟩
    rw [ei]
    unfold gvM
    rw [hx, hy]
  have J75 : ∀ (src : Int) (w7 w8 : Option ev_V), inR (gx v e (fun q => M 89 (16 * e + q)) p) → src = (if gx v e (fun q => M 89 (16 * e + q)) p = -1 then -1 else (e : Int)) → Ev l none 3 kX1_giveValue (0, 0) S0 M 75 [some (vr 81), some (vr 1), some (vi (e : Int)), some (vi (p : Int)), some (vi (if cyB v e p then 1 else 0)), some (vi (if inB p then 1 else 0)), some (vi (gx v e (fun q => M 89 (16 * e + q)) p)), w7, w8] [vi src] (QX none S0 (gvM v e p M)) := by
    intro src w7 w8 ig hsrc
    have isrc : inR src := by rw [hsrc]; split <;> (constructor <;> omega)
    have hno : ¬ (gx v e (fun q => M 89 (16 * e + q)) p = -1 ∧ ¬ cyB v e p ∧ inB p ∧ e ≠ 0) → Ev l none 3 kX1_giveValue (0, 0) S0 M 125 [some (vr 81), some (vr 1), some (vi (e : Int)), some (vi (p : Int)), some (vi (if cyB v e p then 1 else 0)), some (vi (if inB p then 1 else 0)), some (vi (gx v e (fun q => M 89 (16 * e + q)) p)), some (vi src), w8] [] (QX none S0 (gvM v e p M)) := by
      intro hn
      refine J125 _ _ _ _ _ ?_ ?_ ig isrc
      · rw [gpr, if_neg hn]
      · rw [gpr, if_neg hn, hsrc]
    refine ev_istore_7 (q := 77) dX1_giveValue_75 rfl (by decide) ?_
    refine ev_iload_6 (q := 79) dX1_giveValue_77 rfl ?_
    refine ev_iconst (q := 80) dX1_giveValue_79 rfl ?_
    refine ev_icmp_ne (t := 125) (q := 83) dX1_giveValue_80 (by decide) rfl (by constructor <;> omega) (by constructor <;> omega) (fun h_80 => ?_) (fun h_80 => ?_)
    · first | exact hno (fun q => absurd q.1 (by assumption)) | exact hno (fun q => q.2.1 (by assumption)) | exact hno (fun q => absurd q.2.2.1 (by assumption)) | exact hno (fun q => q.2.2.2 (by omega)) | exact J125 _ _ _ _ _ (by rw [gpr, if_pos ⟨h_80, h_85, h_90, by omega⟩]; exact congrArg (M 89) (by omega)) (by rw [gpr, if_pos ⟨h_80, h_85, h_90, by omega⟩]; exact congrArg (M 91) (by omega)) h_111 h_120
    · refine ev_iload_4 (q := 85) dX1_giveValue_83 rfl ?_
      refine ev_b_ne (t := 125) (q := 88) dX1_giveValue_85 (by decide) rfl (fun h_85 => ?_) (fun h_85 => ?_)
      · first | exact hno (fun q => absurd q.1 (by assumption)) | exact hno (fun q => q.2.1 (by assumption)) | exact hno (fun q => absurd q.2.2.1 (by assumption)) | exact hno (fun q => q.2.2.2 (by omega)) | exact J125 _ _ _ _ _ (by rw [gpr, if_pos ⟨h_80, h_85, h_90, by omega⟩]; exact congrArg (M 89) (by omega)) (by rw [gpr, if_pos ⟨h_80, h_85, h_90, by omega⟩]; exact congrArg (M 91) (by omega)) h_111 h_120
      · refine ev_iload_5 (q := 90) dX1_giveValue_88 rfl ?_
        refine ev_b_eq (t := 125) (q := 93) dX1_giveValue_90 (by decide) rfl (fun h_90 => ?_) (fun h_90 => ?_)
        · first | exact hno (fun q => absurd q.1 (by assumption)) | exact hno (fun q => q.2.1 (by assumption)) | exact hno (fun q => absurd q.2.2.1 (by assumption)) | exact hno (fun q => q.2.2.2 (by omega)) | exact J125 _ _ _ _ _ (by rw [gpr, if_pos ⟨h_80, h_85, h_90, by omega⟩]; exact congrArg (M 89) (by omega)) (by rw [gpr, if_pos ⟨h_80, h_85, h_90, by omega⟩]; exact congrArg (M 91) (by omega)) h_111 h_120
        · refine ev_iload_2 (q := 94) dX1_giveValue_93 rfl ?_
          refine ev_if_eq (t := 125) (q := 97) dX1_giveValue_94 (by decide) rfl (by constructor <;> omega) (fun h_94 => ?_) (fun h_94 => ?_)
          · first | exact hno (fun q => absurd q.1 (by assumption)) | exact hno (fun q => q.2.1 (by assumption)) | exact hno (fun q => absurd q.2.2.1 (by assumption)) | exact hno (fun q => q.2.2.2 (by omega)) | exact J125 _ _ _ _ _ (by rw [gpr, if_pos ⟨h_80, h_85, h_90, by omega⟩]; exact congrArg (M 89) (by omega)) (by rw [gpr, if_pos ⟨h_80, h_85, h_90, by omega⟩]; exact congrArg (M 91) (by omega)) h_111 h_120
          · refine ev_aload_1 (q := 98) dX1_giveValue_97 rfl ?_
            refine ev_getR (q := 101) dX1_giveValue_98 fl_RX1_36 (by first | assumption | rfl) (by rfl) rfl ?_
            refine ev_iload_2 (q := 102) dX1_giveValue_101 rfl ?_
            refine ev_callV1i (q := 105) dX1_giveValue_102 vs_RX1_123 (by first | assumption | rfl) (c_X6_parentN he16) (by decide) (Nat.le_of_ble_eq_true rfl) rfl (fun h_102 => ?_)
            rw [hv] at *
            refine ev_istore_8 (q := 107) dX1_giveValue_105 rfl (by decide) ?_
            refine ev_aload_0 (q := 108) dX1_giveValue_107 rfl ?_
            refine ev_iload_8 (q := 110) dX1_giveValue_108 rfl ?_
            refine ev_iload_3 (q := 111) dX1_giveValue_110 rfl ?_
            refine ev_callV2i (q := 114) dX1_giveValue_111 vs_RX1_127 (by first | assumption | rfl) (c_X1_valueOn (by omega) (by omega)) (by decide) (Nat.le_of_ble_eq_true rfl) rfl (fun h_111 => ?_)
            refine ev_istore_6 (q := 116) dX1_giveValue_114 rfl (by decide) ?_
            refine ev_aload_0 (q := 117) dX1_giveValue_116 rfl ?_
            refine ev_iload_8 (q := 119) dX1_giveValue_117 rfl ?_
            refine ev_iload_3 (q := 120) dX1_giveValue_119 rfl ?_
            refine ev_callV2i (q := 123) dX1_giveValue_120 vs_RX1_130 (by first | assumption | rfl) (c_X1_sourceOn (by omega) (by omega)) (by decide) (Nat.le_of_ble_eq_true rfl) rfl (fun h_120 => ?_)
            refine ev_istore_7 (q := 125) dX1_giveValue_123 rfl (by decide) ?_
            first | exact hno (fun q => absurd q.1 (by assumption)) | exact hno (fun q => q.2.1 (by assumption)) | exact hno (fun q => absurd q.2.2.1 (by assumption)) | exact hno (fun q => q.2.2.2 (by omega)) | exact J125 _ _ _ _ _ (by rw [gpr, if_pos ⟨h_80, h_85, h_90, by omega⟩]; exact congrArg (M 89) (by omega)) (by rw [gpr, if_pos ⟨h_80, h_85, h_90, by omega⟩]; exact congrArg (M 91) (by omega)) h_111 h_120
  have J62 : ∀ (g : Int) (w6 w7 w8 : Option ev_V), inR g → g = gx v e (fun q => M 89 (16 * e + q)) p → Ev l none 3 kX1_giveValue (0, 0) S0 M 62 [some (vr 81), some (vr 1), some (vi (e : Int)), some (vi (p : Int)), some (vi (if cyB v e p then 1 else 0)), some (vi (if inB p then 1 else 0)), w6, w7, w8] [vi g] (QX none S0 (gvM v e p M)) := by
    intro g w6 w7 w8 ig hg
    subst hg
    refine ev_istore_6 (q := 64) dX1_giveValue_62 rfl (by decide) ?_
    refine ev_iload_6 (q := 66) dX1_giveValue_64 rfl ?_
    refine ev_iconst (q := 67) dX1_giveValue_66 rfl ?_
    refine ev_icmp_ne (t := 74) (q := 70) dX1_giveValue_67 (by decide) rfl (by constructor <;> omega) (by constructor <;> omega) (fun h_67 => ?_) (fun h_67 => ?_)
    · refine ev_iload_2 (q := 75) dX1_giveValue_74 rfl ?_
      exact J75 _ _ _ ig (by first | (rw [if_pos (by assumption)]; done) | (rw [if_neg (by assumption)]))
    · refine ev_iconst (q := 71) dX1_giveValue_70 rfl ?_
      refine ev_goto (q := 75) dX1_giveValue_71 (by decide) ?_
      exact J75 _ _ _ ig (by first | (rw [if_pos (by assumption)]; done) | (rw [if_neg (by assumption)]))
  have J41 : ∀ (t : Int) (w5 w6 w7 w8 : Option ev_V), t = (if inB p then 1 else 0) → Ev l none 3 kX1_giveValue (0, 0) S0 M 41 [some (vr 81), some (vr 1), some (vi (e : Int)), some (vi (p : Int)), some (vi (if cyB v e p then 1 else 0)), w5, w6, w7, w8] [vi t] (QX none S0 (gvM v e p M)) := by
    intro t w5 w6 w7 w8 ht
    rw [ht]
    refine ev_istore_5 (q := 43) dX1_giveValue_41 rfl (by decide) ?_
    refine ev_iload_4 (q := 45) dX1_giveValue_43 rfl ?_
    refine ev_b_eq (t := 52) (q := 48) dX1_giveValue_45 (by decide) rfl (fun h_45 => ?_) (fun h_45 => ?_)
    · refine ev_aload_0 (q := 53) dX1_giveValue_52 rfl ?_
      refine ev_aload_1 (q := 54) dX1_giveValue_53 rfl ?_
      refine ev_getR (q := 57) dX1_giveValue_54 fl_RX1_52 (by first | assumption | rfl) (by rfl) rfl ?_
      refine ev_iload_2 (q := 58) dX1_giveValue_57 rfl ?_
      refine ev_iload_3 (q := 59) dX1_giveValue_58 rfl ?_
      refine ev_callV3i (q := 62) dX1_giveValue_59 vs_RX1_120 (by first | assumption | rfl) hcg (by decide) (Nat.le_of_ble_eq_true rfl) rfl (fun h_59 => ?_)
      first | exact J62 _ _ _ _ (by constructor <;> omega) (by rw [gx, if_pos h_45]) | exact J62 _ _ _ _ h_59 (by rw [gx, if_neg h_45])
    · refine ev_iconst (q := 49) dX1_giveValue_48 rfl ?_
      refine ev_goto (q := 62) dX1_giveValue_49 (by decide) ?_
      first | exact J62 _ _ _ _ (by constructor <;> omega) (by rw [gx, if_pos h_45]) | exact J62 _ _ _ _ h_59 (by rw [gx, if_neg h_45])
  have J21 : ∀ (t : Int) (w4 w5 w6 w7 w8 : Option ev_V), t = (if cyB v e p then 1 else 0) → Ev l none 3 kX1_giveValue (0, 0) S0 M 21 [some (vr 81), some (vr 1), some (vi (e : Int)), some (vi (p : Int)), w4, w5, w6, w7, w8] [vi t] (QX none S0 (gvM v e p M)) := by
    intro t w4 w5 w6 w7 w8 ht
    rw [ht]
    refine ev_istore_4 (q := 23) dX1_giveValue_21 rfl (by decide) ?_
    refine ev_iload_3 (q := 24) dX1_giveValue_23 rfl ?_
    refine ev_callS1i (q := 27) dX1_giveValue_24 ss_RX1_113 (c_X7_isCustom (by constructor <;> omega)) (by decide) (Nat.le_of_ble_eq_true rfl) rfl (fun h_24 => ?_)
    refine ev_b_ne (t := 36) (q := 30) dX1_giveValue_27 (by decide) rfl (fun h_27 => ?_) (fun h_27 => ?_)
    · refine ev_iconst (q := 37) dX1_giveValue_36 rfl ?_
      refine ev_goto (q := 41) dX1_giveValue_37 (by decide) ?_
      exact J41 _ _ _ _ _ (by first | (rw [if_pos (by omega)]; done) | (rw [if_neg (by omega)]))
    · refine ev_iload_3 (q := 31) dX1_giveValue_30 rfl ?_
      refine ev_iconst (q := 32) dX1_giveValue_31 rfl ?_
      refine ev_irem (q := 33) dX1_giveValue_32 rfl ⟨by constructor <;> omega, by constructor <;> omega, by omega, by omega⟩ ?_
      refine ev_if_ne (t := 40) (q := 36) dX1_giveValue_33 (by decide) rfl (by constructor <;> omega) (fun h_33 => ?_) (fun h_33 => ?_)
      · refine ev_iconst (q := 41) dX1_giveValue_40 rfl ?_
        exact J41 _ _ _ _ _ (by first | (rw [if_pos (by omega)]; done) | (rw [if_neg (by omega)]))
      · refine ev_iconst (q := 37) dX1_giveValue_36 rfl ?_
        refine ev_goto (q := 41) dX1_giveValue_37 (by decide) ?_
        exact J41 _ _ _ _ _ (by first | (rw [if_pos (by omega)]; done) | (rw [if_neg (by omega)]))
  refine Cx.of (by decide) rfl (by decide) (Nat.le_of_ble_eq_true rfl) ?_
  refine (show Ev _ none _ _ _ _ _ 0 [_, _, _, _, _, _, _, _, _] [] _ from ?_)
  refine ev_iload_3 (q := 1) dX1_giveValue_0 rfl ?_
  refine ev_callS1i (q := 4) dX1_giveValue_1 ss_RX1_113 (c_X7_isCustom (by constructor <;> omega)) (by decide) (Nat.le_of_ble_eq_true rfl) rfl (fun h_1 => ?_)
  refine ev_b_eq (t := 20) (q := 7) dX1_giveValue_4 (by decide) rfl (fun h_4 => ?_) (fun h_4 => ?_)
  · refine ev_iconst (q := 21) dX1_giveValue_20 rfl ?_
    exact J21 _ _ _ _ _ _ (by first | (rw [if_pos ⟨by omega, by omega⟩]; done) | (rw [if_neg (fun q => by have := q.1; have := q.2; omega)]))
  · refine ev_aload_0 (q := 8) dX1_giveValue_7 rfl ?_
    refine ev_iload_2 (q := 9) dX1_giveValue_8 rfl ?_
    refine ev_iload_3 (q := 10) dX1_giveValue_9 rfl ?_
    refine ev_callV2i (q := 13) dX1_giveValue_10 vs_RX1_117 (by first | assumption | rfl) (c_X1_cycleOn (by omega) (by omega)) (by decide) (Nat.le_of_ble_eq_true rfl) rfl (fun h_10 => ?_)
    rw [ei, hcy (by omega)] at *
    refine ev_if_le (t := 20) (q := 16) dX1_giveValue_13 (by decide) rfl (by constructor <;> omega) (fun h_13 => ?_) (fun h_13 => ?_)
    · refine ev_iconst (q := 21) dX1_giveValue_20 rfl ?_
      exact J21 _ _ _ _ _ _ (by first | (rw [if_pos ⟨by omega, by omega⟩]; done) | (rw [if_neg (fun q => by have := q.1; have := q.2; omega)]))
    · refine ev_iconst (q := 17) dX1_giveValue_16 rfl ?_
      refine ev_goto (q := 21) dX1_giveValue_17 (by decide) ?_
      exact J21 _ _ _ _ _ _ (by first | (rw [if_pos ⟨by omega, by omega⟩]; done) | (rw [if_neg (fun q => by have := q.1; have := q.2; omega)]))

