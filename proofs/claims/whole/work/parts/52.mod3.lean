/-- by which criterion a and b differ first; its sign says who wins -/
def wnV (v : Vw) (e a b : Nat) : Int := if rkV v a e 1 ≠ rkV v b e 1 then (if rkV v a e 1 > rkV v b e 1 then 1 else -1) else if rkV v a e 2 ≠ rkV v b e 2 then (if rkV v a e 2 > rkV v b e 2 then 2 else -2) else if rkV v a e 3 ≠ rkV v b e 3 then (if rkV v a e 3 > rkV v b e 3 then 3 else -3) else if rkV v a e 4 ≠ rkV v b e 4 then (if rkV v a e 4 > rkV v b e 4 then 4 else -4) else if a > b then 5 else -5
theorem fitB_sc {v : Vw} {r e : Nat} (h : fitB v r e = true) : vpt v r 4 = -1 ∨ stp (vpar v) 16 e (vpt v r 4) ≠ -1 := by
  unfold fitB at h
  simp only [Bool.and_eq_true, Bool.or_eq_true, decide_eq_true_eq] at h
  exact h.2
theorem wnV_pos {v : Vw} (h : Wf v) {e a b : Nat} (ha : (a : Int) < vrn v) (hb : (b : Int) < vrn v) (hfa : fitB v a e = true) (hfb : fitB v b e = true) : (0 < wnV v e a b ↔ strV v b e < strV v a e) ∧ (strV v b e < strV v a e → wnV v e a b = crV v a b e) := by
  have a1 := rkV_rng h (e := e) (c := 1) ha
  have a2 := rkV_rng h (e := e) (c := 2) ha
  have a3 := rkV_rng h (e := e) (c := 3) ha
  have a4 := rkV_rng h (e := e) (c := 4) ha
  have b1 := rkV_rng h (e := e) (c := 1) hb
  have b2 := rkV_rng h (e := e) (c := 2) hb
  have b3 := rkV_rng h (e := e) (c := 3) hb
  have b4 := rkV_rng h (e := e) (c := 4) hb
  have h2 := h.2.1
  have ea : strV v a e = (((rkV v a e 1 * 64 + rkV v a e 2) * 64 + rkV v a e 3) * 64 + rkV v a e 4) * 64 + a := by
    rw [strV, if_pos hfa]
    simp only [accV]
    rw [show rkV v a e 5 = a from rfl]
    simp
  have eb : strV v b e = (((rkV v b e 1 * 64 + rkV v b e 2) * 64 + rkV v b e 3) * 64 + rkV v b e 4) * 64 + b := by
    rw [strV, if_pos hfb]
    simp only [accV]
    rw [show rkV v b e 5 = b from rfl]
    simp
  rw [ea, eb, wnV, crV]
  generalize rkV v a e 1 = p1 at *
  generalize rkV v a e 2 = p2 at *
  generalize rkV v a e 3 = p3 at *
  generalize rkV v a e 4 = p4 at *
  generalize rkV v b e 1 = q1 at *
  generalize rkV v b e 2 = q2 at *
  generalize rkV v b e 3 = q3 at *
  generalize rkV v b e 4 = q4 at *
  refine ⟨⟨fun q => ?_, fun q => ?_⟩, fun q => ?_⟩
  · (repeat' split at q) <;> omega
  · (repeat' split) <;> omega
  · (repeat' split) <;> omega
theorem QXe {x y : Int} {S : List ev_Sh} {M : ev_M} (h : x = y) : QX (some (vi y)) S M (some (vi x)) S M := ⟨by rw [h], rfl, rfl⟩
section Wins
variable {l : Launch} {M : ev_M} {v : Vw} {e a b : Nat}
set_option maxHeartbeats 1000000 in
theorem t_wins_172 {w4 w5 : Option ev_V} (hA : Ag (M 101) v) (hW : Wf v) (ha : (a : Int) < vrn v) (hb : (b : Int) < vrn v) (k1 : rkV v a e 1 = rkV v b e 1) (k2 : rkV v a e 2 = rkV v b e 2) (k3 : rkV v a e 3 = rkV v b e 3) : Ev l none 2 kX8_wins (0, 0) S0 M 172 [some (vr 100), some (vi (e : Int)), some (vi (a : Int)), some (vi (b : Int)), w4, w5] [] (QX (some (vi (wnV v e a b))) S0 M) := by
  have h2 := hW.2.1
  have ga := spc_rng (k := vpt v a 0) (a := vpt v a 2) (hW.2.2.2.1 a ha).2.1
  have gb := spc_rng (k := vpt v b 0) (a := vpt v b 2) (hW.2.2.2.1 b hb).2.1
  have hw : wnV v e a b = (if spc (vpt v a 0) (vpt v a 1) (vpt v a 2) ≠ spc (vpt v b 0) (vpt v b 1) (vpt v b 2) then (if spc (vpt v a 0) (vpt v a 1) (vpt v a 2) > spc (vpt v b 0) (vpt v b 1) (vpt v b 2) then 4 else -4) else if a > b then 5 else -5) := by
    rw [wnV, if_neg (fun q => q k1), if_neg (fun q => q k2), if_neg (fun q => q k3)]
    rfl
  rw [hw]
  clear hw k1 k2 k3
  refine ev_aload_0 (q := 173) dX8_wins_172 rfl ?_
  refine ev_iload_2 (q := 174) dX8_wins_173 rfl ?_
  refine ev_callV1i (q := 177) dX8_wins_174 vs_RX8_108 (by first | assumption | rfl) (c_X8_specificity hA hW ha) (by decide) (Nat.le_of_ble_eq_true rfl) rfl (fun h_174 => ?_)
  refine ev_aload_0 (q := 178) dX8_wins_177 rfl ?_
  refine ev_iload_3 (q := 179) dX8_wins_178 rfl ?_
  refine ev_callV1i (q := 182) dX8_wins_179 vs_RX8_108 (by first | assumption | rfl) (c_X8_specificity hA hW hb) (by decide) (Nat.le_of_ble_eq_true rfl) rfl (fun h_179 => ?_)
  refine ev_icmp_eq (t := 205) (q := 185) dX8_wins_182 (by decide) rfl (by constructor <;> omega) (by constructor <;> omega) (fun h_182 => ?_) (fun h_182 => ?_)
  · refine ev_iload_2 (q := 206) dX8_wins_205 rfl ?_
    refine ev_iload_3 (q := 207) dX8_wins_206 rfl ?_
    refine ev_icmp_le (t := 214) (q := 210) dX8_wins_207 (by decide) rfl (by constructor <;> omega) (by constructor <;> omega) (fun h_207 => ?_) (fun h_207 => ?_)
    · refine ev_bipush (q := 216) dX8_wins_214 rfl (by decide) ?_
      refine ev_ireturn dX8_wins_216 rfl rfl (by constructor <;> omega) ?_
      exact QXe (by first | rw [if_neg (fun q => q h_182), if_neg (by omega)] | rw [if_neg (fun q => q h_182), if_pos (by omega)])
    · refine ev_iconst (q := 211) dX8_wins_210 rfl ?_
      refine ev_goto (q := 216) dX8_wins_211 (by decide) ?_
      refine ev_ireturn dX8_wins_216 rfl rfl (by constructor <;> omega) ?_
      exact QXe (by first | rw [if_neg (fun q => q h_182), if_neg (by omega)] | rw [if_neg (fun q => q h_182), if_pos (by omega)])
  · refine ev_aload_0 (q := 186) dX8_wins_185 rfl ?_
    refine ev_iload_2 (q := 187) dX8_wins_186 rfl ?_
    refine ev_callV1i (q := 190) dX8_wins_187 vs_RX8_108 (by first | assumption | rfl) (c_X8_specificity hA hW ha) (by decide) (Nat.le_of_ble_eq_true rfl) rfl (fun h_187 => ?_)
    refine ev_aload_0 (q := 191) dX8_wins_190 rfl ?_
    refine ev_iload_3 (q := 192) dX8_wins_191 rfl ?_
    refine ev_callV1i (q := 195) dX8_wins_192 vs_RX8_108 (by first | assumption | rfl) (c_X8_specificity hA hW hb) (by decide) (Nat.le_of_ble_eq_true rfl) rfl (fun h_192 => ?_)
    refine ev_icmp_le (t := 202) (q := 198) dX8_wins_195 (by decide) rfl (by constructor <;> omega) (by constructor <;> omega) (fun h_195 => ?_) (fun h_195 => ?_)
    · refine ev_bipush (q := 204) dX8_wins_202 rfl (by decide) ?_
      refine ev_ireturn dX8_wins_204 rfl rfl (by constructor <;> omega) ?_
      exact QXe (by first | rw [if_pos h_182, if_neg (by omega)] | rw [if_pos h_182, if_pos (by omega)])
    · refine ev_iconst (q := 199) dX8_wins_198 rfl ?_
      refine ev_goto (q := 204) dX8_wins_199 (by decide) ?_
      refine ev_ireturn dX8_wins_204 rfl rfl (by constructor <;> omega) ?_
      exact QXe (by first | rw [if_pos h_182, if_neg (by omega)] | rw [if_pos h_182, if_pos (by omega)])
set_option maxHeartbeats 1000000 in
theorem t_wins_149 {y1 y2 : Int} (hA : Ag (M 101) v) (hW : Wf v) (ha : (a : Int) < vrn v) (hb : (b : Int) < vrn v) (k1 : rkV v a e 1 = rkV v b e 1) (k2 : rkV v a e 2 = rkV v b e 2) (r1 : rkV v a e 3 = 16 - y1 ∧ -1 ≤ y1 ∧ y1 < 16 ∨ rkV v a e 3 = 0 ∧ y1 = 99) (r2 : rkV v b e 3 = 16 - y2 ∧ -1 ≤ y2 ∧ y2 < 16 ∨ rkV v b e 3 = 0 ∧ y2 = 99) : Ev l none 2 kX8_wins (0, 0) S0 M 149 [some (vr 100), some (vi (e : Int)), some (vi (a : Int)), some (vi (b : Int)), some (vi y1), none] [vi y2] (QX (some (vi (wnV v e a b))) S0 M) := by
  have hw : rkV v a e 3 ≠ rkV v b e 3 → wnV v e a b = (if rkV v a e 3 > rkV v b e 3 then 3 else -3) := fun q => by
    rw [wnV, if_neg (fun q => q k1), if_neg (fun q => q k2), if_pos q]
  refine ev_istore_5 (q := 151) dX8_wins_149 rfl (by decide) ?_
  refine ev_iload_4 (q := 153) dX8_wins_151 rfl ?_
  refine ev_iload_5 (q := 155) dX8_wins_153 rfl ?_
  refine ev_icmp_eq (t := 172) (q := 158) dX8_wins_155 (by decide) rfl (by constructor <;> omega) (by constructor <;> omega) (fun h_155 => ?_) (fun h_155 => ?_)
  · exact t_wins_172 hA hW ha hb k1 k2 (by omega)
  · refine ev_iload_4 (q := 160) dX8_wins_158 rfl ?_
    refine ev_iload_5 (q := 162) dX8_wins_160 rfl ?_
    refine ev_icmp_ge (t := 169) (q := 165) dX8_wins_162 (by decide) rfl (by constructor <;> omega) (by constructor <;> omega) (fun h_162 => ?_) (fun h_162 => ?_)
    · refine ev_bipush (q := 171) dX8_wins_169 rfl (by decide) ?_
      refine ev_ireturn dX8_wins_171 rfl rfl (by constructor <;> omega) ?_
      exact QXe (by first | rw [hw (by omega), if_pos (by omega)] | rw [hw (by omega), if_neg (by omega)])
    · refine ev_iconst (q := 166) dX8_wins_165 rfl ?_
      refine ev_goto (q := 171) dX8_wins_166 (by decide) ?_
      refine ev_ireturn dX8_wins_171 rfl rfl (by constructor <;> omega) ?_
      exact QXe (by first | rw [hw (by omega), if_pos (by omega)] | rw [hw (by omega), if_neg (by omega)])
set_option maxHeartbeats 1000000 in
theorem t_wins_121 {y1 : Int} (hA : Ag (M 101) v) (hW : Wf v) (he : (e : Int) < vel v) (ha : (a : Int) < vrn v) (hb : (b : Int) < vrn v) (fb : vpt v b 4 = -1 ∨ stp (vpar v) 16 e (vpt v b 4) ≠ -1) (k1 : rkV v a e 1 = rkV v b e 1) (k2 : rkV v a e 2 = rkV v b e 2) (r1 : rkV v a e 3 = 16 - y1 ∧ -1 ≤ y1 ∧ y1 < 16 ∨ rkV v a e 3 = 0 ∧ y1 = 99) : Ev l none 2 kX8_wins (0, 0) S0 M 121 [some (vr 100), some (vi (e : Int)), some (vi (a : Int)), some (vi (b : Int)), none, none] [vi y1] (QX (some (vi (wnV v e a b))) S0 M) := by
  have h1 := hW.1
  have h2 := hW.2.1
  have pb := (hW.2.2.2.1 b hb).2.2.2.2.1
  have sb := stp_rng (vpar v) 16 e (vpt v b 4)
  have e3 : rkV v b e 3 = if vpt v b 4 = -1 then 0 else 16 - stp (vpar v) 16 e (vpt v b 4) := rfl
  refine ev_istore_4 (q := 123) dX8_wins_121 rfl (by decide) ?_
  refine ev_aload_0 (q := 124) dX8_wins_123 rfl ?_
  refine ev_iload_3 (q := 125) dX8_wins_124 rfl ?_
  refine ev_iconst (q := 126) dX8_wins_125 rfl ?_
  refine ev_callV2i (q := 129) dX8_wins_126 vs_RX8_58 (by first | assumption | rfl) (c_X8_ofV (w := 4) hA hb (by omega) (by decide)) (by decide) (Nat.le_of_ble_eq_true rfl) rfl (fun h_126 => ?_)
  refine ev_iconst (q := 130) dX8_wins_129 rfl ?_
  refine ev_icmp_ne (t := 138) (q := 133) dX8_wins_130 (by decide) rfl (by constructor <;> omega) (by constructor <;> omega) (fun h_130 => ?_) (fun h_130 => ?_)
  · refine ev_aload_0 (q := 139) dX8_wins_138 rfl ?_
    refine ev_iload_1 (q := 140) dX8_wins_139 rfl ?_
    refine ev_aload_0 (q := 141) dX8_wins_140 rfl ?_
    refine ev_iload_3 (q := 142) dX8_wins_141 rfl ?_
    refine ev_iconst (q := 143) dX8_wins_142 rfl ?_
    refine ev_callV2i (q := 146) dX8_wins_143 vs_RX8_58 (by first | assumption | rfl) (c_X8_ofV (w := 4) hA hb (by omega) (by decide)) (by decide) (Nat.le_of_ble_eq_true rfl) rfl (fun h_143 => ?_)
    refine ev_callV2i (q := 149) dX8_wins_146 vs_RX8_62 (by first | assumption | rfl) (c_X8_stepsTo (by assumption) (by assumption) (by omega) (by constructor <;> omega) (by omega)) (by decide) (Nat.le_of_ble_eq_true rfl) rfl (fun h_146 => ?_)
    refine t_wins_149 hA hW ha hb k1 k2 r1 ?_
    first
    | (rw [if_pos h_130] at e3; omega)
    | (rw [if_neg h_130] at e3; omega)
  · refine ev_bipush (q := 135) dX8_wins_133 rfl (by decide) ?_
    refine ev_goto (q := 149) dX8_wins_135 (by decide) ?_
    refine t_wins_149 hA hW ha hb k1 k2 r1 ?_
    first
    | (rw [if_pos h_130] at e3; omega)
    | (rw [if_neg h_130] at e3; omega)
set_option maxHeartbeats 1000000 in
theorem t_wins_95 (hA : Ag (M 101) v) (hW : Wf v) (he : (e : Int) < vel v) (ha : (a : Int) < vrn v) (hb : (b : Int) < vrn v) (fa : vpt v a 4 = -1 ∨ stp (vpar v) 16 e (vpt v a 4) ≠ -1) (fb : vpt v b 4 = -1 ∨ stp (vpar v) 16 e (vpt v b 4) ≠ -1) (k1 : rkV v a e 1 = rkV v b e 1) (k2 : rkV v a e 2 = rkV v b e 2) : Ev l none 2 kX8_wins (0, 0) S0 M 95 [some (vr 100), some (vi (e : Int)), some (vi (a : Int)), some (vi (b : Int)), none, none] [] (QX (some (vi (wnV v e a b))) S0 M) := by
  have h1 := hW.1
  have h2 := hW.2.1
  have pb := (hW.2.2.2.1 a ha).2.2.2.2.1
  have sb := stp_rng (vpar v) 16 e (vpt v a 4)
  have e3 : rkV v a e 3 = if vpt v a 4 = -1 then 0 else 16 - stp (vpar v) 16 e (vpt v a 4) := rfl
  refine ev_aload_0 (q := 96) dX8_wins_95 rfl ?_
  refine ev_iload_2 (q := 97) dX8_wins_96 rfl ?_
  refine ev_iconst (q := 98) dX8_wins_97 rfl ?_
  refine ev_callV2i (q := 101) dX8_wins_98 vs_RX8_58 (by first | assumption | rfl) (c_X8_ofV (w := 4) hA ha (by omega) (by decide)) (by decide) (Nat.le_of_ble_eq_true rfl) rfl (fun h_98 => ?_)
  refine ev_iconst (q := 102) dX8_wins_101 rfl ?_
  refine ev_icmp_ne (t := 110) (q := 105) dX8_wins_102 (by decide) rfl (by constructor <;> omega) (by constructor <;> omega) (fun h_102 => ?_) (fun h_102 => ?_)
  · refine ev_aload_0 (q := 111) dX8_wins_110 rfl ?_
    refine ev_iload_1 (q := 112) dX8_wins_111 rfl ?_
    refine ev_aload_0 (q := 113) dX8_wins_112 rfl ?_
    refine ev_iload_2 (q := 114) dX8_wins_113 rfl ?_
    refine ev_iconst (q := 115) dX8_wins_114 rfl ?_
    refine ev_callV2i (q := 118) dX8_wins_115 vs_RX8_58 (by first | assumption | rfl) (c_X8_ofV (w := 4) hA ha (by omega) (by decide)) (by decide) (Nat.le_of_ble_eq_true rfl) rfl (fun h_115 => ?_)
    refine ev_callV2i (q := 121) dX8_wins_118 vs_RX8_62 (by first | assumption | rfl) (c_X8_stepsTo (by assumption) (by assumption) (by omega) (by constructor <;> omega) (by omega)) (by decide) (Nat.le_of_ble_eq_true rfl) rfl (fun h_118 => ?_)
    refine t_wins_121 hA hW he ha hb fb k1 k2 ?_
    first
    | (rw [if_pos h_102] at e3; omega)
    | (rw [if_neg h_102] at e3; omega)
  · refine ev_bipush (q := 107) dX8_wins_105 rfl (by decide) ?_
    refine ev_goto (q := 121) dX8_wins_107 (by decide) ?_
    refine t_wins_121 hA hW he ha hb fb k1 k2 ?_
    first
    | (rw [if_pos h_102] at e3; omega)
    | (rw [if_neg h_102] at e3; omega)
set_option maxHeartbeats 1000000 in
theorem t_wins_36 (hA : Ag (M 101) v) (hW : Wf v) (he : (e : Int) < vel v) (ha : (a : Int) < vrn v) (hb : (b : Int) < vrn v) (fa : vpt v a 4 = -1 ∨ stp (vpar v) 16 e (vpt v a 4) ≠ -1) (fb : vpt v b 4 = -1 ∨ stp (vpar v) 16 e (vpt v b 4) ≠ -1) (k1 : rkV v a e 1 = rkV v b e 1) (k0 : vpt v a 5 = vpt v b 5) : Ev l none 2 kX8_wins (0, 0) S0 M 36 [some (vr 100), some (vi (e : Int)), some (vi (a : Int)), some (vi (b : Int)), none, none] [] (QX (some (vi (wnV v e a b))) S0 M) := by
  have h2 := hW.2.1
  have pa := (hW.2.2.2.1 a ha).2.2.2
  have pb := (hW.2.2.2.1 b hb).2.2.2
  have ea : rkV v a e 2 = if vpt v a 5 = 1 then 3 - vpt v a 3 else vpt v a 3 := rfl
  have eb : rkV v b e 2 = if vpt v b 5 = 1 then 3 - vpt v b 3 else vpt v b 3 := rfl
  rw [← k0] at eb
  have hw : rkV v a e 2 ≠ rkV v b e 2 → wnV v e a b = (if rkV v a e 2 > rkV v b e 2 then 2 else -2) := fun q => by
    rw [wnV, if_neg (fun q => q k1), if_pos q]
  have ec : vpt v a 5 = 1 ∧ rkV v a e 2 = 3 - vpt v a 3 ∧ rkV v b e 2 = 3 - vpt v b 3 ∨ vpt v a 5 = 0 ∧ rkV v a e 2 = vpt v a 3 ∧ rkV v b e 2 = vpt v b 3 := by
    by_cases q : vpt v a 5 = 1
    · rw [if_pos q] at ea eb; exact Or.inl ⟨q, ea, eb⟩
    · rw [if_neg q] at ea eb; exact Or.inr ⟨by omega, ea, eb⟩
  clear ea eb
  refine ev_aload_0 (q := 37) dX8_wins_36 rfl ?_
  refine ev_iload_2 (q := 38) dX8_wins_37 rfl ?_
  refine ev_iconst (q := 39) dX8_wins_38 rfl ?_
  refine ev_callV2i (q := 42) dX8_wins_39 vs_RX8_58 (by first | assumption | rfl) (c_X8_ofV (w := 3) hA ha (by omega) (by decide)) (by decide) (Nat.le_of_ble_eq_true rfl) rfl (fun h_39 => ?_)
  refine ev_aload_0 (q := 43) dX8_wins_42 rfl ?_
  refine ev_iload_3 (q := 44) dX8_wins_43 rfl ?_
  refine ev_iconst (q := 45) dX8_wins_44 rfl ?_
  refine ev_callV2i (q := 48) dX8_wins_45 vs_RX8_58 (by first | assumption | rfl) (c_X8_ofV (w := 3) hA hb (by omega) (by decide)) (by decide) (Nat.le_of_ble_eq_true rfl) rfl (fun h_45 => ?_)
  refine ev_icmp_eq (t := 95) (q := 51) dX8_wins_48 (by decide) rfl (by constructor <;> omega) (by constructor <;> omega) (fun h_48 => ?_) (fun h_48 => ?_)
  · exact t_wins_95 hA hW he ha hb fa fb k1 (by omega)
  · refine ev_aload_0 (q := 52) dX8_wins_51 rfl ?_
    refine ev_iload_2 (q := 53) dX8_wins_52 rfl ?_
    refine ev_iconst (q := 54) dX8_wins_53 rfl ?_
    refine ev_callV2i (q := 57) dX8_wins_54 vs_RX8_58 (by first | assumption | rfl) (c_X8_ofV (w := 3) hA ha (by omega) (by decide)) (by decide) (Nat.le_of_ble_eq_true rfl) rfl (fun h_54 => ?_)
    refine ev_aload_0 (q := 58) dX8_wins_57 rfl ?_
    refine ev_iload_3 (q := 59) dX8_wins_58 rfl ?_
    refine ev_iconst (q := 60) dX8_wins_59 rfl ?_
    refine ev_callV2i (q := 63) dX8_wins_60 vs_RX8_58 (by first | assumption | rfl) (c_X8_ofV (w := 3) hA hb (by omega) (by decide)) (by decide) (Nat.le_of_ble_eq_true rfl) rfl (fun h_60 => ?_)
    refine ev_icmp_le (t := 70) (q := 66) dX8_wins_63 (by decide) rfl (by constructor <;> omega) (by constructor <;> omega) (fun h_63 => ?_) (fun h_63 => ?_)
    · refine ev_iconst (q := 71) dX8_wins_70 rfl ?_
      refine ev_aload_0 (q := 72) dX8_wins_71 rfl ?_
      refine ev_iload_2 (q := 73) dX8_wins_72 rfl ?_
      refine ev_iconst (q := 74) dX8_wins_73 rfl ?_
      refine ev_callV2i (q := 77) dX8_wins_74 vs_RX8_58 (by first | assumption | rfl) (c_X8_ofV (w := 5) hA ha (by omega) (by decide)) (by decide) (Nat.le_of_ble_eq_true rfl) rfl (fun h_74 => ?_)
      refine ev_if_ne (t := 84) (q := 80) dX8_wins_77 (by decide) rfl (by constructor <;> omega) (fun h_77 => ?_) (fun h_77 => ?_)
      · refine ev_iconst (q := 85) dX8_wins_84 rfl ?_
        refine ev_icmp_ne (t := 92) (q := 88) dX8_wins_85 (by decide) rfl (by constructor <;> omega) (by constructor <;> omega) (fun h_85 => ?_) (fun h_85 => ?_)
        · refine ev_bipush (q := 94) dX8_wins_92 rfl (by decide) ?_
          refine ev_ireturn dX8_wins_94 rfl rfl (by constructor <;> omega) ?_
          first | exact absurd h_85 (by omega) | exact QXe (by first | rw [hw (by omega), if_pos (by omega)] | rw [hw (by omega), if_neg (by omega)])
        · refine ev_iconst (q := 89) dX8_wins_88 rfl ?_
          refine ev_goto (q := 94) dX8_wins_89 (by decide) ?_
          refine ev_ireturn dX8_wins_94 rfl rfl (by constructor <;> omega) ?_
          first | exact absurd h_85 (by omega) | exact QXe (by first | rw [hw (by omega), if_pos (by omega)] | rw [hw (by omega), if_neg (by omega)])
      · refine ev_iconst (q := 81) dX8_wins_80 rfl ?_
        refine ev_goto (q := 85) dX8_wins_81 (by decide) ?_
        refine ev_icmp_ne (t := 92) (q := 88) dX8_wins_85 (by decide) rfl (by constructor <;> omega) (by constructor <;> omega) (fun h_85 => ?_) (fun h_85 => ?_)
        · refine ev_bipush (q := 94) dX8_wins_92 rfl (by decide) ?_
          refine ev_ireturn dX8_wins_94 rfl rfl (by constructor <;> omega) ?_
          first | exact absurd h_85 (by omega) | exact QXe (by first | rw [hw (by omega), if_pos (by omega)] | rw [hw (by omega), if_neg (by omega)])
        · refine ev_iconst (q := 89) dX8_wins_88 rfl ?_
          refine ev_goto (q := 94) dX8_wins_89 (by decide) ?_
          refine ev_ireturn dX8_wins_94 rfl rfl (by constructor <;> omega) ?_
          first | exact absurd h_85 (by omega) | exact QXe (by first | rw [hw (by omega), if_pos (by omega)] | rw [hw (by omega), if_neg (by omega)])
    · refine ev_iconst (q := 67) dX8_wins_66 rfl ?_
      refine ev_goto (q := 71) dX8_wins_67 (by decide) ?_
      refine ev_aload_0 (q := 72) dX8_wins_71 rfl ?_
      refine ev_iload_2 (q := 73) dX8_wins_72 rfl ?_
      refine ev_iconst (q := 74) dX8_wins_73 rfl ?_
      refine ev_callV2i (q := 77) dX8_wins_74 vs_RX8_58 (by first | assumption | rfl) (c_X8_ofV (w := 5) hA ha (by omega) (by decide)) (by decide) (Nat.le_of_ble_eq_true rfl) rfl (fun h_74 => ?_)
      refine ev_if_ne (t := 84) (q := 80) dX8_wins_77 (by decide) rfl (by constructor <;> omega) (fun h_77 => ?_) (fun h_77 => ?_)
      · refine ev_iconst (q := 85) dX8_wins_84 rfl ?_
        refine ev_icmp_ne (t := 92) (q := 88) dX8_wins_85 (by decide) rfl (by constructor <;> omega) (by constructor <;> omega) (fun h_85 => ?_) (fun h_85 => ?_)
        · refine ev_bipush (q := 94) dX8_wins_92 rfl (by decide) ?_
          refine ev_ireturn dX8_wins_94 rfl rfl (by constructor <;> omega) ?_
          first | exact absurd h_85 (by omega) | exact QXe (by first | rw [hw (by omega), if_pos (by omega)] | rw [hw (by omega), if_neg (by omega)])
        · refine ev_iconst (q := 89) dX8_wins_88 rfl ?_
          refine ev_goto (q := 94) dX8_wins_89 (by decide) ?_
          refine ev_ireturn dX8_wins_94 rfl rfl (by constructor <;> omega) ?_
          first | exact absurd h_85 (by omega) | exact QXe (by first | rw [hw (by omega), if_pos (by omega)] | rw [hw (by omega), if_neg (by omega)])
      · refine ev_iconst (q := 81) dX8_wins_80 rfl ?_
        refine ev_goto (q := 85) dX8_wins_81 (by decide) ?_
        refine ev_icmp_ne (t := 92) (q := 88) dX8_wins_85 (by decide) rfl (by constructor <;> omega) (by constructor <;> omega) (fun h_85 => ?_) (fun h_85 => ?_)
        · refine ev_bipush (q := 94) dX8_wins_92 rfl (by decide) ?_
          refine ev_ireturn dX8_wins_94 rfl rfl (by constructor <;> omega) ?_
          first | exact absurd h_85 (by omega) | exact QXe (by first | rw [hw (by omega), if_pos (by omega)] | rw [hw (by omega), if_neg (by omega)])
        · refine ev_iconst (q := 89) dX8_wins_88 rfl ?_
          refine ev_goto (q := 94) dX8_wins_89 (by decide) ?_
          refine ev_ireturn dX8_wins_94 rfl rfl (by constructor <;> omega) ?_
          first | exact absurd h_85 (by omega) | exact QXe (by first | rw [hw (by omega), if_pos (by omega)] | rw [hw (by omega), if_neg (by omega)])
set_option maxHeartbeats 1000000 in
theorem c_X8_wins (hA : Ag (M 101) v) (hW : Wf v) (he : (e : Int) < vel v) (ha : (a : Int) < vrn v) (hb : (b : Int) < vrn v) (hfa : fitB v a e = true) (hfb : fitB v b e = true) : Cx l 2 kX8_wins yX8_wins S0 M [vr 100, vi (e : Int), vi (a : Int), vi (b : Int)] (some (vi (wnV v e a b))) M := by
  have h2 := hW.2.1
  have pa := (hW.2.2.2.1 a ha).2.2.2.2.2
  have pb := (hW.2.2.2.1 b hb).2.2.2.2.2
  have ea : rkV v a e 1 = if vpt v a 5 = 1 then 1 else 0 := rfl
  have eb : rkV v b e 1 = if vpt v b 5 = 1 then 1 else 0 := rfl
  have ea2 : rkV v a e 1 = vpt v a 5 := by rw [ea]; split <;> omega
  have eb2 : rkV v b e 1 = vpt v b 5 := by rw [eb]; split <;> omega
  clear ea eb
  have hw : vpt v a 5 ≠ vpt v b 5 → wnV v e a b = (if vpt v a 5 > vpt v b 5 then 1 else -1) := fun q => by
    rw [wnV, ea2, eb2, if_pos q]
  refine Cx.of (by decide) rfl (by decide) (Nat.le_of_ble_eq_true rfl) ?_
  refine (show Ev _ none _ _ _ _ _ 0 [_, _, _, _, _, _] [] _ from ?_)
  refine ev_aload_0 (q := 1) dX8_wins_0 rfl ?_
  refine ev_iload_2 (q := 2) dX8_wins_1 rfl ?_
  refine ev_iconst (q := 3) dX8_wins_2 rfl ?_
  refine ev_callV2i (q := 6) dX8_wins_3 vs_RX8_58 (by first | assumption | rfl) (c_X8_ofV (w := 5) hA ha (by omega) (by decide)) (by decide) (Nat.le_of_ble_eq_true rfl) rfl (fun h_3 => ?_)
  refine ev_aload_0 (q := 7) dX8_wins_6 rfl ?_
  refine ev_iload_3 (q := 8) dX8_wins_7 rfl ?_
  refine ev_iconst (q := 9) dX8_wins_8 rfl ?_
  refine ev_callV2i (q := 12) dX8_wins_9 vs_RX8_58 (by first | assumption | rfl) (c_X8_ofV (w := 5) hA hb (by omega) (by decide)) (by decide) (Nat.le_of_ble_eq_true rfl) rfl (fun h_9 => ?_)
  refine ev_icmp_eq (t := 36) (q := 15) dX8_wins_12 (by decide) rfl (by constructor <;> omega) (by constructor <;> omega) (fun h_12 => ?_) (fun h_12 => ?_)
  · exact t_wins_36 hA hW he ha hb (fitB_sc hfa) (fitB_sc hfb) (by omega) (by omega)
  · refine ev_aload_0 (q := 16) dX8_wins_15 rfl ?_
    refine ev_iload_2 (q := 17) dX8_wins_16 rfl ?_
    refine ev_iconst (q := 18) dX8_wins_17 rfl ?_
    refine ev_callV2i (q := 21) dX8_wins_18 vs_RX8_58 (by first | assumption | rfl) (c_X8_ofV (w := 5) hA ha (by omega) (by decide)) (by decide) (Nat.le_of_ble_eq_true rfl) rfl (fun h_18 => ?_)
    refine ev_aload_0 (q := 22) dX8_wins_21 rfl ?_
    refine ev_iload_3 (q := 23) dX8_wins_22 rfl ?_
    refine ev_iconst (q := 24) dX8_wins_23 rfl ?_
    refine ev_callV2i (q := 27) dX8_wins_24 vs_RX8_58 (by first | assumption | rfl) (c_X8_ofV (w := 5) hA hb (by omega) (by decide)) (by decide) (Nat.le_of_ble_eq_true rfl) rfl (fun h_24 => ?_)
    refine ev_icmp_le (t := 34) (q := 30) dX8_wins_27 (by decide) rfl (by constructor <;> omega) (by constructor <;> omega) (fun h_27 => ?_) (fun h_27 => ?_)
    · refine ev_iconst (q := 35) dX8_wins_34 rfl ?_
      refine ev_ireturn dX8_wins_35 rfl rfl (by constructor <;> omega) ?_
      exact QXe (by first | rw [hw (by omega), if_pos (by omega)] | rw [hw (by omega), if_neg (by omega)])
    · refine ev_iconst (q := 31) dX8_wins_30 rfl ?_
      refine ev_goto (q := 35) dX8_wins_31 (by decide) ?_
      refine ev_ireturn dX8_wins_35 rfl rfl (by constructor <;> omega) ?_
      exact QXe (by first | rw [hw (by omega), if_pos (by omega)] | rw [hw (by omega), if_neg (by omega)])
end Wins

