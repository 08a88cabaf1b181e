section Holds
variable {l : Launch} {v : Vw} {us : List Vw}
theorem cc_rng (v : Vw) (e : Nat) : 0 ≤ ccV v e ∧ ccV v e ≤ 8 := cnt_rng _ 8
theorem mt_rng (h : Wf v) (e : Nat) : 0 ≤ mtV v e ∧ mtV v e ≤ 16 := by
  have h1 := cnt_rng (fun r => fitB v r e) (vrn v).toNat
  have h2 := h.2.1
  unfold mtV
  omega
theorem em_rng (h : Wf v) (r : Nat) : 0 ≤ emV v r ∧ emV v r ≤ 16 := by
  have h1 := cnt_rng (fun e => fitB v r e) (vel v).toNat
  have h2 := h.1
  unfold emV
  omega
set_option maxHeartbeats 4000000 in
theorem lp3_holds {w2 : Option ev_V} {C A : Int} (hW : Wf v) (hC : C = sumN (ccV v) (vel v).toNat) (hA : A = sumN (emV v) (vrn v).toNat) : ∀ (n r : Nat) (x B : Int) (M : ev_M), J v us M → x = (r : Int) → r + n = (vrn v).toNat → B = sumN (emV v) r → Ev l none 8 kL_holds (0, 0) S0 M 155 [some (vr 0), some (vi C), w2, some (vi 1), some (vi A), some (vi B), some (vi x)] [] (QI S0 (fun x M2 => x = 1 ∧ J v us M2)) := by
  have hb := hW.1
  have hb2 := hW.2.1
  have sC := sumN_rng (f := ccV v) (K := 8) (by decide) (vel v).toNat (fun i _ => cc_rng v i)
  have sA := sumN_rng (f := emV v) (K := 16) (by decide) (vrn v).toNat (fun i _ => em_rng hW i)
  intro n
  induction n with
  | zero =>
    intro r x B M h hx hr hB
    have hr2 : r = (vrn v).toNat := by omega
    rw [hr2] at hB
    refine ev_iload_6 (q := 157) dL_holds_155 rfl ?_
    refine ev_aload_0 (q := 158) dL_holds_157 rfl ?_
    refine ev_iconst (q := 159) dL_holds_158 rfl ?_
    refine ev_callV1iR (q := 162) dL_holds_159 vs_RL_27 (by first | assumption | rfl) (w_count1 h) (by decide) (Nat.le_of_ble_eq_true rfl) rfl (fun x_159 M_159 hq_159 h_159 => ?_)
    obtain ⟨e_159, h2⟩ := hq_159
    refine ev_icmp_ge (t := 184) (q := 165) dL_holds_162 (by decide) rfl (by constructor <;> omega) (by constructor <;> omega) (fun h_162 => ?_) (fun h_162 => ?_)
    · refine ev_iload_3 (q := 185) dL_holds_184 rfl ?_
      refine ev_if_eq (t := 208) (q := 188) dL_holds_185 (by decide) rfl (by constructor <;> omega) (fun h_185 => ?_) (fun h_185 => ?_)
      · exact absurd h_185 (by omega)
      · refine ev_iload_1 (q := 189) dL_holds_188 rfl ?_
        refine ev_aload_0 (q := 190) dL_holds_189 rfl ?_
        refine ev_iconst (q := 191) dL_holds_190 rfl ?_
        refine ev_callV1iR (q := 194) dL_holds_191 vs_RL_27 (by first | assumption | rfl) (w_count4 h2) (by decide) (Nat.le_of_ble_eq_true rfl) rfl (fun x_191 M_191 hq_191 h_191 => ?_)
        obtain ⟨e_191, h3⟩ := hq_191
        refine ev_icmp_ne (t := 208) (q := 197) dL_holds_194 (by decide) rfl (by constructor <;> omega) (by constructor <;> omega) (fun h_194 => ?_) (fun h_194 => ?_)
        · exact absurd h_194 (by omega)
        · refine ev_iload_4 (q := 199) dL_holds_197 rfl ?_
          refine ev_iload_5 (q := 201) dL_holds_199 rfl ?_
          refine ev_icmp_ne (t := 208) (q := 204) dL_holds_201 (by decide) rfl (by constructor <;> omega) (by constructor <;> omega) (fun h_201 => ?_) (fun h_201 => ?_)
          · exact absurd h_201 (by omega)
          · refine ev_iconst (q := 205) dL_holds_204 rfl ?_
            refine ev_goto (q := 209) dL_holds_205 (by decide) ?_
            refine ev_ireturn dL_holds_209 rfl (by first | rfl | decide | (split <;> rfl) | (split <;> decide)) (by constructor <;> omega) ?_
            exact ⟨_, rfl, rfl, rfl, h3⟩
    · exact absurd h_162 (by omega)
  | succ n ih =>
    intro r x B M h hx hr hB
    have hx2 : x.toNat = r := by omega
    refine ev_iload_6 (q := 157) dL_holds_155 rfl ?_
    refine ev_aload_0 (q := 158) dL_holds_157 rfl ?_
    refine ev_iconst (q := 159) dL_holds_158 rfl ?_
    refine ev_callV1iR (q := 162) dL_holds_159 vs_RL_27 (by first | assumption | rfl) (w_count1 h) (by decide) (Nat.le_of_ble_eq_true rfl) rfl (fun x_159 M_159 hq_159 h_159 => ?_)
    obtain ⟨e_159, h2⟩ := hq_159
    refine ev_icmp_ge (t := 184) (q := 165) dL_holds_162 (by decide) rfl (by constructor <;> omega) (by constructor <;> omega) (fun h_162 => ?_) (fun h_162 => ?_)
    · exact absurd h_162 (by omega)
    · refine ev_iload_5 (q := 167) dL_holds_165 rfl ?_
      refine ev_aload_0 (q := 168) dL_holds_167 rfl ?_
      refine ev_iload_6 (q := 170) dL_holds_168 rfl ?_
      refine ev_bipush (q := 172) dL_holds_170 rfl (by decide) ?_
      refine ev_callV2iR (q := 175) dL_holds_172 vs_RL_40 (by first | assumption | rfl) (w_ruleOf8 h2 (r := x) (by omega)) (by decide) (Nat.le_of_ble_eq_true rfl) rfl (fun x_172 M_172 hq_172 h_172 => ?_)
      obtain ⟨e_172, h3⟩ := hq_172
      rw [hx2] at e_172
      refine ev_iadd (q := 176) dL_holds_175 rfl ?_
      refine ev_istore_5 (q := 178) dL_holds_176 rfl (by decide) ?_
      refine ev_iinc_6 (q := 181) dL_holds_178 rfl (by decide) ?_
      refine ev_goto (q := 155) dL_holds_181 (by decide) ?_
      exact ih (r + 1) _ _ _ h3 (by omega) (by omega) (by rw [e_172, hB]; rfl)
set_option maxHeartbeats 4000000 in
theorem lp2_holds {w2 : Option ev_V} {C : Int} (hW : Wf v) (hC : C = sumN (ccV v) (vel v).toNat) : ∀ (n e : Nat) (x A : Int) (M : ev_M), J v us M → x = (e : Int) → e + n = (vel v).toNat → A = sumN (mtV v) e → Ev l none 8 kL_holds (0, 0) S0 M 124 [some (vr 0), some (vi C), w2, some (vi 1), some (vi A), some (vi 0), some (vi x)] [] (QI S0 (fun x M2 => x = 1 ∧ J v us M2)) := by
  have hb := hW.1
  have hb2 := hW.2.1
  intro n
  induction n with
  | zero =>
    intro e x A M h hx he hA
    have he2 : e = (vel v).toNat := by omega
    rw [he2] at hA
    refine ev_iload_6 (q := 126) dL_holds_124 rfl ?_
    refine ev_aload_0 (q := 127) dL_holds_126 rfl ?_
    refine ev_iconst (q := 128) dL_holds_127 rfl ?_
    refine ev_callV1iR (q := 131) dL_holds_128 vs_RL_27 (by first | assumption | rfl) (w_count0 h) (by decide) (Nat.le_of_ble_eq_true rfl) rfl (fun x_128 M_128 hq_128 h_128 => ?_)
    obtain ⟨e_128, h2⟩ := hq_128
    refine ev_icmp_ge (t := 152) (q := 134) dL_holds_131 (by decide) rfl (by constructor <;> omega) (by constructor <;> omega) (fun h_131 => ?_) (fun h_131 => ?_)
    · refine ev_iconst (q := 153) dL_holds_152 rfl ?_
      refine ev_istore_6 (q := 155) dL_holds_153 rfl (by decide) ?_
      exact lp3_holds hW hC (hA.trans match_swap) (vrn v).toNat 0 _ _ _ h2 rfl (Nat.zero_add _) rfl
    · exact absurd h_131 (by omega)
  | succ n ih =>
    intro e x A M h hx he hA
    have hx2 : x.toNat = e := by omega
    refine ev_iload_6 (q := 126) dL_holds_124 rfl ?_
    refine ev_aload_0 (q := 127) dL_holds_126 rfl ?_
    refine ev_iconst (q := 128) dL_holds_127 rfl ?_
    refine ev_callV1iR (q := 131) dL_holds_128 vs_RL_27 (by first | assumption | rfl) (w_count0 h) (by decide) (Nat.le_of_ble_eq_true rfl) rfl (fun x_128 M_128 hq_128 h_128 => ?_)
    obtain ⟨e_128, h2⟩ := hq_128
    refine ev_icmp_ge (t := 152) (q := 134) dL_holds_131 (by decide) rfl (by constructor <;> omega) (by constructor <;> omega) (fun h_131 => ?_) (fun h_131 => ?_)
    · exact absurd h_131 (by omega)
    · refine ev_iload_4 (q := 136) dL_holds_134 rfl ?_
      refine ev_aload_0 (q := 137) dL_holds_136 rfl ?_
      refine ev_iload_6 (q := 139) dL_holds_137 rfl ?_
      refine ev_iconst (q := 140) dL_holds_139 rfl ?_
      refine ev_callV2iR (q := 143) dL_holds_140 vs_RL_31 (by first | assumption | rfl) (w_elem4 h2 (e := x) (by omega)) (by decide) (Nat.le_of_ble_eq_true rfl) rfl (fun x_140 M_140 hq_140 h_140 => ?_)
      obtain ⟨e_140, h3⟩ := hq_140
      rw [hx2] at e_140
      refine ev_iadd (q := 144) dL_holds_143 rfl ?_
      refine ev_istore_4 (q := 146) dL_holds_144 rfl (by decide) ?_
      refine ev_iinc_6 (q := 149) dL_holds_146 rfl (by decide) ?_
      refine ev_goto (q := 124) dL_holds_149 (by decide) ?_
      exact ih (e + 1) _ _ _ h3 (by omega) (by omega) (by rw [e_140, hA]; rfl)
set_option maxHeartbeats 4000000 in
theorem lp0_holds {w1 w2 : Option ev_V} {e : Int} (hW : Wf v) (he : 0 ≤ e ∧ e < vel v) : ∀ (n p : Nat) (y : Int) (M : ev_M), J v us M → y = (p : Int) → p + n = 16 → (∀ (M' : ev_M) (w5 : Option ev_V), J v us M' → Ev l none 8 kL_holds (0, 0) S0 M' 109 [some (vr 0), w1, w2, some (vi 1), some (vi e), w5, none] [] (QI S0 (fun x M2 => x = 1 ∧ J v us M2))) → Ev l none 8 kL_holds (0, 0) S0 M 83 [some (vr 0), w1, w2, some (vi 1), some (vi e), some (vi y), none] [] (QI S0 (fun x M2 => x = 1 ∧ J v us M2)) := by
  have hb := hW.1
  intro n
  induction n with
  | zero =>
    intro p y M h hy hp K
    refine ev_iload_5 (q := 85) dL_holds_83 rfl ?_
    refine ev_bipush (q := 87) dL_holds_85 rfl (by decide) ?_
    refine ev_icmp_ge (t := 109) (q := 90) dL_holds_87 (by decide) rfl (by constructor <;> omega) (by constructor <;> omega) (fun h_87 => ?_) (fun h_87 => ?_)
    · exact K _ _ h
    · exact absurd h_87 (by omega)
  | succ n ih =>
    intro p y M h hy hp K
    refine ev_iload_5 (q := 85) dL_holds_83 rfl ?_
    refine ev_bipush (q := 87) dL_holds_85 rfl (by decide) ?_
    refine ev_icmp_ge (t := 109) (q := 90) dL_holds_87 (by decide) rfl (by constructor <;> omega) (by constructor <;> omega) (fun h_87 => ?_) (fun h_87 => ?_)
    · exact absurd h_87 (by omega)
    · refine ev_iload_3 (q := 91) dL_holds_90 rfl ?_
      refine ev_if_eq (t := 109) (q := 94) dL_holds_91 (by decide) rfl (by constructor <;> omega) (fun h_91 => ?_) (fun h_91 => ?_)
      · exact absurd h_91 (by omega)
      · refine ev_aload_0 (q := 95) dL_holds_94 rfl ?_
        refine ev_iload_4 (q := 97) dL_holds_95 rfl ?_
        refine ev_iload_5 (q := 99) dL_holds_97 rfl ?_
        refine ev_callS3iR (q := 102) dL_holds_99 ss_RL_34 (c_L_comes h he (p := y) (by omega)) (by decide) (Nat.le_of_ble_eq_true rfl) rfl (fun x_99 M_99 hq_99 h_99 => ?_)
        obtain ⟨e_99, h2⟩ := hq_99
        subst e_99
        refine ev_istore_3 (q := 103) dL_holds_102 rfl (by decide) ?_
        refine ev_iinc_5 (q := 106) dL_holds_103 rfl (by decide) ?_
        refine ev_goto (q := 83) dL_holds_106 (by decide) ?_
        exact ih (p + 1) _ _ h2 (by omega) (by omega) K
set_option maxHeartbeats 4000000 in
theorem lp1_holds (hW : Wf v) : ∀ (n e : Nat) (x C : Int) (M : ev_M) (w5 : Option ev_V), J v us M → x = (e : Int) → e + n = (vel v).toNat → C = sumN (ccV v) e → Ev l none 8 kL_holds (0, 0) S0 M 13 [some (vr 0), some (vi C), some (vi (vel v)), some (vi 1), some (vi x), w5, none] [] (QI S0 (fun x M2 => x = 1 ∧ J v us M2)) := by
  have hb := hW.1
  intro n
  induction n with
  | zero =>
    intro e x C M w5 h hx he hC
    have he2 : e = (vel v).toNat := by omega
    rw [he2] at hC
    refine ev_iload_4 (q := 15) dL_holds_13 rfl ?_
    refine ev_iload_2 (q := 16) dL_holds_15 rfl ?_
    refine ev_icmp_ge (t := 115) (q := 19) dL_holds_16 (by decide) rfl (by constructor <;> omega) (by constructor <;> omega) (fun h_16 => ?_) (fun h_16 => ?_)
    · refine ev_iconst (q := 116) dL_holds_115 rfl ?_
      refine ev_istore_4 (q := 118) dL_holds_116 rfl (by decide) ?_
      refine ev_iconst (q := 119) dL_holds_118 rfl ?_
      refine ev_istore_5 (q := 121) dL_holds_119 rfl (by decide) ?_
      refine ev_iconst (q := 122) dL_holds_121 rfl ?_
      refine ev_istore_6 (q := 124) dL_holds_122 rfl (by decide) ?_
      exact lp2_holds hW hC (vel v).toNat 0 _ _ _ h rfl (Nat.zero_add _) rfl
    · exact absurd h_16 (by omega)
  | succ n ih =>
    intro e x C M w5 h hx he hC
    subst hx
    have hev : (e : Int) < vel v := by omega
    have K : ∀ (M' : ev_M) (C' : Int), J v us M' → C' = sumN (ccV v) (e + 1) → Ev l none 8 kL_holds (0, 0) S0 M' 79 [some (vr 0), some (vi C'), some (vi (vel v)), some (vi 1), some (vi (e : Int)), w5, none] [vi 1] (QI S0 (fun x M2 => x = 1 ∧ J v us M2)) := by
      intro M' C' hJ hC'
      refine ev_istore_3 (q := 80) dL_holds_79 rfl (by decide) ?_
      refine ev_iconst (q := 81) dL_holds_80 rfl ?_
      refine ev_istore_5 (q := 83) dL_holds_81 rfl (by decide) ?_
      refine lp0_holds hW (by omega) 16 0 _ _ hJ rfl rfl (fun M2 w5 hJ2 => ?_)
      refine ev_iinc_4 (q := 112) dL_holds_109 rfl (by decide) ?_
      refine ev_goto (q := 13) dL_holds_112 (by decide) ?_
      exact ih (e + 1) _ _ _ _ hJ2 (by omega) (by omega) hC'
    have hpar := (hW.2.2.1 e hev).1
    refine ev_iload_4 (q := 15) dL_holds_13 rfl ?_
    refine ev_iload_2 (q := 16) dL_holds_15 rfl ?_
    refine ev_icmp_ge (t := 115) (q := 19) dL_holds_16 (by decide) rfl (by constructor <;> omega) (by constructor <;> omega) (fun h_16 => ?_) (fun h_16 => ?_)
    · exact absurd h_16 (by omega)
    · refine ev_iload_3 (q := 20) dL_holds_19 rfl ?_
      refine ev_if_eq (t := 115) (q := 23) dL_holds_20 (by decide) rfl (by constructor <;> omega) (fun h_20 => ?_) (fun h_20 => ?_)
      · exact absurd h_20 (by omega)
      · refine ev_iload_1 (q := 24) dL_holds_23 rfl ?_
        refine ev_aload_0 (q := 25) dL_holds_24 rfl ?_
        refine ev_iload_4 (q := 27) dL_holds_25 rfl ?_
        refine ev_iconst (q := 28) dL_holds_27 rfl ?_
        refine ev_callV2iR (q := 31) dL_holds_28 vs_RL_31 (by first | assumption | rfl) (w_elem5 h (e := (e : Int)) (by omega)) (by decide) (Nat.le_of_ble_eq_true rfl) rfl (fun x_28 M_28 hq_28 h_28 => ?_)
        obtain ⟨e_28, h2⟩ := hq_28
        simp only [Int.toNat_natCast] at e_28
        have hC2 : C + x_28 = sumN (ccV v) (e + 1) := by rw [e_28, hC]; rfl
        refine ev_iadd (q := 32) dL_holds_31 rfl ?_
        refine ev_istore_1 (q := 33) dL_holds_32 rfl (by decide) ?_
        refine ev_iload_4 (q := 35) dL_holds_33 rfl ?_
        refine ev_if_eq (t := 74) (q := 38) dL_holds_35 (by decide) rfl (by constructor <;> omega) (fun h_35 => ?_) (fun h_35 => ?_)
        · refine ev_iconst (q := 75) dL_holds_74 rfl ?_
          refine ev_goto (q := 79) dL_holds_75 (by decide) ?_
          first | exact K _ _ h2 hC2 | exact K _ _ h6 hC2
        · refine ev_aload_0 (q := 39) dL_holds_38 rfl ?_
          refine ev_iload_4 (q := 41) dL_holds_39 rfl ?_
          refine ev_iconst (q := 42) dL_holds_41 rfl ?_
          refine ev_callV2iR (q := 45) dL_holds_42 vs_RL_31 (by first | assumption | rfl) (w_elem0 h2 (e := (e : Int)) (by omega)) (by decide) (Nat.le_of_ble_eq_true rfl) rfl (fun x_42 M_42 hq_42 h_42 => ?_)
          obtain ⟨e_42, h3⟩ := hq_42
          simp only [Int.toNat_natCast] at e_42
          refine ev_iload_4 (q := 47) dL_holds_45 rfl ?_
          refine ev_icmp_ge (t := 78) (q := 50) dL_holds_47 (by decide) rfl (by constructor <;> omega) (by constructor <;> omega) (fun h_47 => ?_) (fun h_47 => ?_)
          · exact absurd h_47 (by omega)
          · refine ev_aload_0 (q := 51) dL_holds_50 rfl ?_
            refine ev_iload_4 (q := 53) dL_holds_51 rfl ?_
            refine ev_iconst (q := 54) dL_holds_53 rfl ?_
            refine ev_callV2iR (q := 57) dL_holds_54 vs_RL_31 (by first | assumption | rfl) (w_elem3 h3 (e := (e : Int)) (by omega)) (by decide) (Nat.le_of_ble_eq_true rfl) rfl (fun x_54 M_54 hq_54 h_54 => ?_)
            obtain ⟨e_54, h4⟩ := hq_54
            refine ev_aload_0 (q := 58) dL_holds_57 rfl ?_
            refine ev_aload_0 (q := 59) dL_holds_58 rfl ?_
            refine ev_iload_4 (q := 61) dL_holds_59 rfl ?_
            refine ev_iconst (q := 62) dL_holds_61 rfl ?_
            refine ev_callV2iR (q := 65) dL_holds_62 vs_RL_31 (by first | assumption | rfl) (w_elem0 h4 (e := (e : Int)) (by omega)) (by decide) (Nat.le_of_ble_eq_true rfl) rfl (fun x_62 M_62 hq_62 h_62 => ?_)
            obtain ⟨e_62, h5⟩ := hq_62
            simp only [Int.toNat_natCast] at e_62
            refine ev_iconst (q := 66) dL_holds_65 rfl ?_
            refine ev_callV2iR (q := 69) dL_holds_66 vs_RL_31 (by first | assumption | rfl) (w_elem3 h5 (e := x_62) (by omega)) (by decide) (Nat.le_of_ble_eq_true rfl) rfl (fun x_66 M_66 hq_66 h_66 => ?_)
            obtain ⟨e_66, h6⟩ := hq_66
            rw [e_62] at e_66
            have hs := stp_rng (vpar v) 16 (vpar v e) 0
            have hs2 := stp_up hW hev (by omega)
            refine ev_iconst (q := 70) dL_holds_69 rfl ?_
            refine ev_iadd (q := 71) dL_holds_70 rfl ?_
            refine ev_icmp_ne (t := 78) (q := 74) dL_holds_71 (by decide) rfl (by constructor <;> omega) (by constructor <;> omega) (fun h_71 => ?_) (fun h_71 => ?_)
            · exact absurd h_71 (by omega)
            · refine ev_iconst (q := 75) dL_holds_74 rfl ?_
              refine ev_goto (q := 79) dL_holds_75 (by decide) ?_
              first | exact K _ _ h2 hC2 | exact K _ _ h6 hC2
set_option maxHeartbeats 4000000 in
theorem c_L_holds {M : ev_M} (h : J v us M) : Ri l 8 kL_holds yL_holds S0 M [vr 0] (fun x M2 => x = 1 ∧ J v us M2) := by
  have hW := h.wf
  refine Ri.of (by decide) rfl (by decide) (Nat.le_of_ble_eq_true rfl) ?_
  refine (show Ev _ none _ _ _ _ _ 0 [_, _, _, _, _, _, _] [] _ from ?_)
  refine ev_iconst (q := 1) dL_holds_0 rfl ?_
  refine ev_istore_1 (q := 2) dL_holds_1 rfl (by decide) ?_
  refine ev_aload_0 (q := 3) dL_holds_2 rfl ?_
  refine ev_iconst (q := 4) dL_holds_3 rfl ?_
  refine ev_callV1iR (q := 7) dL_holds_4 vs_RL_27 (by first | assumption | rfl) (w_count0 h) (by decide) (Nat.le_of_ble_eq_true rfl) rfl (fun x_4 M_4 hq_4 h_4 => ?_)
  obtain ⟨e_4, h2⟩ := hq_4
  subst e_4
  refine ev_istore_2 (q := 8) dL_holds_7 rfl (by decide) ?_
  refine ev_iconst (q := 9) dL_holds_8 rfl ?_
  refine ev_istore_3 (q := 10) dL_holds_9 rfl (by decide) ?_
  refine ev_iconst (q := 11) dL_holds_10 rfl ?_
  refine ev_istore_4 (q := 13) dL_holds_11 rfl (by decide) ?_
  exact lp1_holds hW (vel v).toNat 0 _ _ _ _ h2 rfl (Nat.zero_add _) rfl
end Holds

