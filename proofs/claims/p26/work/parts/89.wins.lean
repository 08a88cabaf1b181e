section Wins2
variable {l : Launch} {v v1 v2 : Vw} {us : List Vw}
theorem dsV_one {n p : Nat} (hp : p < 16) (hA : ∀ q w, q < 16 → w < 3 → ven v1 n q w = -1) (hL : LyV v1 v2 n p 321 (-1) (-1)) : dsV v2 n = 1 := by
  obtain ⟨-, -, -, -, e⟩ := hL
  unfold dsV
  refine cnt_one (j := p) (decide_eq_true (Or.inl ?_)) 16 hp (fun i hi hne => decide_eq_false (fun q => ?_))
  · rw [e n p 0 (by decide) hp, if_pos ⟨rfl, rfl⟩, if_pos rfl]
    decide
  · rw [e n i 0 (by decide) hi, if_neg (fun z => hne z.2), e n i 1 (by decide) hi, if_neg (fun z => hne z.2), hA i 0 hi (by decide), hA i 1 hi (by decide)] at q
    rcases q with q | q <;> exact q rfl
theorem full_of {n p e : Nat} {a : Int} (hn : vrn v = (n : Int)) (hA : ApV v v1 n (vknd v e) (vcls v e) a 0 e 1) (hL : LyV v1 v2 n p 321 (-1) (-1)) (ha : a = if e = 0 then -1 else vknd v (vpar v e).toNat) : Full v2 n e := by
  obtain ⟨a1, a2, ⟨a3, a4, a5⟩, a6, a7, ⟨b0, b1, b2, b3, b4, b5⟩, a8⟩ := hA
  obtain ⟨c1, c2, ⟨c3, c4, c5⟩, c6, c7⟩ := hL
  unfold Full
  rw [c2, c6, c4, c5, c3, a2, a3, a4, a5, hn]
  exact ⟨rfl, b0, b1, b2.trans ha, b3, b4, b5⟩
set_option maxHeartbeats 4000000 in
theorem k182_wins {n e p : Nat} {y had a : Int} {M : ev_M} (hW : Wf v) (hn : vrn v = (n : Int)) (he : (e : Int) < vel v) (hp : p < 16) (hh : had = vaV v e p) (h : J v2 (v1 :: v :: us) M) : Ev l none 7 kL_wins (0, 0) S0 M 182 [some (vr 0), some (vi y), some (vi (e : Int)), some (vi (p : Int)), some (vi (n : Int)), some (vi had), some (vi a), some (vi 1)] [] (QI S0 (fun x M2 => x = 1 ∧ ∃ v', J v' [] M2)) := by
  have hb := hW.1
  have hb2 := hW.2.1
  refine ev_iconst (q := 183) dL_wins_182 rfl ?_
  refine ev_goto (q := 187) dL_wins_183 (by decide) ?_
  refine ev_istore_7 (q := 189) dL_wins_187 rfl (by decide) ?_
  refine ev_iload_7 (q := 191) dL_wins_189 rfl ?_
  refine ev_if_eq (t := 233) (q := 194) dL_wins_191 (by decide) rfl (by constructor <;> omega) (fun h_191 => ?_) (fun h_191 => ?_)
  · exact absurd h_191 (by omega)
  · refine ev_aload_0 (q := 195) dL_wins_194 rfl ?_
    refine ev_callV0iR (q := 198) dL_wins_195 vs_RL_54 (by first | assumption | rfl) (w_undo h) (by decide) (Nat.le_of_ble_eq_true rfl) rfl (fun x_195 M_195 hq_195 h_195 => ?_)
    obtain ⟨e_195, h2⟩ := hq_195
    refine ev_if_lt (t := 233) (q := 201) dL_wins_198 (by decide) rfl (by constructor <;> omega) (fun h_198 => ?_) (fun h_198 => ?_)
    · exact absurd h_198 (by omega)
    · refine ev_aload_0 (q := 202) dL_wins_201 rfl ?_
      refine ev_callV0iR (q := 205) dL_wins_202 vs_RL_54 (by first | assumption | rfl) (w_undo h2) (by decide) (Nat.le_of_ble_eq_true rfl) rfl (fun x_202 M_202 hq_202 h_202 => ?_)
      obtain ⟨e_202, h3⟩ := hq_202
      refine ev_if_lt (t := 233) (q := 208) dL_wins_205 (by decide) rfl (by constructor <;> omega) (fun h_205 => ?_) (fun h_205 => ?_)
      · exact absurd h_205 (by omega)
      · refine ev_aload_0 (q := 209) dL_wins_208 rfl ?_
        refine ev_iload_2 (q := 210) dL_wins_209 rfl ?_
        refine ev_iload_3 (q := 211) dL_wins_210 rfl ?_
        refine ev_callV2iR (q := 214) dL_wins_211 vs_RL_15 (by first | assumption | rfl) (w_value h3 (e := (e : Int)) (p := (p : Int)) (by omega) (by omega)) (by decide) (Nat.le_of_ble_eq_true rfl) rfl (fun x_211 M_211 hq_211 h_211 => ?_)
        obtain ⟨e_211, h4⟩ := hq_211
        simp only [Int.toNat_natCast] at e_211
        refine ev_iload_5 (q := 216) dL_wins_214 rfl ?_
        refine ev_icmp_ne (t := 233) (q := 219) dL_wins_216 (by decide) rfl (by constructor <;> omega) (by constructor <;> omega) (fun h_216 => ?_) (fun h_216 => ?_)
        · exact absurd h_216 (by omega)
        · refine ev_aload_0 (q := 220) dL_wins_219 rfl ?_
          refine ev_iconst (q := 221) dL_wins_220 rfl ?_
          refine ev_callV1iR (q := 224) dL_wins_221 vs_RL_27 (by first | assumption | rfl) (w_count1 h4) (by decide) (Nat.le_of_ble_eq_true rfl) rfl (fun x_221 M_221 hq_221 h_221 => ?_)
          obtain ⟨e_221, h5⟩ := hq_221
          refine ev_iload_4 (q := 226) dL_wins_224 rfl ?_
          refine ev_icmp_ne (t := 233) (q := 229) dL_wins_226 (by decide) rfl (by constructor <;> omega) (by constructor <;> omega) (fun h_226 => ?_) (fun h_226 => ?_)
          · exact absurd h_226 (by omega)
          · refine ev_iconst (q := 230) dL_wins_229 rfl ?_
            refine ev_goto (q := 234) dL_wins_230 (by decide) ?_
            refine ev_ireturn dL_wins_234 rfl (by first | rfl | decide | (split <;> rfl) | (split <;> decide)) (by constructor <;> omega) ?_
            exact ⟨_, rfl, rfl, rfl, v, h5.nil⟩
set_option maxHeartbeats 4000000 in
theorem k80_wins {n e p : Nat} {y had a : Int} {M : ev_M} (hW : Wf v) (hl : us.length ≤ 2) (hn : vrn v = (n : Int)) (hn16 : n < 16) (he : (e : Int) < vel v) (hp : p < 16) (hh : had = vaV v e p) (ha : a = if e = 0 then -1 else vknd v (vpar v e).toNat) (h : J v us M) : Ev l none 7 kL_wins (0, 0) S0 M 80 [some (vr 0), some (vi y), some (vi (e : Int)), some (vi (p : Int)), some (vi (n : Int)), some (vi had), none, none] [vi a] (QI S0 (fun x M2 => x = 1 ∧ ∃ v', J v' [] M2)) := by
  have hb := hW.1
  have hb2 := hW.2.1
  have hwe := hW.2.2.1 e he
  have ha2 : -1 ≤ a ∧ a ≤ 5 := by
    rw [ha]
    by_cases q : e = 0
    · rw [if_pos q]; omega
    · rw [if_neg q]
      have := hwe.1.2.2 (by omega)
      have := (hW.2.2.1 (vpar v e).toNat (by omega)).2.1
      omega
  refine ev_istore_6 (q := 82) dL_wins_80 rfl (by decide) ?_
  refine ev_aload_0 (q := 83) dL_wins_82 rfl ?_
  refine ev_aload_0 (q := 84) dL_wins_83 rfl ?_
  refine ev_iload_2 (q := 85) dL_wins_84 rfl ?_
  refine ev_iconst (q := 86) dL_wins_85 rfl ?_
  refine ev_callV2iR (q := 89) dL_wins_86 vs_RL_31 (by first | assumption | rfl) (w_elem1 h (e := (e : Int)) (by omega)) (by decide) (Nat.le_of_ble_eq_true rfl) rfl (fun x_86 M_86 hq_86 h_86 => ?_)
  obtain ⟨e_86, h2⟩ := hq_86
  simp only [Int.toNat_natCast] at e_86
  refine ev_aload_0 (q := 90) dL_wins_89 rfl ?_
  refine ev_iload_2 (q := 91) dL_wins_90 rfl ?_
  refine ev_iconst (q := 92) dL_wins_91 rfl ?_
  refine ev_callV2iR (q := 95) dL_wins_92 vs_RL_31 (by first | assumption | rfl) (w_elem2 h2 (e := (e : Int)) (by omega)) (by decide) (Nat.le_of_ble_eq_true rfl) rfl (fun x_92 M_92 hq_92 h_92 => ?_)
  obtain ⟨e_92, h3⟩ := hq_92
  simp only [Int.toNat_natCast] at e_92
  have hel := h3.el
  refine ev_iload_6 (q := 97) dL_wins_95 rfl ?_
  refine ev_iconst (q := 98) dL_wins_97 rfl ?_
  refine ev_iload_2 (q := 99) dL_wins_98 rfl ?_
  refine ev_iconst (q := 100) dL_wins_99 rfl ?_
  refine ev_callV6iR (q := 103) dL_wins_100 vs_RL_46 (by first | assumption | rfl) (w_rule h3 (by omega) (by refine ⟨⟨?_, ?_, ?_⟩, ?_, ?_, ?_⟩ <;> omega) (by constructor <;> omega) (by constructor <;> omega) (by constructor <;> omega) (by constructor <;> omega) (by constructor <;> omega) (by constructor <;> omega)) (by decide) (Nat.le_of_ble_eq_true rfl) rfl (fun x_100 M_100 hq_100 h_100 => ?_)
  obtain ⟨e_100, v1, h4, hA⟩ : x_100 = vrn v ∧ ∃ v', J v' (v :: us) M_100 ∧ ApV v v' (vrn v).toNat x_86 x_92 a 0 (e : Int) 1 := by
    rcases hq_100 with q | q
    · exact absurd q.1 (by omega)
    · exact q.2
  rw [e_86, e_92, show (vrn v).toNat = n by omega] at hA
  have hr1 := hA.2.1
  refine ev_iload_4 (q := 105) dL_wins_103 rfl ?_
  refine ev_icmp_ne (t := 126) (q := 108) dL_wins_105 (by decide) rfl (by constructor <;> omega) (by constructor <;> omega) (fun h_105 => ?_) (fun h_105 => ?_)
  · exact absurd h_105 (by omega)
  · refine ev_aload_0 (q := 109) dL_wins_108 rfl ?_
    refine ev_iload_4 (q := 111) dL_wins_109 rfl ?_
    refine ev_iload_3 (q := 112) dL_wins_111 rfl ?_
    refine ev_sipush (q := 115) dL_wins_112 rfl (by decide) ?_
    refine ev_callV3iR (q := 118) dL_wins_115 vs_RL_50 (by first | assumption | rfl) (w_declare h4 (by rw [List.length_cons]; omega) (r := (n : Int)) (p := (p : Int)) (n := 321) (by omega) (by omega) (by omega)) (by decide) (Nat.le_of_ble_eq_true rfl) rfl (fun x_115 M_115 hq_115 h_115 => ?_)
    obtain ⟨e_115a, v2, h5, hL, e_115⟩ := hq_115
    simp only [Int.toNat_natCast] at hL e_115
    rw [dsV_one hp hA.2.2.2.2.2.2 hL] at e_115
    have hF := full_of hn hA hL ha
    have hel2 : vel v2 = vel v := hL.1.trans hA.1
    obtain ⟨f1, f2, f3, f4⟩ := full_win h5.wf (e := e) (p := p) (n := n) (x := 321) (by omega) hp hF (by decide) (by rw [hL.2.2.2.2 n p 0 (by decide) hp, if_pos ⟨rfl, rfl⟩, if_pos rfl]) (by rw [hL.2.2.2.2 n p 1 (by decide) hp, if_pos ⟨rfl, rfl⟩, if_neg (by decide), if_pos rfl])
    refine ev_iconst (q := 119) dL_wins_118 rfl ?_
    refine ev_icmp_ne (t := 126) (q := 122) dL_wins_119 (by decide) rfl (by constructor <;> omega) (by constructor <;> omega) (fun h_119 => ?_) (fun h_119 => ?_)
    · exact absurd h_119 (by omega)
    · refine ev_iconst (q := 123) dL_wins_122 rfl ?_
      refine ev_goto (q := 127) dL_wins_123 (by decide) ?_
      refine ev_istore_7 (q := 129) dL_wins_127 rfl (by decide) ?_
      refine ev_iload_7 (q := 131) dL_wins_129 rfl ?_
      refine ev_if_eq (t := 186) (q := 134) dL_wins_131 (by decide) rfl (by constructor <;> omega) (fun h_131 => ?_) (fun h_131 => ?_)
      · exact absurd h_131 (by omega)
      · refine ev_aload_0 (q := 135) dL_wins_134 rfl ?_
        refine ev_iload_2 (q := 136) dL_wins_135 rfl ?_
        refine ev_iload_3 (q := 137) dL_wins_136 rfl ?_
        refine ev_callV2iR (q := 140) dL_wins_137 vs_RL_18 (by first | assumption | rfl) (w_winner h5 (e := (e : Int)) (p := (p : Int)) (by omega) (by omega)) (by decide) (Nat.le_of_ble_eq_true rfl) rfl (fun x_137 M_137 hq_137 h_137 => ?_)
        obtain ⟨e_137, h6⟩ := hq_137
        simp only [Int.toNat_natCast] at e_137
        rw [f1, if_neg (by omega)] at e_137
        refine ev_iload_4 (q := 142) dL_wins_140 rfl ?_
        refine ev_icmp_ne (t := 186) (q := 145) dL_wins_142 (by decide) rfl (by constructor <;> omega) (by constructor <;> omega) (fun h_142 => ?_) (fun h_142 => ?_)
        · exact absurd h_142 (by omega)
        · refine ev_aload_0 (q := 146) dL_wins_145 rfl ?_
          refine ev_iload_2 (q := 147) dL_wins_146 rfl ?_
          refine ev_iload_3 (q := 148) dL_wins_147 rfl ?_
          refine ev_callV2iR (q := 151) dL_wins_148 vs_RL_15 (by first | assumption | rfl) (w_value h6 (e := (e : Int)) (p := (p : Int)) (by omega) (by omega)) (by decide) (Nat.le_of_ble_eq_true rfl) rfl (fun x_148 M_148 hq_148 h_148 => ?_)
          obtain ⟨e_148, h7⟩ := hq_148
          simp only [Int.toNat_natCast] at e_148
          rw [f2] at e_148
          refine ev_sipush (q := 154) dL_wins_151 rfl (by decide) ?_
          refine ev_icmp_ne (t := 186) (q := 157) dL_wins_154 (by decide) rfl (by constructor <;> omega) (by constructor <;> omega) (fun h_154 => ?_) (fun h_154 => ?_)
          · exact absurd h_154 (by omega)
          · refine ev_aload_0 (q := 158) dL_wins_157 rfl ?_
            refine ev_iload_2 (q := 159) dL_wins_158 rfl ?_
            refine ev_iload_3 (q := 160) dL_wins_159 rfl ?_
            refine ev_callV2iR (q := 163) dL_wins_160 vs_RL_9 (by first | assumption | rfl) (w_from h7 (e := (e : Int)) (p := (p : Int)) (by omega) (by omega)) (by decide) (Nat.le_of_ble_eq_true rfl) rfl (fun x_160 M_160 hq_160 h_160 => ?_)
            obtain ⟨e_160, h8⟩ := hq_160
            simp only [Int.toNat_natCast] at e_160
            rw [f3] at e_160
            refine ev_iload_2 (q := 164) dL_wins_163 rfl ?_
            refine ev_icmp_ne (t := 186) (q := 167) dL_wins_164 (by decide) rfl (by constructor <;> omega) (by constructor <;> omega) (fun h_164 => ?_) (fun h_164 => ?_)
            · exact absurd h_164 (by omega)
            · refine ev_iload_3 (q := 168) dL_wins_167 rfl ?_
              refine ev_bipush (q := 170) dL_wins_168 rfl (by decide) ?_
              refine ev_icmp_lt (t := 182) (q := 173) dL_wins_170 (by decide) rfl (by constructor <;> omega) (by constructor <;> omega) (fun h_170 => ?_) (fun h_170 => ?_)
              · first | exact k182_wins hW hn he hp hh h9 | exact k182_wins hW hn he hp hh h8
              · refine ev_aload_0 (q := 174) dL_wins_173 rfl ?_
                refine ev_iload_2 (q := 175) dL_wins_174 rfl ?_
                refine ev_iload_3 (q := 176) dL_wins_175 rfl ?_
                refine ev_callV2iR (q := 179) dL_wins_176 vs_RL_21 (by first | assumption | rfl) (w_cycle h8 (e := (e : Int)) (p := (p : Int)) (by omega) (by omega)) (by decide) (Nat.le_of_ble_eq_true rfl) rfl (fun x_176 M_176 hq_176 h_176 => ?_)
                obtain ⟨e_176, h9⟩ := hq_176
                simp only [Int.toNat_natCast] at e_176
                rw [f4 (by omega)] at e_176
                refine ev_if_ne (t := 186) (q := 182) dL_wins_179 (by decide) rfl (by constructor <;> omega) (fun h_179 => ?_) (fun h_179 => ?_)
                · exact absurd h_179 (by omega)
                · first | exact k182_wins hW hn he hp hh h9 | exact k182_wins hW hn he hp hh h8
set_option maxHeartbeats 4000000 in
theorem c_L_wins {M : ev_M} {y : Int} (h : J v us M) (hl : us.length ≤ 2) (hy : 0 ≤ y ∧ y < 2147483648) : Ri l 7 kL_wins yL_wins S0 M [vr 0, vi y] (fun x M2 => x = 1 ∧ ∃ v', J v' [] M2) := by
  have hW := h.wf
  have hb := hW.1
  have hb2 := hW.2.1
  refine Ri.of (by decide) rfl (by decide) (Nat.le_of_ble_eq_true rfl) ?_
  refine (show Ev _ none _ _ _ _ _ 0 [_, _, _, _, _, _, _, _] [] _ from ?_)
  refine ev_iload_1 (q := 1) dL_wins_0 rfl ?_
  refine ev_aload_0 (q := 2) dL_wins_1 rfl ?_
  refine ev_iconst (q := 3) dL_wins_2 rfl ?_
  refine ev_callV1iR (q := 6) dL_wins_3 vs_RL_27 (by first | assumption | rfl) (w_count0 h) (by decide) (Nat.le_of_ble_eq_true rfl) rfl (fun x_3 M_3 hq_3 h_3 => ?_)
  obtain ⟨e_3, h2⟩ := hq_3
  subst e_3
  refine ev_irem (q := 7) dL_wins_6 rfl ⟨by constructor <;> omega, by constructor <;> omega, by omega, by omega⟩ ?_
  have he0 := Int.emod_nonneg y (show vel v ≠ 0 by omega)
  have he1 := Int.emod_lt_of_pos y (show 0 < vel v by omega)
  generalize y % vel v = e at he0 he1 ⊢
  obtain ⟨e, rfl⟩ : ∃ e' : Nat, e = (e' : Int) := ⟨e.toNat, by omega⟩
  refine ev_istore_2 (q := 8) dL_wins_7 rfl (by decide) ?_
  refine ev_iload_1 (q := 9) dL_wins_8 rfl ?_
  refine ev_bipush (q := 11) dL_wins_9 rfl (by decide) ?_
  refine ev_idiv (q := 12) dL_wins_11 rfl ⟨by constructor <;> omega, by constructor <;> omega, by omega, by omega⟩ ?_
  refine ev_bipush (q := 14) dL_wins_12 rfl (by decide) ?_
  refine ev_irem (q := 15) dL_wins_14 rfl ⟨by constructor <;> omega, by constructor <;> omega, by omega, by omega⟩ ?_
  have hp0 : 0 ≤ y / 16 % 16 ∧ y / 16 % 16 ≤ 15 := by omega
  generalize y / 16 % 16 = p at hp0 ⊢
  obtain ⟨p, rfl⟩ : ∃ p' : Nat, p = (p' : Int) := ⟨p.toNat, by omega⟩
  refine ev_istore_3 (q := 16) dL_wins_15 rfl (by decide) ?_
  refine ev_aload_0 (q := 17) dL_wins_16 rfl ?_
  refine ev_iconst (q := 18) dL_wins_17 rfl ?_
  refine ev_callV1iR (q := 21) dL_wins_18 vs_RL_27 (by first | assumption | rfl) (w_count1 h2) (by decide) (Nat.le_of_ble_eq_true rfl) rfl (fun x_18 M_18 hq_18 h_18 => ?_)
  obtain ⟨e_18, h3⟩ := hq_18
  obtain ⟨n, hn⟩ : ∃ n : Nat, vrn v = (n : Int) := ⟨(vrn v).toNat, by omega⟩
  rw [hn] at e_18
  subst e_18
  refine ev_istore_4 (q := 23) dL_wins_21 rfl (by decide) ?_
  refine ev_iload_4 (q := 25) dL_wins_23 rfl ?_
  refine ev_bipush (q := 27) dL_wins_25 rfl (by decide) ?_
  refine ev_icmp_ne (t := 53) (q := 30) dL_wins_27 (by decide) rfl (by constructor <;> omega) (by constructor <;> omega) (fun h_27 => ?_) (fun h_27 => ?_)
  · refine ev_aload_0 (q := 54) dL_wins_53 rfl ?_
    refine ev_iload_2 (q := 55) dL_wins_54 rfl ?_
    refine ev_iload_3 (q := 56) dL_wins_55 rfl ?_
    refine ev_callV2iR (q := 59) dL_wins_56 vs_RL_15 (by first | assumption | rfl) (w_value h3 (e := (e : Int)) (p := (p : Int)) (by omega) (by omega)) (by decide) (Nat.le_of_ble_eq_true rfl) rfl (fun x_56 M_56 hq_56 h_56 => ?_)
    obtain ⟨e_56, h4⟩ := hq_56
    simp only [Int.toNat_natCast] at e_56
    refine ev_istore_5 (q := 61) dL_wins_59 rfl (by decide) ?_
    refine ev_iload_2 (q := 62) dL_wins_61 rfl ?_
    refine ev_if_ne (t := 69) (q := 65) dL_wins_62 (by decide) rfl (by constructor <;> omega) (fun h_62 => ?_) (fun h_62 => ?_)
    · have hpar := (hW.2.2.1 e he1).1
      refine ev_aload_0 (q := 70) dL_wins_69 rfl ?_
      refine ev_aload_0 (q := 71) dL_wins_70 rfl ?_
      refine ev_iload_2 (q := 72) dL_wins_71 rfl ?_
      refine ev_iconst (q := 73) dL_wins_72 rfl ?_
      refine ev_callV2iR (q := 76) dL_wins_73 vs_RL_31 (by first | assumption | rfl) (w_elem0 h4 (e := (e : Int)) (by omega)) (by decide) (Nat.le_of_ble_eq_true rfl) rfl (fun x_73 M_73 hq_73 h_73 => ?_)
      obtain ⟨e_73, h5⟩ := hq_73
      simp only [Int.toNat_natCast] at e_73
      refine ev_iconst (q := 77) dL_wins_76 rfl ?_
      refine ev_callV2iR (q := 80) dL_wins_77 vs_RL_31 (by first | assumption | rfl) (w_elem1 h5 (e := x_73) (by omega)) (by decide) (Nat.le_of_ble_eq_true rfl) rfl (fun x_77 M_77 hq_77 h_77 => ?_)
      first | exact k80_wins hW hl hn (by omega) he1 (by omega) e_56 (by rw [if_pos (by omega)]) h4 | exact k80_wins hW hl hn (by omega) he1 (by omega) e_56 (by rw [hq_77.1, e_73, if_neg (by omega)]) hq_77.2
    · refine ev_iconst (q := 66) dL_wins_65 rfl ?_
      refine ev_goto (q := 80) dL_wins_66 (by decide) ?_
      first | exact k80_wins hW hl hn (by omega) he1 (by omega) e_56 (by rw [if_pos (by omega)]) h4 | exact k80_wins hW hl hn (by omega) he1 (by omega) e_56 (by rw [hq_77.1, e_73, if_neg (by omega)]) hq_77.2
  · refine ev_aload_0 (q := 31) dL_wins_30 rfl ?_
    refine ev_iload_1 (q := 32) dL_wins_31 rfl ?_
    refine ev_sipush (q := 35) dL_wins_32 rfl (by decide) ?_
    refine ev_idiv (q := 36) dL_wins_35 rfl ⟨by constructor <;> omega, by constructor <;> omega, by omega, by omega⟩ ?_
    refine ev_bipush (q := 38) dL_wins_36 rfl (by decide) ?_
    refine ev_irem (q := 39) dL_wins_38 rfl ⟨by constructor <;> omega, by constructor <;> omega, by omega, by omega⟩ ?_
    refine ev_callV1iR (q := 42) dL_wins_39 vs_RL_43 (by first | assumption | rfl) (w_drop h3 (by omega) (r := y / 256 % 16) (by omega)) (by decide) (Nat.le_of_ble_eq_true rfl) rfl (fun x_39 M_39 hq_39 h_39 => ?_)
    obtain ⟨e_39, v', h4⟩ := hq_39
    refine ev_bipush (q := 44) dL_wins_42 rfl (by decide) ?_
    refine ev_icmp_ne (t := 51) (q := 47) dL_wins_44 (by decide) rfl (by constructor <;> omega) (by constructor <;> omega) (fun h_44 => ?_) (fun h_44 => ?_)
    · exact absurd h_44 (by omega)
    · refine ev_iconst (q := 48) dL_wins_47 rfl ?_
      refine ev_goto (q := 52) dL_wins_48 (by decide) ?_
      refine ev_ireturn dL_wins_52 rfl (by first | rfl | decide | (split <;> rfl) | (split <;> decide)) (by constructor <;> omega) ?_
      exact ⟨_, rfl, rfl, rfl, v', h4.nil⟩
end Wins2

