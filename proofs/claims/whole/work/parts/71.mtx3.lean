section Md
variable {l : Launch} {M0 M : ev_M} {t : Nat → Int} {len : Int} {P : PS}
theorem b01_ite {c : Prop} [Decidable c] : (if c then (1 : Int) else 0) = b01 (decide c) := by
  by_cases q : c
  · rw [if_pos q, decide_eq_true q]; rfl
  · rw [if_neg q, decide_eq_false q]; rfl
theorem MB.sd {P : PS} {p : Nat} {s w b : Int} (h : MB M0 t len M P) : MB M0 t len (up (up (up M 105 (3 * p) s) 105 (3 * p + 1) w) 105 (3 * p + 2) b) (pat P, pwr P, pbd P, sdU (psd P) p s w b) := by
  obtain ⟨⟨h1, h2, h3, h4, h5, h6, h7, h8, h9⟩, g1, g2, g3⟩ := h
  have o : ∀ i, i ≠ 105 → up (up (up M 105 (3 * p) s) 105 (3 * p + 1) w) 105 (3 * p + 2) b i = M i := fun i hi => by rw [up_ne hi, up_ne hi, up_ne hi]
  refine ⟨⟨?_, ?_, ?_, ?_, h5, h6, ?_, ?_, h9⟩, ?_, ?_, ?_⟩
  · rw [o 100 (by decide)]; exact h1
  · rw [o 100 (by decide)]; exact h2
  · rw [o 100 (by decide)]; exact h3
  · intro k hk
    rw [up_f, up_f, up_f]
    show (if k = 3 * p + 2 then b else if k = 3 * p + 1 then w else if k = 3 * p then s else M 105 k) = if k = 3 * p then s else if k = 3 * p + 1 then w else if k = 3 * p + 2 then b else psd P k
    rw [← h4 k hk]
    by_cases q1 : k = 3 * p
    · rw [if_neg (by omega), if_neg (by omega), if_pos q1, if_pos q1]
    · by_cases q2 : k = 3 * p + 1
      · rw [if_neg (by omega), if_pos q2, if_neg q1, if_pos q2]
      · simp only [q1, q2, if_false]
  · rw [o 100 (by decide)]; exact h7
  · intro k hk; rw [o 103 (by decide)]; exact h8 k hk
  · intro i a c; rw [o i c]; exact g1 i a c
  · rw [o 100 (by decide)]; exact g2
  · rw [o 100 (by decide)]; exact g3
set_option maxHeartbeats 4000000 in
theorem t_dec137 {w1 w3 : Option ev_V} {z : Int} (h : MB M0 t len M (d6 t len P).2) (hp : 0 ≤ (d1 t len P).1 ∧ (d1 t len P).1 ≤ 99) (h5 : 0 ≤ (d5 t len P).1 ∧ (d5 t len P).1 ≤ 999) (h6 : -1 ≤ (d6 t len P).1 ∧ (d6 t len P).1 ≤ 999) (hz : z = (d6 t len P).1) : Ev l none 2 kX8_declares (0, 0) S0 M 137 [some (vr 100), w1, some (vi (d1 t len P).1), w3, some (vi (b01 (decide (cur t len (d3 t len P) = 36)))), some (vi (d5 t len P).1), none] [vi z] (QV S0 (fun M2 => MB M0 t len M2 (decS t len P))) := by
  subst hz
  have hb := b01_rng (decide (cur t len (d3 t len P) = 36))
  obtain ⟨p, hpp⟩ : ∃ p : Nat, (d1 t len P).1 = p := ⟨(d1 t len P).1.toNat, by omega⟩
  refine ev_istore_6 (q := 139) dX8_declares_137 rfl (by decide) ?_
  refine ev_aload_0 (q := 140) dX8_declares_139 rfl ?_
  refine ev_bipush (q := 142) dX8_declares_140 rfl (by decide) ?_
  refine ev_callV1vR (q := 145) dX8_declares_142 vs_RX8_155 (by first | assumption | rfl) (q_wants h (by decide)) (by decide) (Nat.le_of_ble_eq_true rfl) rfl (fun M_142 hq_142 => ?_)
  have hd7 : MB M0 t len M_142 (d7 t len P) := hq_142
  have g2 : M_142 100 7 = b01 (pwr (d7 t len P)) := hd7.1.2.1
  refine ev_aload_0 (q := 146) dX8_declares_145 rfl ?_
  refine ev_getI (q := 149) dX8_declares_146 fl_RX8_138 (by first | assumption | rfl) (by rfl) rfl (fun h_146 => ?_)
  rw [g2] at h_146 ⊢
  refine ev_if_ne (t := 200) (q := 152) dX8_declares_149 (by decide) rfl (by constructor <;> omega) (fun h_149 => ?_) (fun h_149 => ?_)
  · refine ev_return dX8_declares_200 rfl ?_
    refine ⟨rfl, rfl, ?_⟩
    first
    | (rw [decS, if_neg (fun q => h_149 (b01_t.2 q.1))]; exact hd7)
    | (rw [decS, if_neg (fun q => absurd q.2 (by omega))]; exact hd7)
    | (rw [decS, if_pos ⟨b01_t.1 (by omega), by omega⟩, show (3 * (p : Int) + 2).toNat = 3 * p + 2 by omega]
       have e := hd7.sd (p := p) (s := if cur t len (d3 t len P) = 36 then 2 else 1) (w := (d5 t len P).1) (b := (d6 t len P).1)
       rw [hpp, Int.toNat_natCast]
       first
       | (rw [if_pos (show cur t len (d3 t len P) = 36 from Classical.byContradiction (fun q => h_167 (b01_t.2 (decide_eq_false q))))] at e ⊢; exact e)
       | (rw [if_neg (show ¬ cur t len (d3 t len P) = 36 from of_decide_eq_false (b01_t.1 h_167))] at e ⊢; exact e))
  · refine ev_iload_2 (q := 153) dX8_declares_152 rfl ?_
    refine ev_bipush (q := 155) dX8_declares_153 rfl (by decide) ?_
    refine ev_icmp_ge (t := 200) (q := 158) dX8_declares_155 (by decide) rfl (by constructor <;> omega) (by constructor <;> omega) (fun h_155 => ?_) (fun h_155 => ?_)
    · refine ev_return dX8_declares_200 rfl ?_
      refine ⟨rfl, rfl, ?_⟩
      first
      | (rw [decS, if_neg (fun q => h_149 (b01_t.2 q.1))]; exact hd7)
      | (rw [decS, if_neg (fun q => absurd q.2 (by omega))]; exact hd7)
      | (rw [decS, if_pos ⟨b01_t.1 (by omega), by omega⟩, show (3 * (p : Int) + 2).toNat = 3 * p + 2 by omega]
         have e := hd7.sd (p := p) (s := if cur t len (d3 t len P) = 36 then 2 else 1) (w := (d5 t len P).1) (b := (d6 t len P).1)
         rw [hpp, Int.toNat_natCast]
         first
         | (rw [if_pos (show cur t len (d3 t len P) = 36 from Classical.byContradiction (fun q => h_167 (b01_t.2 (decide_eq_false q))))] at e ⊢; exact e)
         | (rw [if_neg (show ¬ cur t len (d3 t len P) = 36 from of_decide_eq_false (b01_t.1 h_167))] at e ⊢; exact e))
    · refine ev_aload_0 (q := 159) dX8_declares_158 rfl ?_
      refine ev_getR (q := 162) dX8_declares_159 fl_RX8_23 (by first | assumption | rfl) (by rfl) rfl ?_
      refine ev_iconst (q := 163) dX8_declares_162 rfl ?_
      refine ev_iload_2 (q := 164) dX8_declares_163 rfl ?_
      refine ev_imul (q := 165) dX8_declares_164 rfl ?_
      refine ev_iload_4 (q := 167) dX8_declares_165 rfl ?_
      refine ev_if_eq (t := 174) (q := 170) dX8_declares_167 (by decide) rfl (by constructor <;> omega) (fun h_167 => ?_) (fun h_167 => ?_)
      · refine ev_iconst (q := 175) dX8_declares_174 rfl ?_
        refine ev_iastore (q := 176) dX8_declares_175 (by first | assumption | rfl) (by omega) (by first | decide | omega) (by constructor <;> omega) rfl ?_
        rw [hpp, show (3 * (p : Int)).toNat = 3 * p by omega]
        refine ev_aload_0 (q := 177) dX8_declares_176 rfl ?_
        refine ev_getR (q := 180) dX8_declares_177 fl_RX8_23 (by first | assumption | rfl) (by rfl) rfl ?_
        refine ev_iconst (q := 181) dX8_declares_180 rfl ?_
        refine ev_iload_2 (q := 182) dX8_declares_181 rfl ?_
        refine ev_imul (q := 183) dX8_declares_182 rfl ?_
        refine ev_iconst (q := 184) dX8_declares_183 rfl ?_
        refine ev_iadd (q := 185) dX8_declares_184 rfl ?_
        refine ev_iload_5 (q := 187) dX8_declares_185 rfl ?_
        refine ev_iastore (q := 188) dX8_declares_187 (by first | assumption | rfl) (by omega) (by first | decide | omega) (by constructor <;> omega) rfl ?_
        rw [show (3 * (p : Int) + 1).toNat = 3 * p + 1 by omega]
        refine ev_aload_0 (q := 189) dX8_declares_188 rfl ?_
        refine ev_getR (q := 192) dX8_declares_189 fl_RX8_23 (by first | assumption | rfl) (by rfl) rfl ?_
        refine ev_iconst (q := 193) dX8_declares_192 rfl ?_
        refine ev_iload_2 (q := 194) dX8_declares_193 rfl ?_
        refine ev_imul (q := 195) dX8_declares_194 rfl ?_
        refine ev_iconst (q := 196) dX8_declares_195 rfl ?_
        refine ev_iadd (q := 197) dX8_declares_196 rfl ?_
        refine ev_iload_6 (q := 199) dX8_declares_197 rfl ?_
        refine ev_iastore (q := 200) dX8_declares_199 (by first | assumption | rfl) (by omega) (by first | decide | omega) (by constructor <;> omega) rfl ?_
        refine ev_return dX8_declares_200 rfl ?_
        refine ⟨rfl, rfl, ?_⟩
        first
        | (rw [decS, if_neg (fun q => h_149 (b01_t.2 q.1))]; exact hd7)
        | (rw [decS, if_neg (fun q => absurd q.2 (by omega))]; exact hd7)
        | (rw [decS, if_pos ⟨b01_t.1 (by omega), by omega⟩, show (3 * (p : Int) + 2).toNat = 3 * p + 2 by omega]
           have e := hd7.sd (p := p) (s := if cur t len (d3 t len P) = 36 then 2 else 1) (w := (d5 t len P).1) (b := (d6 t len P).1)
           rw [hpp, Int.toNat_natCast]
           first
           | (rw [if_pos (show cur t len (d3 t len P) = 36 from Classical.byContradiction (fun q => h_167 (b01_t.2 (decide_eq_false q))))] at e ⊢; exact e)
           | (rw [if_neg (show ¬ cur t len (d3 t len P) = 36 from of_decide_eq_false (b01_t.1 h_167))] at e ⊢; exact e))
      · refine ev_iconst (q := 171) dX8_declares_170 rfl ?_
        refine ev_goto (q := 175) dX8_declares_171 (by decide) ?_
        refine ev_iastore (q := 176) dX8_declares_175 (by first | assumption | rfl) (by omega) (by first | decide | omega) (by constructor <;> omega) rfl ?_
        rw [hpp, show (3 * (p : Int)).toNat = 3 * p by omega]
        refine ev_aload_0 (q := 177) dX8_declares_176 rfl ?_
        refine ev_getR (q := 180) dX8_declares_177 fl_RX8_23 (by first | assumption | rfl) (by rfl) rfl ?_
        refine ev_iconst (q := 181) dX8_declares_180 rfl ?_
        refine ev_iload_2 (q := 182) dX8_declares_181 rfl ?_
        refine ev_imul (q := 183) dX8_declares_182 rfl ?_
        refine ev_iconst (q := 184) dX8_declares_183 rfl ?_
        refine ev_iadd (q := 185) dX8_declares_184 rfl ?_
        refine ev_iload_5 (q := 187) dX8_declares_185 rfl ?_
        refine ev_iastore (q := 188) dX8_declares_187 (by first | assumption | rfl) (by omega) (by first | decide | omega) (by constructor <;> omega) rfl ?_
        rw [show (3 * (p : Int) + 1).toNat = 3 * p + 1 by omega]
        refine ev_aload_0 (q := 189) dX8_declares_188 rfl ?_
        refine ev_getR (q := 192) dX8_declares_189 fl_RX8_23 (by first | assumption | rfl) (by rfl) rfl ?_
        refine ev_iconst (q := 193) dX8_declares_192 rfl ?_
        refine ev_iload_2 (q := 194) dX8_declares_193 rfl ?_
        refine ev_imul (q := 195) dX8_declares_194 rfl ?_
        refine ev_iconst (q := 196) dX8_declares_195 rfl ?_
        refine ev_iadd (q := 197) dX8_declares_196 rfl ?_
        refine ev_iload_6 (q := 199) dX8_declares_197 rfl ?_
        refine ev_iastore (q := 200) dX8_declares_199 (by first | assumption | rfl) (by omega) (by first | decide | omega) (by constructor <;> omega) rfl ?_
        refine ev_return dX8_declares_200 rfl ?_
        refine ⟨rfl, rfl, ?_⟩
        first
        | (rw [decS, if_neg (fun q => h_149 (b01_t.2 q.1))]; exact hd7)
        | (rw [decS, if_neg (fun q => absurd q.2 (by omega))]; exact hd7)
        | (rw [decS, if_pos ⟨b01_t.1 (by omega), by omega⟩, show (3 * (p : Int) + 2).toNat = 3 * p + 2 by omega]
           have e := hd7.sd (p := p) (s := if cur t len (d3 t len P) = 36 then 2 else 1) (w := (d5 t len P).1) (b := (d6 t len P).1)
           rw [hpp, Int.toNat_natCast]
           first
           | (rw [if_pos (show cur t len (d3 t len P) = 36 from Classical.byContradiction (fun q => h_167 (b01_t.2 (decide_eq_false q))))] at e ⊢; exact e)
           | (rw [if_neg (show ¬ cur t len (d3 t len P) = 36 from of_decide_eq_false (b01_t.1 h_167))] at e ⊢; exact e))
set_option maxHeartbeats 4000000 in
theorem t_dec108 {w1 w3 : Option ev_V} {z : Int} (h : MB M0 t len M (d5 t len P).2) (hp : 0 ≤ (d1 t len P).1 ∧ (d1 t len P).1 ≤ 99) (h5 : 0 ≤ (d5 t len P).1 ∧ (d5 t len P).1 ≤ 999) (hz : z = (d5 t len P).1) : Ev l none 2 kX8_declares (0, 0) S0 M 108 [some (vr 100), w1, some (vi (d1 t len P).1), w3, some (vi (b01 (decide (cur t len (d3 t len P) = 36)))), none, none] [vi z] (QV S0 (fun M2 => MB M0 t len M2 (decS t len P))) := by
  subst hz
  have hb := b01_rng (decide (cur t len (d3 t len P) = 36))
  have hN : d6 t len P = (if cur t len (d3 t len P) = 36 ∧ cur t len (d5 t len P).2 = 47 then numS t len 3 0 999 (accS t len 47 (d5 t len P).2) else (-1, (d5 t len P).2)) := rfl
  refine ev_istore_5 (q := 110) dX8_declares_108 rfl (by decide) ?_
  refine ev_iload_4 (q := 112) dX8_declares_110 rfl ?_
  refine ev_if_eq (t := 136) (q := 115) dX8_declares_112 (by decide) rfl (by constructor <;> omega) (fun h_112 => ?_) (fun h_112 => ?_)
  · refine ev_iconst (q := 137) dX8_declares_136 rfl ?_
    first
    | exact t_dec137 (by rw [hN]; exact f3) hp h5 (by rw [hN, ← f1]; omega) (by rw [hN]; exact f1)
    | (rw [if_neg (fun q => absurd (b01_t.1 h_112) (by rw [decide_eq_true q.1]; decide))] at hN
       exact t_dec137 (by rw [hN]; exact h) hp h5 (by rw [hN]; show -1 ≤ (-1 : Int) ∧ (-1 : Int) ≤ 999; decide) (by rw [hN]))
    | (have hc2 : ¬ cur t len (d5 t len P).2 = 47 := fun q => absurd (e1.trans (if_pos q)) (by omega)
       rw [if_neg (fun q => hc2 q.2)] at hN
       rw [accS, if_neg hc2] at e2
       exact t_dec137 (by rw [hN]; exact e2) hp h5 (by rw [hN]; show -1 ≤ (-1 : Int) ∧ (-1 : Int) ≤ 999; decide) (by rw [hN]))
  · refine ev_aload_0 (q := 116) dX8_declares_115 rfl ?_
    refine ev_bipush (q := 118) dX8_declares_116 rfl (by decide) ?_
    refine ev_callV1iR (q := 121) dX8_declares_118 vs_RX8_145 (by first | assumption | rfl) (q_passes h (by decide)) (by decide) (Nat.le_of_ble_eq_true rfl) rfl (fun x_118 M_118 hq_118 h_118 => ?_)
    obtain ⟨e1, e2⟩ := hq_118
    refine ev_if_eq (t := 136) (q := 124) dX8_declares_121 (by decide) rfl (by constructor <;> omega) (fun h_121 => ?_) (fun h_121 => ?_)
    · refine ev_iconst (q := 137) dX8_declares_136 rfl ?_
      first
      | exact t_dec137 (by rw [hN]; exact f3) hp h5 (by rw [hN, ← f1]; omega) (by rw [hN]; exact f1)
      | (rw [if_neg (fun q => absurd (b01_t.1 h_112) (by rw [decide_eq_true q.1]; decide))] at hN
         exact t_dec137 (by rw [hN]; exact h) hp h5 (by rw [hN]; show -1 ≤ (-1 : Int) ∧ (-1 : Int) ≤ 999; decide) (by rw [hN]))
      | (have hc2 : ¬ cur t len (d5 t len P).2 = 47 := fun q => absurd (e1.trans (if_pos q)) (by omega)
         rw [if_neg (fun q => hc2 q.2)] at hN
         rw [accS, if_neg hc2] at e2
         exact t_dec137 (by rw [hN]; exact e2) hp h5 (by rw [hN]; show -1 ≤ (-1 : Int) ∧ (-1 : Int) ≤ 999; decide) (by rw [hN]))
    · refine ev_aload_0 (q := 125) dX8_declares_124 rfl ?_
      refine ev_iconst (q := 126) dX8_declares_125 rfl ?_
      refine ev_iconst (q := 127) dX8_declares_126 rfl ?_
      refine ev_sipush (q := 130) dX8_declares_127 rfl (by decide) ?_
      refine ev_callV3iR (q := 133) dX8_declares_130 vs_RX8_152 (by first | assumption | rfl) (q_number (d := 3) rfl e2 (by decide) (by constructor <;> omega) (by constructor <;> omega)) (by decide) (Nat.le_of_ble_eq_true rfl) rfl (fun x_130 M_130 hq_130 h_130 => ?_)
      obtain ⟨f1, f2, f3⟩ := hq_130
      have hb3 := bnd_le 3 (by decide)
      have hcc : cur t len (d3 t len P) = 36 := Classical.byContradiction (fun q => h_112 (b01_t.2 (decide_eq_false q)))
      have hc2 : cur t len (d5 t len P).2 = 47 := Classical.byContradiction (fun q => h_121 (by rw [e1, if_neg q]))
      rw [if_pos ⟨hcc, hc2⟩] at hN
      refine ev_goto (q := 137) dX8_declares_133 (by decide) ?_
      first
      | exact t_dec137 (by rw [hN]; exact f3) hp h5 (by rw [hN, ← f1]; omega) (by rw [hN]; exact f1)
      | (rw [if_neg (fun q => absurd (b01_t.1 h_112) (by rw [decide_eq_true q.1]; decide))] at hN
         exact t_dec137 (by rw [hN]; exact h) hp h5 (by rw [hN]; show -1 ≤ (-1 : Int) ∧ (-1 : Int) ≤ 999; decide) (by rw [hN]))
      | (have hc2 : ¬ cur t len (d5 t len P).2 = 47 := fun q => absurd (e1.trans (if_pos q)) (by omega)
         rw [if_neg (fun q => hc2 q.2)] at hN
         rw [accS, if_neg hc2] at e2
         exact t_dec137 (by rw [hN]; exact e2) hp h5 (by rw [hN]; show -1 ≤ (-1 : Int) ∧ (-1 : Int) ≤ 999; decide) (by rw [hN]))
set_option maxHeartbeats 4000000 in
theorem t_dec65 {w1 w3 : Option ev_V} {y : Int} (h : MB M0 t len M (d1 t len P).2) (hp : 0 ≤ (d1 t len P).1 ∧ (d1 t len P).1 ≤ 99) (hP : -1 ≤ pat P ∧ pat P ≤ 80) (hy : y = pbd (d2 t len P)) : Ev l none 2 kX8_declares (0, 0) S0 M 65 [some (vr 100), w1, some (vi (d1 t len P).1), w3, none, none, none] [vi y, vr 100] (QV S0 (fun M2 => MB M0 t len M2 (decS t len P))) := by
  have hyr : -1 ≤ y ∧ y ≤ 80 := by
    rw [hy]
    unfold d2
    split
    · exact hP
    · exact h.1.2.2.2.2.2.2.2.2
  have h2 : MB M0 t len (up M 100 6 y) (d2 t len P) := by
    have e := h.bd hyr
    rw [hy] at e ⊢
    unfold d2 at e ⊢
    split
    · rename_i q
      rw [if_pos q] at e
      exact e
    · rename_i q
      rw [if_neg q] at e
      exact e
  clear hy
  have hb3 := bnd_le 3 (by decide)
  have hb2 := bnd_le 2 (by decide)
  have hN : d5 t len P = (if cur t len (d3 t len P) = 36 then numS t len 2 8 15 (accS t len 36 (d3 t len P)) else numS t len 3 0 999 (d3 t len P)) := rfl
  refine ev_putI (q := 68) dX8_declares_65 fl_RX8_149 (by first | assumption | rfl) (by rfl) rfl (by constructor <;> omega) ?_
  refine ev_aload_0 (q := 69) dX8_declares_68 rfl ?_
  refine ev_bipush (q := 71) dX8_declares_69 rfl (by decide) ?_
  refine ev_callV1vR (q := 74) dX8_declares_71 vs_RX8_155 (by first | assumption | rfl) (q_wants h2 (by decide)) (by decide) (Nat.le_of_ble_eq_true rfl) rfl (fun M_71 hq_71 => ?_)
  refine ev_aload_0 (q := 75) dX8_declares_74 rfl ?_
  refine ev_bipush (q := 77) dX8_declares_75 rfl (by decide) ?_
  refine ev_callV1iR (q := 80) dX8_declares_77 vs_RX8_145 (by first | assumption | rfl) (q_passes (P := d3 t len P) hq_71 (by decide)) (by decide) (Nat.le_of_ble_eq_true rfl) rfl (fun x_77 M_77 hq_77 h_77 => ?_)
  obtain ⟨e1, e2⟩ := hq_77
  rw [b01_ite] at e1
  rw [e1]
  have hb := b01_rng (decide (cur t len (d3 t len P) = 36))
  refine ev_istore_4 (q := 82) dX8_declares_80 rfl (by decide) ?_
  refine ev_iload_4 (q := 84) dX8_declares_82 rfl ?_
  refine ev_if_eq (t := 99) (q := 87) dX8_declares_84 (by decide) rfl (by constructor <;> omega) (fun h_84 => ?_) (fun h_84 => ?_)
  · refine ev_aload_0 (q := 100) dX8_declares_99 rfl ?_
    refine ev_iconst (q := 101) dX8_declares_100 rfl ?_
    refine ev_iconst (q := 102) dX8_declares_101 rfl ?_
    refine ev_sipush (q := 105) dX8_declares_102 rfl (by decide) ?_
    have hcc : ¬ cur t len (d3 t len P) = 36 := of_decide_eq_false (b01_t.1 h_84)
    rw [if_neg hcc] at hN
    rw [accS, if_neg hcc] at e2
    refine ev_callV3iR (q := 108) dX8_declares_105 vs_RX8_152 (by first | assumption | rfl) (q_number (d := 3) rfl e2 (by decide) (by constructor <;> omega) (by constructor <;> omega)) (by decide) (Nat.le_of_ble_eq_true rfl) rfl (fun x_105 M_105 hq_105 h_105 => ?_)
    first | exact t_dec108 (by rw [hN]; exact f3) hp (by rw [hN, ← f1]; omega) (by rw [hN]; exact f1) | (obtain ⟨f1, f2, f3⟩ := hq_105; exact t_dec108 (by rw [hN]; exact f3) hp (by rw [hN, ← f1]; omega) (by rw [hN]; exact f1))
  · refine ev_aload_0 (q := 88) dX8_declares_87 rfl ?_
    refine ev_iconst (q := 89) dX8_declares_88 rfl ?_
    refine ev_bipush (q := 91) dX8_declares_89 rfl (by decide) ?_
    refine ev_bipush (q := 93) dX8_declares_91 rfl (by decide) ?_
    refine ev_callV3iR (q := 96) dX8_declares_93 vs_RX8_152 (by first | assumption | rfl) (q_number (d := 2) rfl e2 (by decide) (by constructor <;> omega) (by constructor <;> omega)) (by decide) (Nat.le_of_ble_eq_true rfl) rfl (fun x_93 M_93 hq_93 h_93 => ?_)
    obtain ⟨f1, f2, f3⟩ := hq_93
    have hcc : cur t len (d3 t len P) = 36 := Classical.byContradiction (fun q => h_84 (b01_t.2 (decide_eq_false q)))
    rw [if_pos hcc] at hN
    refine ev_goto (q := 108) dX8_declares_96 (by decide) ?_
    first | exact t_dec108 (by rw [hN]; exact f3) hp (by rw [hN, ← f1]; omega) (by rw [hN]; exact f1) | (obtain ⟨f1, f2, f3⟩ := hq_105; exact t_dec108 (by rw [hN]; exact f3) hp (by rw [hN, ← f1]; omega) (by rw [hN]; exact f1))
set_option maxHeartbeats 4000000 in
theorem q_declares (h : MB M0 t len M P) : Rv l 2 kX8_declares yX8_declares S0 M [vr 100] (fun M2 => MB M0 t len M2 (decS t len P)) := by
  have h1 := h.1.1
  have h5 := h.1.2.2.2.2.1
  have h6 := h.1.2.2.2.2.2.1
  have hb2 := bnd_le 2 (by decide)
  have hb2' : bnd 2 = 99 := rfl
  refine Rv.of (by decide) rfl (by decide) (Nat.le_of_ble_eq_true rfl) ?_
  refine (show Ev _ none _ _ _ _ _ 0 [_, _, _, _, _, _, _] [] _ from ?_)
  refine ev_aload_0 (q := 1) dX8_declares_0 rfl ?_
  refine ev_getI (q := 4) dX8_declares_1 fl_RX8_142 (by first | assumption | rfl) (by rfl) rfl (fun h_1 => ?_)
  rw [h1] at h_1 ⊢
  refine ev_istore_1 (q := 5) dX8_declares_4 rfl (by decide) ?_
  refine ev_aload_0 (q := 6) dX8_declares_5 rfl ?_
  refine ev_iconst (q := 7) dX8_declares_6 rfl ?_
  refine ev_iconst (q := 8) dX8_declares_7 rfl ?_
  refine ev_bipush (q := 10) dX8_declares_8 rfl (by decide) ?_
  refine ev_callV3iR (q := 13) dX8_declares_10 vs_RX8_152 (by first | assumption | rfl) (q_number (d := 2) rfl h (by decide) (by constructor <;> omega) (by constructor <;> omega)) (by decide) (Nat.le_of_ble_eq_true rfl) rfl (fun x_10 M_10 hq_10 h_10 => ?_)
  obtain ⟨e1, e2, e3⟩ := hq_10
  have e3 : MB M0 t len M_10 (d1 t len P).2 := e3
  have e1 : x_10 = (d1 t len P).1 := e1
  subst e1
  have g2 : M_10 100 7 = b01 (pwr (d1 t len P).2) := e3.1.2.1
  have g3 : M_10 100 6 = pbd (d1 t len P).2 := e3.1.2.2.1
  have hbb := b01_rng (pwr (d1 t len P).2)
  have hd2 : d2 t len P = if (pwr (d1 t len P).2 = false ∧ (d1 t len P).1 < 16 ∧ psd (d1 t len P).2 (3 * (d1 t len P).1.toNat) > 0) ∧ pbd (d1 t len P).2 = -1 then (pat (d1 t len P).2, pwr (d1 t len P).2, pat P, psd (d1 t len P).2) else (d1 t len P).2 := rfl
  refine ev_istore_2 (q := 14) dX8_declares_13 rfl (by decide) ?_
  refine ev_aload_0 (q := 15) dX8_declares_14 rfl ?_
  refine ev_getI (q := 18) dX8_declares_15 fl_RX8_138 (by first | assumption | rfl) (by rfl) rfl (fun h_15 => ?_)
  rw [g2] at h_15 ⊢
  refine ev_if_ne (t := 42) (q := 21) dX8_declares_18 (by decide) rfl (by constructor <;> omega) (fun h_18 => ?_) (fun h_18 => ?_)
  · refine ev_iconst (q := 43) dX8_declares_42 rfl ?_
    refine ev_istore_3 (q := 44) dX8_declares_43 rfl (by decide) ?_
    refine ev_aload_0 (q := 45) dX8_declares_44 rfl ?_
    refine ev_iload_3 (q := 46) dX8_declares_45 rfl ?_
    refine ev_if_eq (t := 61) (q := 49) dX8_declares_46 (by decide) rfl (by constructor <;> omega) (fun h_46 => ?_) (fun h_46 => ?_)
    · refine ev_aload_0 (q := 62) dX8_declares_61 rfl ?_
      refine ev_getI (q := 65) dX8_declares_62 fl_RX8_149 (by first | assumption | rfl) (by rfl) rfl (fun h_62 => ?_)
      first
      | exact absurd h_46 (show ¬ (1 : Int) = 0 by decide)
      | exact absurd (show (0 : Int) = 0 from rfl) h_46
      | (have hx : pbd (d1 t len P).2 = -1 := h_54
         exact t_dec65 e3 (by omega) (by omega) (by rw [hd2, if_pos ⟨⟨b01_t.1 (by omega), by omega, by omega⟩, hx⟩]))
      | (have hx : ¬ pbd (d1 t len P).2 = -1 := h_54
         exact t_dec65 e3 (by omega) (by omega) (by rw [hd2, if_neg (fun q => hx q.2), g3]))
      | (have hx : ¬ b01 (pwr (d1 t len P).2) = 0 := h_18
         exact t_dec65 e3 (by omega) (by omega) (by rw [hd2, if_neg (fun q => hx (b01_t.2 q.1.1)), g3]))
      | exact t_dec65 e3 (by omega) (by omega) (by rw [hd2, if_neg (fun q => absurd q.1.2.1 (by omega)), g3])
      | exact t_dec65 e3 (by omega) (by omega) (by rw [hd2, if_neg (fun q => absurd q.1.2.2 (by omega)), g3])
    · refine ev_aload_0 (q := 50) dX8_declares_49 rfl ?_
      refine ev_getI (q := 53) dX8_declares_50 fl_RX8_149 (by first | assumption | rfl) (by rfl) rfl (fun h_50 => ?_)
      rw [g3] at h_50 ⊢
      refine ev_iconst (q := 54) dX8_declares_53 rfl ?_
      refine ev_icmp_ne (t := 61) (q := 57) dX8_declares_54 (by decide) rfl (by constructor <;> omega) (by constructor <;> omega) (fun h_54 => ?_) (fun h_54 => ?_)
      · refine ev_aload_0 (q := 62) dX8_declares_61 rfl ?_
        refine ev_getI (q := 65) dX8_declares_62 fl_RX8_149 (by first | assumption | rfl) (by rfl) rfl (fun h_62 => ?_)
        first
        | exact absurd h_46 (show ¬ (1 : Int) = 0 by decide)
        | exact absurd (show (0 : Int) = 0 from rfl) h_46
        | (have hx : pbd (d1 t len P).2 = -1 := h_54
           exact t_dec65 e3 (by omega) (by omega) (by rw [hd2, if_pos ⟨⟨b01_t.1 (by omega), by omega, by omega⟩, hx⟩]))
        | (have hx : ¬ pbd (d1 t len P).2 = -1 := h_54
           exact t_dec65 e3 (by omega) (by omega) (by rw [hd2, if_neg (fun q => hx q.2), g3]))
        | (have hx : ¬ b01 (pwr (d1 t len P).2) = 0 := h_18
           exact t_dec65 e3 (by omega) (by omega) (by rw [hd2, if_neg (fun q => hx (b01_t.2 q.1.1)), g3]))
        | exact t_dec65 e3 (by omega) (by omega) (by rw [hd2, if_neg (fun q => absurd q.1.2.1 (by omega)), g3])
        | exact t_dec65 e3 (by omega) (by omega) (by rw [hd2, if_neg (fun q => absurd q.1.2.2 (by omega)), g3])
      · refine ev_iload_1 (q := 58) dX8_declares_57 rfl ?_
        refine ev_goto (q := 65) dX8_declares_58 (by decide) ?_
        first
        | exact absurd h_46 (show ¬ (1 : Int) = 0 by decide)
        | exact absurd (show (0 : Int) = 0 from rfl) h_46
        | (have hx : pbd (d1 t len P).2 = -1 := h_54
           exact t_dec65 e3 (by omega) (by omega) (by rw [hd2, if_pos ⟨⟨b01_t.1 (by omega), by omega, by omega⟩, hx⟩]))
        | (have hx : ¬ pbd (d1 t len P).2 = -1 := h_54
           exact t_dec65 e3 (by omega) (by omega) (by rw [hd2, if_neg (fun q => hx q.2), g3]))
        | (have hx : ¬ b01 (pwr (d1 t len P).2) = 0 := h_18
           exact t_dec65 e3 (by omega) (by omega) (by rw [hd2, if_neg (fun q => hx (b01_t.2 q.1.1)), g3]))
        | exact t_dec65 e3 (by omega) (by omega) (by rw [hd2, if_neg (fun q => absurd q.1.2.1 (by omega)), g3])
        | exact t_dec65 e3 (by omega) (by omega) (by rw [hd2, if_neg (fun q => absurd q.1.2.2 (by omega)), g3])
  · refine ev_iload_2 (q := 22) dX8_declares_21 rfl ?_
    refine ev_bipush (q := 24) dX8_declares_22 rfl (by decide) ?_
    refine ev_icmp_ge (t := 42) (q := 27) dX8_declares_24 (by decide) rfl (by constructor <;> omega) (by constructor <;> omega) (fun h_24 => ?_) (fun h_24 => ?_)
    · refine ev_iconst (q := 43) dX8_declares_42 rfl ?_
      refine ev_istore_3 (q := 44) dX8_declares_43 rfl (by decide) ?_
      refine ev_aload_0 (q := 45) dX8_declares_44 rfl ?_
      refine ev_iload_3 (q := 46) dX8_declares_45 rfl ?_
      refine ev_if_eq (t := 61) (q := 49) dX8_declares_46 (by decide) rfl (by constructor <;> omega) (fun h_46 => ?_) (fun h_46 => ?_)
      · refine ev_aload_0 (q := 62) dX8_declares_61 rfl ?_
        refine ev_getI (q := 65) dX8_declares_62 fl_RX8_149 (by first | assumption | rfl) (by rfl) rfl (fun h_62 => ?_)
        first
        | exact absurd h_46 (show ¬ (1 : Int) = 0 by decide)
        | exact absurd (show (0 : Int) = 0 from rfl) h_46
        | (have hx : pbd (d1 t len P).2 = -1 := h_54
           exact t_dec65 e3 (by omega) (by omega) (by rw [hd2, if_pos ⟨⟨b01_t.1 (by omega), by omega, by omega⟩, hx⟩]))
        | (have hx : ¬ pbd (d1 t len P).2 = -1 := h_54
           exact t_dec65 e3 (by omega) (by omega) (by rw [hd2, if_neg (fun q => hx q.2), g3]))
        | (have hx : ¬ b01 (pwr (d1 t len P).2) = 0 := h_18
           exact t_dec65 e3 (by omega) (by omega) (by rw [hd2, if_neg (fun q => hx (b01_t.2 q.1.1)), g3]))
        | exact t_dec65 e3 (by omega) (by omega) (by rw [hd2, if_neg (fun q => absurd q.1.2.1 (by omega)), g3])
        | exact t_dec65 e3 (by omega) (by omega) (by rw [hd2, if_neg (fun q => absurd q.1.2.2 (by omega)), g3])
      · refine ev_aload_0 (q := 50) dX8_declares_49 rfl ?_
        refine ev_getI (q := 53) dX8_declares_50 fl_RX8_149 (by first | assumption | rfl) (by rfl) rfl (fun h_50 => ?_)
        rw [g3] at h_50 ⊢
        refine ev_iconst (q := 54) dX8_declares_53 rfl ?_
        refine ev_icmp_ne (t := 61) (q := 57) dX8_declares_54 (by decide) rfl (by constructor <;> omega) (by constructor <;> omega) (fun h_54 => ?_) (fun h_54 => ?_)
        · refine ev_aload_0 (q := 62) dX8_declares_61 rfl ?_
          refine ev_getI (q := 65) dX8_declares_62 fl_RX8_149 (by first | assumption | rfl) (by rfl) rfl (fun h_62 => ?_)
          first
          | exact absurd h_46 (show ¬ (1 : Int) = 0 by decide)
          | exact absurd (show (0 : Int) = 0 from rfl) h_46
          | (have hx : pbd (d1 t len P).2 = -1 := h_54
             exact t_dec65 e3 (by omega) (by omega) (by rw [hd2, if_pos ⟨⟨b01_t.1 (by omega), by omega, by omega⟩, hx⟩]))
          | (have hx : ¬ pbd (d1 t len P).2 = -1 := h_54
             exact t_dec65 e3 (by omega) (by omega) (by rw [hd2, if_neg (fun q => hx q.2), g3]))
          | (have hx : ¬ b01 (pwr (d1 t len P).2) = 0 := h_18
             exact t_dec65 e3 (by omega) (by omega) (by rw [hd2, if_neg (fun q => hx (b01_t.2 q.1.1)), g3]))
          | exact t_dec65 e3 (by omega) (by omega) (by rw [hd2, if_neg (fun q => absurd q.1.2.1 (by omega)), g3])
          | exact t_dec65 e3 (by omega) (by omega) (by rw [hd2, if_neg (fun q => absurd q.1.2.2 (by omega)), g3])
        · refine ev_iload_1 (q := 58) dX8_declares_57 rfl ?_
          refine ev_goto (q := 65) dX8_declares_58 (by decide) ?_
          first
          | exact absurd h_46 (show ¬ (1 : Int) = 0 by decide)
          | exact absurd (show (0 : Int) = 0 from rfl) h_46
          | (have hx : pbd (d1 t len P).2 = -1 := h_54
             exact t_dec65 e3 (by omega) (by omega) (by rw [hd2, if_pos ⟨⟨b01_t.1 (by omega), by omega, by omega⟩, hx⟩]))
          | (have hx : ¬ pbd (d1 t len P).2 = -1 := h_54
             exact t_dec65 e3 (by omega) (by omega) (by rw [hd2, if_neg (fun q => hx q.2), g3]))
          | (have hx : ¬ b01 (pwr (d1 t len P).2) = 0 := h_18
             exact t_dec65 e3 (by omega) (by omega) (by rw [hd2, if_neg (fun q => hx (b01_t.2 q.1.1)), g3]))
          | exact t_dec65 e3 (by omega) (by omega) (by rw [hd2, if_neg (fun q => absurd q.1.2.1 (by omega)), g3])
          | exact t_dec65 e3 (by omega) (by omega) (by rw [hd2, if_neg (fun q => absurd q.1.2.2 (by omega)), g3])
    · refine ev_aload_0 (q := 28) dX8_declares_27 rfl ?_
      refine ev_getR (q := 31) dX8_declares_28 fl_RX8_23 (by first | assumption | rfl) (by rfl) rfl ?_
      refine ev_iconst (q := 32) dX8_declares_31 rfl ?_
      refine ev_iload_2 (q := 33) dX8_declares_32 rfl ?_
      refine ev_imul (q := 34) dX8_declares_33 rfl ?_
      refine ev_iaload (q := 35) dX8_declares_34 (by first | assumption | rfl) (by omega) (by first | decide | omega) rfl (fun h_34 => ?_)
      rw [show (3 * (d1 t len P).1).toNat = 3 * (d1 t len P).1.toNat by omega, e3.1.2.2.2.1 _ (by omega)] at h_34 ⊢
      refine ev_if_le (t := 42) (q := 38) dX8_declares_35 (by decide) rfl (by constructor <;> omega) (fun h_35 => ?_) (fun h_35 => ?_)
      · refine ev_iconst (q := 43) dX8_declares_42 rfl ?_
        refine ev_istore_3 (q := 44) dX8_declares_43 rfl (by decide) ?_
        refine ev_aload_0 (q := 45) dX8_declares_44 rfl ?_
        refine ev_iload_3 (q := 46) dX8_declares_45 rfl ?_
        refine ev_if_eq (t := 61) (q := 49) dX8_declares_46 (by decide) rfl (by constructor <;> omega) (fun h_46 => ?_) (fun h_46 => ?_)
        · refine ev_aload_0 (q := 62) dX8_declares_61 rfl ?_
          refine ev_getI (q := 65) dX8_declares_62 fl_RX8_149 (by first | assumption | rfl) (by rfl) rfl (fun h_62 => ?_)
          first
          | exact absurd h_46 (show ¬ (1 : Int) = 0 by decide)
          | exact absurd (show (0 : Int) = 0 from rfl) h_46
          | (have hx : pbd (d1 t len P).2 = -1 := h_54
             exact t_dec65 e3 (by omega) (by omega) (by rw [hd2, if_pos ⟨⟨b01_t.1 (by omega), by omega, by omega⟩, hx⟩]))
          | (have hx : ¬ pbd (d1 t len P).2 = -1 := h_54
             exact t_dec65 e3 (by omega) (by omega) (by rw [hd2, if_neg (fun q => hx q.2), g3]))
          | (have hx : ¬ b01 (pwr (d1 t len P).2) = 0 := h_18
             exact t_dec65 e3 (by omega) (by omega) (by rw [hd2, if_neg (fun q => hx (b01_t.2 q.1.1)), g3]))
          | exact t_dec65 e3 (by omega) (by omega) (by rw [hd2, if_neg (fun q => absurd q.1.2.1 (by omega)), g3])
          | exact t_dec65 e3 (by omega) (by omega) (by rw [hd2, if_neg (fun q => absurd q.1.2.2 (by omega)), g3])
        · refine ev_aload_0 (q := 50) dX8_declares_49 rfl ?_
          refine ev_getI (q := 53) dX8_declares_50 fl_RX8_149 (by first | assumption | rfl) (by rfl) rfl (fun h_50 => ?_)
          rw [g3] at h_50 ⊢
          refine ev_iconst (q := 54) dX8_declares_53 rfl ?_
          refine ev_icmp_ne (t := 61) (q := 57) dX8_declares_54 (by decide) rfl (by constructor <;> omega) (by constructor <;> omega) (fun h_54 => ?_) (fun h_54 => ?_)
          · refine ev_aload_0 (q := 62) dX8_declares_61 rfl ?_
            refine ev_getI (q := 65) dX8_declares_62 fl_RX8_149 (by first | assumption | rfl) (by rfl) rfl (fun h_62 => ?_)
            first
            | exact absurd h_46 (show ¬ (1 : Int) = 0 by decide)
            | exact absurd (show (0 : Int) = 0 from rfl) h_46
            | (have hx : pbd (d1 t len P).2 = -1 := h_54
               exact t_dec65 e3 (by omega) (by omega) (by rw [hd2, if_pos ⟨⟨b01_t.1 (by omega), by omega, by omega⟩, hx⟩]))
            | (have hx : ¬ pbd (d1 t len P).2 = -1 := h_54
               exact t_dec65 e3 (by omega) (by omega) (by rw [hd2, if_neg (fun q => hx q.2), g3]))
            | (have hx : ¬ b01 (pwr (d1 t len P).2) = 0 := h_18
               exact t_dec65 e3 (by omega) (by omega) (by rw [hd2, if_neg (fun q => hx (b01_t.2 q.1.1)), g3]))
            | exact t_dec65 e3 (by omega) (by omega) (by rw [hd2, if_neg (fun q => absurd q.1.2.1 (by omega)), g3])
            | exact t_dec65 e3 (by omega) (by omega) (by rw [hd2, if_neg (fun q => absurd q.1.2.2 (by omega)), g3])
          · refine ev_iload_1 (q := 58) dX8_declares_57 rfl ?_
            refine ev_goto (q := 65) dX8_declares_58 (by decide) ?_
            first
            | exact absurd h_46 (show ¬ (1 : Int) = 0 by decide)
            | exact absurd (show (0 : Int) = 0 from rfl) h_46
            | (have hx : pbd (d1 t len P).2 = -1 := h_54
               exact t_dec65 e3 (by omega) (by omega) (by rw [hd2, if_pos ⟨⟨b01_t.1 (by omega), by omega, by omega⟩, hx⟩]))
            | (have hx : ¬ pbd (d1 t len P).2 = -1 := h_54
               exact t_dec65 e3 (by omega) (by omega) (by rw [hd2, if_neg (fun q => hx q.2), g3]))
            | (have hx : ¬ b01 (pwr (d1 t len P).2) = 0 := h_18
               exact t_dec65 e3 (by omega) (by omega) (by rw [hd2, if_neg (fun q => hx (b01_t.2 q.1.1)), g3]))
            | exact t_dec65 e3 (by omega) (by omega) (by rw [hd2, if_neg (fun q => absurd q.1.2.1 (by omega)), g3])
            | exact t_dec65 e3 (by omega) (by omega) (by rw [hd2, if_neg (fun q => absurd q.1.2.2 (by omega)), g3])
      · refine ev_iconst (q := 39) dX8_declares_38 rfl ?_
        refine ev_goto (q := 43) dX8_declares_39 (by decide) ?_
        refine ev_istore_3 (q := 44) dX8_declares_43 rfl (by decide) ?_
        refine ev_aload_0 (q := 45) dX8_declares_44 rfl ?_
        refine ev_iload_3 (q := 46) dX8_declares_45 rfl ?_
        refine ev_if_eq (t := 61) (q := 49) dX8_declares_46 (by decide) rfl (by constructor <;> omega) (fun h_46 => ?_) (fun h_46 => ?_)
        · refine ev_aload_0 (q := 62) dX8_declares_61 rfl ?_
          refine ev_getI (q := 65) dX8_declares_62 fl_RX8_149 (by first | assumption | rfl) (by rfl) rfl (fun h_62 => ?_)
          first
          | exact absurd h_46 (show ¬ (1 : Int) = 0 by decide)
          | exact absurd (show (0 : Int) = 0 from rfl) h_46
          | (have hx : pbd (d1 t len P).2 = -1 := h_54
             exact t_dec65 e3 (by omega) (by omega) (by rw [hd2, if_pos ⟨⟨b01_t.1 (by omega), by omega, by omega⟩, hx⟩]))
          | (have hx : ¬ pbd (d1 t len P).2 = -1 := h_54
             exact t_dec65 e3 (by omega) (by omega) (by rw [hd2, if_neg (fun q => hx q.2), g3]))
          | (have hx : ¬ b01 (pwr (d1 t len P).2) = 0 := h_18
             exact t_dec65 e3 (by omega) (by omega) (by rw [hd2, if_neg (fun q => hx (b01_t.2 q.1.1)), g3]))
          | exact t_dec65 e3 (by omega) (by omega) (by rw [hd2, if_neg (fun q => absurd q.1.2.1 (by omega)), g3])
          | exact t_dec65 e3 (by omega) (by omega) (by rw [hd2, if_neg (fun q => absurd q.1.2.2 (by omega)), g3])
        · refine ev_aload_0 (q := 50) dX8_declares_49 rfl ?_
          refine ev_getI (q := 53) dX8_declares_50 fl_RX8_149 (by first | assumption | rfl) (by rfl) rfl (fun h_50 => ?_)
          rw [g3] at h_50 ⊢
          refine ev_iconst (q := 54) dX8_declares_53 rfl ?_
          refine ev_icmp_ne (t := 61) (q := 57) dX8_declares_54 (by decide) rfl (by constructor <;> omega) (by constructor <;> omega) (fun h_54 => ?_) (fun h_54 => ?_)
          · refine ev_aload_0 (q := 62) dX8_declares_61 rfl ?_
            refine ev_getI (q := 65) dX8_declares_62 fl_RX8_149 (by first | assumption | rfl) (by rfl) rfl (fun h_62 => ?_)
            first
            | exact absurd h_46 (show ¬ (1 : Int) = 0 by decide)
            | exact absurd (show (0 : Int) = 0 from rfl) h_46
            | (have hx : pbd (d1 t len P).2 = -1 := h_54
               exact t_dec65 e3 (by omega) (by omega) (by rw [hd2, if_pos ⟨⟨b01_t.1 (by omega), by omega, by omega⟩, hx⟩]))
            | (have hx : ¬ pbd (d1 t len P).2 = -1 := h_54
               exact t_dec65 e3 (by omega) (by omega) (by rw [hd2, if_neg (fun q => hx q.2), g3]))
            | (have hx : ¬ b01 (pwr (d1 t len P).2) = 0 := h_18
               exact t_dec65 e3 (by omega) (by omega) (by rw [hd2, if_neg (fun q => hx (b01_t.2 q.1.1)), g3]))
            | exact t_dec65 e3 (by omega) (by omega) (by rw [hd2, if_neg (fun q => absurd q.1.2.1 (by omega)), g3])
            | exact t_dec65 e3 (by omega) (by omega) (by rw [hd2, if_neg (fun q => absurd q.1.2.2 (by omega)), g3])
          · refine ev_iload_1 (q := 58) dX8_declares_57 rfl ?_
            refine ev_goto (q := 65) dX8_declares_58 (by decide) ?_
            first
            | exact absurd h_46 (show ¬ (1 : Int) = 0 by decide)
            | exact absurd (show (0 : Int) = 0 from rfl) h_46
            | (have hx : pbd (d1 t len P).2 = -1 := h_54
               exact t_dec65 e3 (by omega) (by omega) (by rw [hd2, if_pos ⟨⟨b01_t.1 (by omega), by omega, by omega⟩, hx⟩]))
            | (have hx : ¬ pbd (d1 t len P).2 = -1 := h_54
               exact t_dec65 e3 (by omega) (by omega) (by rw [hd2, if_neg (fun q => hx q.2), g3]))
            | (have hx : ¬ b01 (pwr (d1 t len P).2) = 0 := h_18
               exact t_dec65 e3 (by omega) (by omega) (by rw [hd2, if_neg (fun q => hx (b01_t.2 q.1.1)), g3]))
            | exact t_dec65 e3 (by omega) (by omega) (by rw [hd2, if_neg (fun q => absurd q.1.2.1 (by omega)), g3])
            | exact t_dec65 e3 (by omega) (by omega) (by rw [hd2, if_neg (fun q => absurd q.1.2.2 (by omega)), g3])
end Md

