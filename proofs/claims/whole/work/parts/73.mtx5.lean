section Mh
variable {l : Launch} {M0 M : ev_M} {t : Nat → Int} {len el : Int} {P : PS}
set_option maxHeartbeats 2000000 in
theorem t_f193 {w : Option ev_V} {y : Int} (h : MP t len M (hdP t len el)) (hy : y = hdI t len el) (hg : M 104 0 = (hd1 t len).1 ∧ M 104 1 = (hd2 t len).1 ∧ M 104 2 = (hd3 t len).1 ∧ M 104 4 = (hd4 t len el).1 ∧ M 104 3 = (hd5 t len el).1) (hF : FrW M0 M) : Ev l none 3 kX8_faulty (0, 0) S0 M 193 [some (vr 100), w] [vi y, vi 5, vr 104] (FQ t len el M0) := by
  have hyr : 0 ≤ y ∧ y ≤ 1 := by rw [hy]; unfold hdI; split <;> omega
  have h0 := h.2.2.2.2.1
  have hz : psd (demS t len 123 (hdP t len el)) 48 = 0 := by rw [demS_psd, hd_sd]
  have hda := demS_at (t := t) (len := len) (c := 123) (P := hdP t len el)
  have hG : GotR t len el (up M 104 (5 : Int).toNat y 104) := by
    have o : ∀ k : Nat, k < 5 → up M 104 (5 : Int).toNat y 104 k = M 104 k := fun k hk => up_o (by show k ≠ 5; omega) 104
    refine ⟨?_, ?_, ?_, ?_, ?_, ?_⟩
    · rw [o 0 (by decide)]; exact hg.1
    · rw [o 1 (by decide)]; exact hg.2.1
    · rw [o 2 (by decide)]; exact hg.2.2.1
    · rw [o 4 (by decide)]; exact hg.2.2.2.1
    · rw [o 3 (by decide)]; exact hg.2.2.2.2
    · rw [← hy]; exact up_s
  refine ev_iastore (q := 194) dX8_faulty_193 (by first | assumption | rfl) (by omega) (by first | decide | omega) (by constructor <;> omega) rfl ?_
  refine ev_aload_0 (q := 195) dX8_faulty_194 rfl ?_
  refine ev_bipush (q := 197) dX8_faulty_195 rfl (by decide) ?_
  refine ev_callV1vR (q := 200) dX8_faulty_197 vs_RX8_155 (by first | assumption | rfl) (q_wants (M0 := up M 104 (5 : Int).toNat y) ⟨h.g, MF.rf⟩ (by decide)) (by decide) (Nat.le_of_ble_eq_true rfl) rfl (fun M_197 hq_197 => ?_)
  exact lp_f200 81 _ _ hq_197.1 rfl (fun q => by have := hq_197.1.2.2.2.2.1; omega) hz (by rw [hq_197.2.1 104 (by decide) (by decide)]; exact hG) (hF.g.tr hq_197.2)
set_option maxHeartbeats 2000000 in
theorem t_f173 {w : Option ev_V} {y : Int} (h : MP t len M (hd5 t len el).2) (hy : y = (hd5 t len el).1 ∧ inR y) (hg : M 104 0 = (hd1 t len).1 ∧ M 104 1 = (hd2 t len).1 ∧ M 104 2 = (hd3 t len).1 ∧ M 104 4 = (hd4 t len el).1) (hF : FrW M0 M) : Ev l none 3 kX8_faulty (0, 0) S0 M 173 [some (vr 100), w] [vi y, vi 3, vr 104] (FQ t len el M0) := by
  have hyr := hy.2
  have o : ∀ k : Nat, k ≠ 3 → up M 104 (3 : Int).toNat y 104 k = M 104 k := fun k hk => up_o hk 104
  refine ev_iastore (q := 174) dX8_faulty_173 (by first | assumption | rfl) (by omega) (by first | decide | omega) (by constructor <;> omega) rfl ?_
  refine ev_aload_0 (q := 175) dX8_faulty_174 rfl ?_
  refine ev_getR (q := 178) dX8_faulty_175 fl_RX8_20 (by first | assumption | rfl) (by rfl) rfl ?_
  refine ev_iconst (q := 179) dX8_faulty_178 rfl ?_
  refine ev_aload_0 (q := 180) dX8_faulty_179 rfl ?_
  refine ev_bipush (q := 182) dX8_faulty_180 rfl (by decide) ?_
  refine ev_callV1iR (q := 185) dX8_faulty_182 vs_RX8_145 (by first | assumption | rfl) (q_passes (M0 := up M 104 (3 : Int).toNat y) ⟨h.g, MF.rf⟩ (by decide)) (by decide) (Nat.le_of_ble_eq_true rfl) rfl (fun x_182 M_182 hq_182 h_182 => ?_)
  obtain ⟨e1, e2⟩ := hq_182
  have hg2 : M_182 104 0 = (hd1 t len).1 ∧ M_182 104 1 = (hd2 t len).1 ∧ M_182 104 2 = (hd3 t len).1 ∧ M_182 104 4 = (hd4 t len el).1 ∧ M_182 104 3 = (hd5 t len el).1 := by
    rw [e2.2.1 104 (by decide) (by decide), o 0 (by decide), o 1 (by decide), o 2 (by decide), o 4 (by decide)]
    exact ⟨hg.1, hg.2.1, hg.2.2.1, hg.2.2.2, by rw [← hy.1]; exact up_s⟩
  refine ev_if_eq (t := 192) (q := 188) dX8_faulty_185 (by decide) rfl (by constructor <;> omega) (fun h_185 => ?_) (fun h_185 => ?_)
  · refine ev_iconst (q := 193) dX8_faulty_192 rfl ?_
    refine t_f193 e2.1 ?_ hg2 (hF.g.tr e2.2)
    unfold hdI
    by_cases q : cur t len (hd5 t len el).2 = 33
    · (rw [if_pos q] at e1 ⊢) <;> omega
    · (rw [if_neg q] at e1 ⊢) <;> omega
  · refine ev_iconst (q := 189) dX8_faulty_188 rfl ?_
    refine ev_goto (q := 193) dX8_faulty_189 (by decide) ?_
    refine t_f193 e2.1 ?_ hg2 (hF.g.tr e2.2)
    unfold hdI
    by_cases q : cur t len (hd5 t len el).2 = 33
    · (rw [if_pos q] at e1 ⊢) <;> omega
    · (rw [if_neg q] at e1 ⊢) <;> omega
theorem part_t {c : Int} {d : Nat} {m o : Int} {P : PS} {x y : Int} {M1 M2 : ev_M} (hx : x = (if cur t len P = c then 1 else 0)) (hx0 : ¬ x = 0) (hn : y = (numS t len d 0 m (accS t len c P)).1 ∧ (0 ≤ y ∧ y ≤ bnd d) ∧ MB M0 t len M2 (numS t len d 0 m (accS t len c P)).2) : y = (partS t len c d m o P).1 ∧ MB M0 t len M2 (partS t len c d m o P).2 := by
  have q : cur t len P = c := Classical.byContradiction (fun q => hx0 (by rw [hx, if_neg q]))
  unfold partS
  rw [if_pos q]
  exact ⟨hn.1, hn.2.2⟩
theorem part_f {c : Int} {d : Nat} {m o : Int} {P : PS} {x : Int} {M1 : ev_M} (hx : x = (if cur t len P = c then 1 else 0)) (hx0 : x = 0) (h : MB M0 t len M1 (accS t len c P)) : o = (partS t len c d m o P).1 ∧ MB M0 t len M1 (partS t len c d m o P).2 := by
  have q : ¬ cur t len P = c := fun q => by rw [hx, if_pos q] at hx0; exact absurd hx0 (by decide)
  unfold partS
  rw [if_neg q]
  rw [accS, if_neg q] at h
  exact ⟨rfl, h⟩
set_option maxHeartbeats 2000000 in
theorem t_f147 {w : Option ev_V} {y : Int} (h : MP t len M (hd4 t len el).2) (hy : y = (hd4 t len el).1 ∧ inR y) (hg : M 104 0 = (hd1 t len).1 ∧ M 104 1 = (hd2 t len).1 ∧ M 104 2 = (hd3 t len).1) (hF : FrW M0 M) : Ev l none 3 kX8_faulty (0, 0) S0 M 147 [some (vr 100), w] [vi y, vi 4, vr 104] (FQ t len el M0) := by
  have hyr := hy.2
  have o : ∀ k : Nat, k ≠ 4 → up M 104 (4 : Int).toNat y 104 k = M 104 k := fun k hk => up_o hk 104
  have hg1 : ∀ M2, MF (up M 104 (4 : Int).toNat y) M2 → M2 104 0 = (hd1 t len).1 ∧ M2 104 1 = (hd2 t len).1 ∧ M2 104 2 = (hd3 t len).1 ∧ M2 104 4 = (hd4 t len el).1 := fun M2 hm => by
    rw [hm.1 104 (by decide) (by decide), o 0 (by decide), o 1 (by decide), o 2 (by decide)]
    exact ⟨hg.1, hg.2.1, hg.2.2, by rw [← hy.1]; exact up_s⟩
  refine ev_iastore (q := 148) dX8_faulty_147 (by first | assumption | rfl) (by omega) (by first | decide | omega) (by constructor <;> omega) rfl ?_
  refine ev_aload_0 (q := 149) dX8_faulty_148 rfl ?_
  refine ev_getR (q := 152) dX8_faulty_149 fl_RX8_20 (by first | assumption | rfl) (by rfl) rfl ?_
  refine ev_iconst (q := 153) dX8_faulty_152 rfl ?_
  refine ev_aload_0 (q := 154) dX8_faulty_153 rfl ?_
  refine ev_bipush (q := 156) dX8_faulty_154 rfl (by decide) ?_
  refine ev_callV1iR (q := 159) dX8_faulty_156 vs_RX8_145 (by first | assumption | rfl) (q_passes (M0 := up M 104 (4 : Int).toNat y) ⟨h.g, MF.rf⟩ (by decide)) (by decide) (Nat.le_of_ble_eq_true rfl) rfl (fun x_156 M_156 hq_156 h_156 => ?_)
  obtain ⟨e1, e2⟩ := hq_156
  refine ev_if_eq (t := 172) (q := 162) dX8_faulty_159 (by decide) rfl (by constructor <;> omega) (fun h_159 => ?_) (fun h_159 => ?_)
  · refine ev_iconst (q := 173) dX8_faulty_172 rfl ?_
    first
    | (have hx : ¬ x_156 = 0 := h_159
       have e := part_t (o := 0) (M1 := M) e1 hx hq_166
       exact t_f173 e.2.1 ⟨e.1, h_166⟩ (hg1 _ e.2.2) (hF.g.tr e.2.2))
    | (have hx : x_156 = 0 := h_159
       have e := part_f (d := 1) (m := 3) (o := 0) e1 hx e2
       exact t_f173 e.2.1 ⟨e.1, by constructor <;> omega⟩ (hg1 _ e.2.2) (hF.g.tr e.2.2))
  · refine ev_aload_0 (q := 163) dX8_faulty_162 rfl ?_
    refine ev_iconst (q := 164) dX8_faulty_163 rfl ?_
    refine ev_iconst (q := 165) dX8_faulty_164 rfl ?_
    refine ev_iconst (q := 166) dX8_faulty_165 rfl ?_
    refine ev_callV3iR (q := 169) dX8_faulty_166 vs_RX8_152 (by first | assumption | rfl) (q_number (d := 1) rfl e2 (by decide) (by constructor <;> omega) (by constructor <;> omega)) (by decide) (Nat.le_of_ble_eq_true rfl) rfl (fun x_166 M_166 hq_166 h_166 => ?_)
    refine ev_goto (q := 173) dX8_faulty_169 (by decide) ?_
    first
    | (have hx : ¬ x_156 = 0 := h_159
       have e := part_t (o := 0) (M1 := M) e1 hx hq_166
       exact t_f173 e.2.1 ⟨e.1, h_166⟩ (hg1 _ e.2.2) (hF.g.tr e.2.2))
    | (have hx : x_156 = 0 := h_159
       have e := part_f (d := 1) (m := 3) (o := 0) e1 hx e2
       exact t_f173 e.2.1 ⟨e.1, by constructor <;> omega⟩ (hg1 _ e.2.2) (hF.g.tr e.2.2))
set_option maxHeartbeats 2000000 in
theorem t_f114 {w : Option ev_V} {y : Int} (h : MP t len M (hd3 t len).2) (hy : y = (hd3 t len).1 ∧ inR y) (hel : M 101 0 = el ∧ 1 ≤ el ∧ el ≤ 16) (hg : M 104 0 = (hd1 t len).1 ∧ M 104 1 = (hd2 t len).1) (hF : FrW M0 M) : Ev l none 3 kX8_faulty (0, 0) S0 M 114 [some (vr 100), w] [vi y, vi 2, vr 104] (FQ t len el M0) := by
  have hyr := hy.2
  have o : ∀ k : Nat, k ≠ 2 → up M 104 (2 : Int).toNat y 104 k = M 104 k := fun k hk => up_o hk 104
  have hg1 : ∀ M2, MF (up M 104 (2 : Int).toNat y) M2 → M2 104 0 = (hd1 t len).1 ∧ M2 104 1 = (hd2 t len).1 ∧ M2 104 2 = (hd3 t len).1 := fun M2 hm => by
    rw [hm.1 104 (by decide) (by decide), o 0 (by decide), o 1 (by decide)]
    exact ⟨hg.1, hg.2, by rw [← hy.1]; exact up_s⟩
  refine ev_iastore (q := 115) dX8_faulty_114 (by first | assumption | rfl) (by omega) (by first | decide | omega) (by constructor <;> omega) rfl ?_
  refine ev_aload_0 (q := 116) dX8_faulty_115 rfl ?_
  refine ev_getR (q := 119) dX8_faulty_116 fl_RX8_20 (by first | assumption | rfl) (by rfl) rfl ?_
  refine ev_iconst (q := 120) dX8_faulty_119 rfl ?_
  refine ev_aload_0 (q := 121) dX8_faulty_120 rfl ?_
  refine ev_bipush (q := 123) dX8_faulty_121 rfl (by decide) ?_
  refine ev_callV1iR (q := 126) dX8_faulty_123 vs_RX8_145 (by first | assumption | rfl) (q_passes (M0 := up M 104 (2 : Int).toNat y) ⟨h.g, MF.rf⟩ (by decide)) (by decide) (Nat.le_of_ble_eq_true rfl) rfl (fun x_123 M_123 hq_123 h_123 => ?_)
  obtain ⟨e1, e2⟩ := hq_123
  refine ev_if_eq (t := 146) (q := 129) dX8_faulty_126 (by decide) rfl (by constructor <;> omega) (fun h_126 => ?_) (fun h_126 => ?_)
  · refine ev_iconst (q := 147) dX8_faulty_146 rfl ?_
    first
    | (have hx : ¬ x_123 = 0 := h_126
       have e := part_t (o := -1) (M1 := M) e1 hx hq_140
       exact t_f147 e.2.1 ⟨e.1, h_140⟩ (hg1 _ e.2.2) (hF.g.tr e.2.2))
    | (have hx : x_123 = 0 := h_126
       have e := part_f (d := 2) (m := el - 1) (o := -1) e1 hx e2
       exact t_f147 e.2.1 ⟨e.1, by constructor <;> omega⟩ (hg1 _ e.2.2) (hF.g.tr e.2.2))
  · refine ev_aload_0 (q := 130) dX8_faulty_129 rfl ?_
    refine ev_iconst (q := 131) dX8_faulty_130 rfl ?_
    refine ev_iconst (q := 132) dX8_faulty_131 rfl ?_
    refine ev_aload_0 (q := 133) dX8_faulty_132 rfl ?_
    refine ev_getR (q := 136) dX8_faulty_133 fl_RX8_7 (by first | assumption | rfl) (by rfl) rfl ?_
    refine ev_iconst (q := 137) dX8_faulty_136 rfl ?_
    refine ev_iaload (q := 138) dX8_faulty_137 (by first | assumption | rfl) (by omega) (by first | decide | omega) rfl (fun h_137 => ?_)
    rw [z0, e2.2.1 101 (by decide) (by decide), up_ne (show (101 : Nat) ≠ 104 by decide), hel.1] at h_137 ⊢
    refine ev_iconst (q := 139) dX8_faulty_138 rfl ?_
    refine ev_isub (q := 140) dX8_faulty_139 rfl ?_
    refine ev_callV3iR (q := 143) dX8_faulty_140 vs_RX8_152 (by first | assumption | rfl) (q_number (d := 2) rfl e2 (by decide) (by constructor <;> omega) (by constructor <;> omega)) (by decide) (Nat.le_of_ble_eq_true rfl) rfl (fun x_140 M_140 hq_140 h_140 => ?_)
    refine ev_goto (q := 147) dX8_faulty_143 (by decide) ?_
    first
    | (have hx : ¬ x_123 = 0 := h_126
       have e := part_t (o := -1) (M1 := M) e1 hx hq_140
       exact t_f147 e.2.1 ⟨e.1, h_140⟩ (hg1 _ e.2.2) (hF.g.tr e.2.2))
    | (have hx : x_123 = 0 := h_126
       have e := part_f (d := 2) (m := el - 1) (o := -1) e1 hx e2
       exact t_f147 e.2.1 ⟨e.1, by constructor <;> omega⟩ (hg1 _ e.2.2) (hF.g.tr e.2.2))
set_option maxHeartbeats 2000000 in
theorem t_f88 {w : Option ev_V} {y : Int} (h : MP t len M (hd2 t len).2) (hy : y = (hd2 t len).1 ∧ inR y) (hel : M 101 0 = el ∧ 1 ≤ el ∧ el ≤ 16) (hg : M 104 0 = (hd1 t len).1) (hF : FrW M0 M) : Ev l none 3 kX8_faulty (0, 0) S0 M 88 [some (vr 100), w] [vi y, vi 1, vr 104] (FQ t len el M0) := by
  have hyr := hy.2
  have o : ∀ k : Nat, k ≠ 1 → up M 104 (1 : Int).toNat y 104 k = M 104 k := fun k hk => up_o hk 104
  have hg1 : ∀ M2, MF (up M 104 (1 : Int).toNat y) M2 → M2 104 0 = (hd1 t len).1 ∧ M2 104 1 = (hd2 t len).1 := fun M2 hm => by
    rw [hm.1 104 (by decide) (by decide), o 0 (by decide)]
    exact ⟨hg, by rw [← hy.1]; exact up_s⟩
  have hel1 : ∀ M2, MF (up M 104 (1 : Int).toNat y) M2 → M2 101 0 = el ∧ 1 ≤ el ∧ el ≤ 16 := fun M2 hm => by
    rw [hm.1 101 (by decide) (by decide), up_ne (show (101 : Nat) ≠ 104 by decide)]
    exact hel
  refine ev_iastore (q := 89) dX8_faulty_88 (by first | assumption | rfl) (by omega) (by first | decide | omega) (by constructor <;> omega) rfl ?_
  refine ev_aload_0 (q := 90) dX8_faulty_89 rfl ?_
  refine ev_getR (q := 93) dX8_faulty_90 fl_RX8_20 (by first | assumption | rfl) (by rfl) rfl ?_
  refine ev_iconst (q := 94) dX8_faulty_93 rfl ?_
  refine ev_aload_0 (q := 95) dX8_faulty_94 rfl ?_
  refine ev_bipush (q := 97) dX8_faulty_95 rfl (by decide) ?_
  refine ev_callV1iR (q := 100) dX8_faulty_97 vs_RX8_145 (by first | assumption | rfl) (q_passes (M0 := up M 104 (1 : Int).toNat y) ⟨h.g, MF.rf⟩ (by decide)) (by decide) (Nat.le_of_ble_eq_true rfl) rfl (fun x_97 M_97 hq_97 h_97 => ?_)
  obtain ⟨e1, e2⟩ := hq_97
  refine ev_if_eq (t := 113) (q := 103) dX8_faulty_100 (by decide) rfl (by constructor <;> omega) (fun h_100 => ?_) (fun h_100 => ?_)
  · refine ev_iconst (q := 114) dX8_faulty_113 rfl ?_
    first
    | (have hx : ¬ x_97 = 0 := h_100
       have e := part_t (o := -1) (M1 := M) e1 hx hq_107
       exact t_f114 e.2.1 ⟨e.1, h_107⟩ (hel1 _ e.2.2) (hg1 _ e.2.2) (hF.g.tr e.2.2))
    | (have hx : x_97 = 0 := h_100
       have e := part_f (d := 1) (m := 5) (o := -1) e1 hx e2
       exact t_f114 e.2.1 ⟨e.1, by constructor <;> omega⟩ (hel1 _ e.2.2) (hg1 _ e.2.2) (hF.g.tr e.2.2))
  · refine ev_aload_0 (q := 104) dX8_faulty_103 rfl ?_
    refine ev_iconst (q := 105) dX8_faulty_104 rfl ?_
    refine ev_iconst (q := 106) dX8_faulty_105 rfl ?_
    refine ev_iconst (q := 107) dX8_faulty_106 rfl ?_
    refine ev_callV3iR (q := 110) dX8_faulty_107 vs_RX8_152 (by first | assumption | rfl) (q_number (d := 1) rfl e2 (by decide) (by constructor <;> omega) (by constructor <;> omega)) (by decide) (Nat.le_of_ble_eq_true rfl) rfl (fun x_107 M_107 hq_107 h_107 => ?_)
    refine ev_goto (q := 114) dX8_faulty_110 (by decide) ?_
    first
    | (have hx : ¬ x_97 = 0 := h_100
       have e := part_t (o := -1) (M1 := M) e1 hx hq_107
       exact t_f114 e.2.1 ⟨e.1, h_107⟩ (hel1 _ e.2.2) (hg1 _ e.2.2) (hF.g.tr e.2.2))
    | (have hx : x_97 = 0 := h_100
       have e := part_f (d := 1) (m := 5) (o := -1) e1 hx e2
       exact t_f114 e.2.1 ⟨e.1, by constructor <;> omega⟩ (hel1 _ e.2.2) (hg1 _ e.2.2) (hF.g.tr e.2.2))
set_option maxHeartbeats 2000000 in
theorem t_f61 {w : Option ev_V} {y : Int} (h : MP t len M (hd1 t len).2) (hy : y = (hd1 t len).1 ∧ inR y) (hel : M 101 0 = el ∧ 1 ≤ el ∧ el ≤ 16) (hF : FrW M0 M) : Ev l none 3 kX8_faulty (0, 0) S0 M 61 [some (vr 100), w] [vi y, vi 0, vr 104] (FQ t len el M0) := by
  have hyr := hy.2
  have hg1 : ∀ M2, MF (up M 104 (0 : Int).toNat y) M2 → M2 104 0 = (hd1 t len).1 := fun M2 hm => by
    rw [hm.1 104 (by decide) (by decide), ← hy.1]
    exact up_s
  have hel1 : ∀ M2, MF (up M 104 (0 : Int).toNat y) M2 → M2 101 0 = el ∧ 1 ≤ el ∧ el ≤ 16 := fun M2 hm => by
    rw [hm.1 101 (by decide) (by decide), up_ne (show (101 : Nat) ≠ 104 by decide)]
    exact hel
  refine ev_iastore (q := 62) dX8_faulty_61 (by first | assumption | rfl) (by omega) (by first | decide | omega) (by constructor <;> omega) rfl ?_
  refine ev_aload_0 (q := 63) dX8_faulty_62 rfl ?_
  refine ev_getR (q := 66) dX8_faulty_63 fl_RX8_20 (by first | assumption | rfl) (by rfl) rfl ?_
  refine ev_iconst (q := 67) dX8_faulty_66 rfl ?_
  refine ev_aload_0 (q := 68) dX8_faulty_67 rfl ?_
  refine ev_bipush (q := 70) dX8_faulty_68 rfl (by decide) ?_
  refine ev_callV1iR (q := 73) dX8_faulty_70 vs_RX8_145 (by first | assumption | rfl) (q_passes (M0 := up M 104 (0 : Int).toNat y) ⟨h.g, MF.rf⟩ (by decide)) (by decide) (Nat.le_of_ble_eq_true rfl) rfl (fun x_70 M_70 hq_70 h_70 => ?_)
  obtain ⟨e1, e2⟩ := hq_70
  refine ev_if_eq (t := 87) (q := 76) dX8_faulty_73 (by decide) rfl (by constructor <;> omega) (fun h_73 => ?_) (fun h_73 => ?_)
  · refine ev_iconst (q := 88) dX8_faulty_87 rfl ?_
    first
    | (have hx : ¬ x_70 = 0 := h_73
       have e := part_t (o := 0) (M1 := M) e1 hx hq_81
       exact t_f88 e.2.1 ⟨e.1, h_81⟩ (hel1 _ e.2.2) (hg1 _ e.2.2) (hF.g.tr e.2.2))
    | (have hx : x_70 = 0 := h_73
       have e := part_f (d := 2) (m := 15) (o := 0) e1 hx e2
       exact t_f88 e.2.1 ⟨e.1, by constructor <;> omega⟩ (hel1 _ e.2.2) (hg1 _ e.2.2) (hF.g.tr e.2.2))
  · refine ev_aload_0 (q := 77) dX8_faulty_76 rfl ?_
    refine ev_iconst (q := 78) dX8_faulty_77 rfl ?_
    refine ev_iconst (q := 79) dX8_faulty_78 rfl ?_
    refine ev_bipush (q := 81) dX8_faulty_79 rfl (by decide) ?_
    refine ev_callV3iR (q := 84) dX8_faulty_81 vs_RX8_152 (by first | assumption | rfl) (q_number (d := 2) rfl e2 (by decide) (by constructor <;> omega) (by constructor <;> omega)) (by decide) (Nat.le_of_ble_eq_true rfl) rfl (fun x_81 M_81 hq_81 h_81 => ?_)
    refine ev_goto (q := 88) dX8_faulty_84 (by decide) ?_
    first
    | (have hx : ¬ x_70 = 0 := h_73
       have e := part_t (o := 0) (M1 := M) e1 hx hq_81
       exact t_f88 e.2.1 ⟨e.1, h_81⟩ (hel1 _ e.2.2) (hg1 _ e.2.2) (hF.g.tr e.2.2))
    | (have hx : x_70 = 0 := h_73
       have e := part_f (d := 2) (m := 15) (o := 0) e1 hx e2
       exact t_f88 e.2.1 ⟨e.1, by constructor <;> omega⟩ (hel1 _ e.2.2) (hg1 _ e.2.2) (hF.g.tr e.2.2))
end Mh

