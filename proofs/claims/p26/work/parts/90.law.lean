section Law
variable {l : Launch} {L : Nat} {xs : Nat → Int} {v : Vw} {M : ev_M} {k y z : Int} {w8 w9 w10 : Option ev_V}
abbrev kL_law : ev_K := (code, RL, 11, ret, false)
abbrev QL : Option ev_V → List ev_Sh → ev_M → Prop := fun v _ _ => v = some (vi 1)
/-- the loop goes on -/
def KN (l : Launch) (L : Nat) (xs : Nat → Int) (k : Int) : Prop := ∀ (M2 : ev_M) (v2 : Vw) (w4 w5 w6 w7 w8 w9 w10 : Option ev_V), J v2 [] M2 → Ev l (some (L, xs)) 10 kL_law (0, 0) S0 M2 15 [some vs, some (vr 0), some (vi 1), some (vi (k + 1)), w4, w5, w6, w7, w8, w9, w10] [] QL
theorem md (z : Int) {n : Int} (h : 0 < n) : 0 ≤ z % n ∧ z % n < n := ⟨Int.emod_nonneg _ (by omega), Int.emod_lt_of_pos _ h⟩
theorem and_15 {a b : Int} (ha : 0 ≤ a ∧ a ≤ 15) (hb : 0 ≤ b ∧ b ≤ 15) : 0 ≤ (Int32.ofInt a &&& Int32.ofInt b).toInt ∧ (Int32.ofInt a &&& Int32.ofInt b).toInt ≤ 15 := by
  have key : ∀ a b : Fin 16, 0 ≤ (Int32.ofInt ((a.val : Nat) : Int) &&& Int32.ofInt ((b.val : Nat) : Int)).toInt ∧ (Int32.ofInt ((a.val : Nat) : Int) &&& Int32.ofInt ((b.val : Nat) : Int)).toInt ≤ 15 := by decide +kernel
  have := key ⟨a.toNat, by omega⟩ ⟨b.toNat, by omega⟩
  rw [show ((a.toNat : Nat) : Int) = a by omega, show ((b.toNat : Nat) : Int) = b by omega] at this
  exact this
set_option maxHeartbeats 4000000 in
theorem L_546 {el ru : Int} (hk : 0 ≤ k ∧ k < 36) (K : KN l L xs k) (h : J v [] M) : Ev l (some (L, xs)) 10 kL_law (0, 0) S0 M 546 [some vs, some (vr 0), some (vi 1), some (vi k), some (vi y), some (vi z), some (vi el), some (vi ru), w8, w9, w10] [] QL := by
  refine ev_iconst (q := 547) dL_law_546 rfl ?_
  refine ev_goto (q := 551) dL_law_547 (by decide) ?_
  refine ev_istore_2 (q := 552) dL_law_551 rfl (by decide) ?_
  refine ev_iinc_3 (q := 555) dL_law_552 rfl (by decide) ?_
  refine ev_goto (q := 15) dL_law_555 (by decide) ?_
  exact K _ _ _ _ _ _ _ _ _ h
set_option maxHeartbeats 4000000 in
theorem L_479 {el ru : Int} (hk : 0 ≤ k ∧ k < 36) (hz : 0 ≤ z ∧ z < 268435456) (K : KN l L xs k) (h : J v [] M) : Ev l (some (L, xs)) 10 kL_law (0, 0) S0 M 479 [some vs, some (vr 0), some (vi 1), some (vi k), some (vi y), some (vi z), some (vi el), some (vi ru), w8, w9, w10] [] QL := by
  have hW := h.wf
  have hb := hW.1
  have hm := md z (show 0 < vel v by omega)
  have hm3 := md (z / 3) (show 0 < vel v by omega)
  refine ev_aload_1 (q := 480) dL_law_479 rfl ?_
  refine ev_iload_5 (q := 482) dL_law_480 rfl ?_
  refine ev_aload_1 (q := 483) dL_law_482 rfl ?_
  refine ev_iconst (q := 484) dL_law_483 rfl ?_
  refine ev_callV1iR (q := 487) dL_law_484 vs_RL_27 (by first | assumption | rfl) (w_count0 h) (by decide) (Nat.le_of_ble_eq_true rfl) rfl (fun x_484 M_484 hq_484 h_484 => ?_)
  obtain ⟨e_484, h2⟩ := hq_484
  subst e_484
  refine ev_irem (q := 488) dL_law_487 rfl ⟨by constructor <;> omega, by constructor <;> omega, by omega, by omega⟩ ?_
  refine ev_iload_5 (q := 490) dL_law_488 rfl ?_
  refine ev_bipush (q := 492) dL_law_490 rfl (by decide) ?_
  refine ev_idiv (q := 493) dL_law_492 rfl ⟨by constructor <;> omega, by constructor <;> omega, by omega, by omega⟩ ?_
  refine ev_bipush (q := 495) dL_law_493 rfl (by decide) ?_
  refine ev_irem (q := 496) dL_law_495 rfl ⟨by constructor <;> omega, by constructor <;> omega, by omega, by omega⟩ ?_
  refine ev_callS3iR (q := 499) dL_law_496 ss_RL_34 (c_L_comes h2 (e := z % vel v) (p := z / 16 % 8) hm (by omega)) (by decide) (Nat.le_of_ble_eq_true rfl) rfl (fun x_496 M_496 hq_496 h_496 => ?_)
  obtain ⟨e_496, h3⟩ := hq_496
  refine ev_if_eq (t := 550) (q := 502) dL_law_499 (by decide) rfl (by constructor <;> omega) (fun h_499 => ?_) (fun h_499 => ?_)
  · exact absurd h_499 (by omega)
  · refine ev_aload_1 (q := 503) dL_law_502 rfl ?_
    refine ev_iload_5 (q := 505) dL_law_503 rfl ?_
    refine ev_iconst (q := 506) dL_law_505 rfl ?_
    refine ev_idiv (q := 507) dL_law_506 rfl ⟨by constructor <;> omega, by constructor <;> omega, by omega, by omega⟩ ?_
    refine ev_aload_1 (q := 508) dL_law_507 rfl ?_
    refine ev_iconst (q := 509) dL_law_508 rfl ?_
    refine ev_callV1iR (q := 512) dL_law_509 vs_RL_27 (by first | assumption | rfl) (w_count0 h3) (by decide) (Nat.le_of_ble_eq_true rfl) rfl (fun x_509 M_509 hq_509 h_509 => ?_)
    obtain ⟨e_509, h4⟩ := hq_509
    subst e_509
    refine ev_irem (q := 513) dL_law_512 rfl ⟨by constructor <;> omega, by constructor <;> omega, by omega, by omega⟩ ?_
    refine ev_bipush (q := 515) dL_law_513 rfl (by decide) ?_
    refine ev_iload_5 (q := 517) dL_law_515 rfl ?_
    refine ev_sipush (q := 520) dL_law_517 rfl (by decide) ?_
    refine ev_idiv (q := 521) dL_law_520 rfl ⟨by constructor <;> omega, by constructor <;> omega, by omega, by omega⟩ ?_
    refine ev_bipush (q := 523) dL_law_521 rfl (by decide) ?_
    refine ev_irem (q := 524) dL_law_523 rfl ⟨by constructor <;> omega, by constructor <;> omega, by omega, by omega⟩ ?_
    refine ev_iadd (q := 525) dL_law_524 rfl ?_
    refine ev_callS3iR (q := 528) dL_law_525 ss_RL_34 (c_L_comes h4 (e := z / 3 % vel v) (p := 8 + z / 128 % 8) hm3 (by omega)) (by decide) (Nat.le_of_ble_eq_true rfl) rfl (fun x_525 M_525 hq_525 h_525 => ?_)
    obtain ⟨e_525, h5⟩ := hq_525
    refine ev_if_eq (t := 550) (q := 531) dL_law_528 (by decide) rfl (by constructor <;> omega) (fun h_528 => ?_) (fun h_528 => ?_)
    · exact absurd h_528 (by omega)
    · refine ev_iload_3 (q := 532) dL_law_531 rfl ?_
      refine ev_iconst (q := 533) dL_law_532 rfl ?_
      refine ev_irem (q := 534) dL_law_533 rfl ⟨by constructor <;> omega, by constructor <;> omega, by omega, by omega⟩ ?_
      refine ev_if_gt (t := 546) (q := 537) dL_law_534 (by decide) rfl (by constructor <;> omega) (fun h_534 => ?_) (fun h_534 => ?_)
      · first | exact L_546 hk K h6 | exact L_546 hk K h5
      · refine ev_aload_1 (q := 538) dL_law_537 rfl ?_
        refine ev_iload_5 (q := 540) dL_law_538 rfl ?_
        refine ev_callS2iR (q := 543) dL_law_540 ss_RL_78 (c_L_wins h5 (Nat.zero_le _) (y := z) (by omega)) (by decide) (Nat.le_of_ble_eq_true rfl) rfl (fun x_540 M_540 hq_540 h_540 => ?_)
        obtain ⟨e_540, v6, h6⟩ := hq_540
        refine ev_if_eq (t := 550) (q := 546) dL_law_543 (by decide) rfl (by constructor <;> omega) (fun h_543 => ?_) (fun h_543 => ?_)
        · exact absurd h_543 (by omega)
        · first | exact L_546 hk K h6 | exact L_546 hk K h5
set_option maxHeartbeats 4000000 in
theorem L_459 {el ru : Int} (hk : 0 ≤ k ∧ k < 36) (hz : 0 ≤ z ∧ z < 268435456) (K : KN l L xs k) (h : J v [] M) : Ev l (some (L, xs)) 10 kL_law (0, 0) S0 M 459 [some vs, some (vr 0), some (vi 1), some (vi k), some (vi y), some (vi z), some (vi el), some (vi ru), w8, w9, w10] [] QL := by
  refine ev_iload_2 (q := 460) dL_law_459 rfl ?_
  refine ev_if_eq (t := 550) (q := 463) dL_law_460 (by decide) rfl (by constructor <;> omega) (fun h_460 => ?_) (fun h_460 => ?_)
  · exact absurd h_460 (by omega)
  · refine ev_iload_3 (q := 464) dL_law_463 rfl ?_
    refine ev_bipush (q := 466) dL_law_464 rfl (by decide) ?_
    refine ev_irem (q := 467) dL_law_466 rfl ⟨by constructor <;> omega, by constructor <;> omega, by omega, by omega⟩ ?_
    refine ev_bipush (q := 469) dL_law_467 rfl (by decide) ?_
    refine ev_icmp_lt (t := 479) (q := 472) dL_law_469 (by decide) rfl (by constructor <;> omega) (by constructor <;> omega) (fun h_469 => ?_) (fun h_469 => ?_)
    · first | exact L_479 hk hz K h2 | exact L_479 hk hz K h
    · refine ev_aload_1 (q := 473) dL_law_472 rfl ?_
      refine ev_callS1iR (q := 476) dL_law_473 ss_RL_59 (c_L_holds h) (by decide) (Nat.le_of_ble_eq_true rfl) rfl (fun x_473 M_473 hq_473 h_473 => ?_)
      obtain ⟨e_473, h2⟩ := hq_473
      refine ev_if_eq (t := 550) (q := 479) dL_law_476 (by decide) rfl (by constructor <;> omega) (fun h_476 => ?_) (fun h_476 => ?_)
      · exact absurd h_476 (by omega)
      · first | exact L_479 hk hz K h2 | exact L_479 hk hz K h
set_option maxHeartbeats 4000000 in
theorem L_c0 (hk : 0 ≤ k ∧ k < 36) (hz : 0 ≤ z ∧ z < 268435456) (K : KN l L xs k) (h : J v [] M) : Ev l (some (L, xs)) 10 kL_law (0, 0) S0 M 100 [some vs, some (vr 0), some (vi 1), some (vi k), some (vi y), some (vi z), some (vi (vel v)), some (vi (vrn v)), w8, w9, w10] [] QL := by
  have hW := h.wf
  have hb := hW.1
  have hm := md z (show 0 < vel v by omega)
  refine ev_iload_6 (q := 102) dL_law_100 rfl ?_
  refine ev_bipush (q := 104) dL_law_102 rfl (by decide) ?_
  refine ev_icmp_eq (t := 136) (q := 107) dL_law_104 (by decide) rfl (by constructor <;> omega) (by constructor <;> omega) (fun h_104 => ?_) (fun h_104 => ?_)
  · refine ev_iconst (q := 137) dL_law_136 rfl ?_
    refine ev_goto (q := 141) dL_law_137 (by decide) ?_
    refine ev_istore_2 (q := 142) dL_law_141 rfl (by decide) ?_
    refine ev_goto (q := 459) dL_law_142 (by decide) ?_
    first | exact L_459 hk hz K h2.nil | exact L_459 hk hz K h
  · refine ev_aload_1 (q := 108) dL_law_107 rfl ?_
    refine ev_iload_5 (q := 110) dL_law_108 rfl ?_
    refine ev_iload_6 (q := 112) dL_law_110 rfl ?_
    refine ev_irem (q := 113) dL_law_112 rfl ⟨by constructor <;> omega, by constructor <;> omega, by omega, by omega⟩ ?_
    refine ev_iload_5 (q := 115) dL_law_113 rfl ?_
    refine ev_bipush (q := 117) dL_law_115 rfl (by decide) ?_
    refine ev_idiv (q := 118) dL_law_117 rfl ⟨by constructor <;> omega, by constructor <;> omega, by omega, by omega⟩ ?_
    refine ev_iconst (q := 119) dL_law_118 rfl ?_
    refine ev_irem (q := 120) dL_law_119 rfl ⟨by constructor <;> omega, by constructor <;> omega, by omega, by omega⟩ ?_
    refine ev_iload_5 (q := 122) dL_law_120 rfl ?_
    refine ev_bipush (q := 124) dL_law_122 rfl (by decide) ?_
    refine ev_idiv (q := 125) dL_law_124 rfl ⟨by constructor <;> omega, by constructor <;> omega, by omega, by omega⟩ ?_
    refine ev_bipush (q := 127) dL_law_125 rfl (by decide) ?_
    refine ev_irem (q := 128) dL_law_127 rfl ⟨by constructor <;> omega, by constructor <;> omega, by omega, by omega⟩ ?_
    refine ev_callV3iR (q := 131) dL_law_128 vs_RL_67 (by first | assumption | rfl) (w_add h (Nat.zero_le _) (by omega) (p := z % vel v) (k := z / 16 % 4) (c := z / 64 % 16) hm (by omega) (by omega)) (by decide) (Nat.le_of_ble_eq_true rfl) rfl (fun x_128 M_128 hq_128 h_128 => ?_)
    obtain ⟨e_128, v2, h2⟩ := hq_128
    refine ev_iload_6 (q := 133) dL_law_131 rfl ?_
    refine ev_icmp_ne (t := 140) (q := 136) dL_law_133 (by decide) rfl (by constructor <;> omega) (by constructor <;> omega) (fun h_133 => ?_) (fun h_133 => ?_)
    · exact absurd h_133 (by omega)
    · refine ev_iconst (q := 137) dL_law_136 rfl ?_
      refine ev_goto (q := 141) dL_law_137 (by decide) ?_
      refine ev_istore_2 (q := 142) dL_law_141 rfl (by decide) ?_
      refine ev_goto (q := 459) dL_law_142 (by decide) ?_
      first | exact L_459 hk hz K h2.nil | exact L_459 hk hz K h
set_option maxHeartbeats 4000000 in
theorem L_c1 (hk : 0 ≤ k ∧ k < 36) (hz : 0 ≤ z ∧ z < 268435456) (K : KN l L xs k) (h : J v [] M) : Ev l (some (L, xs)) 10 kL_law (0, 0) S0 M 145 [some vs, some (vr 0), some (vi 1), some (vi k), some (vi y), some (vi z), some (vi (vel v)), some (vi (vrn v)), w8, w9, w10] [] QL := by
  have hW := h.wf
  have hb := hW.1
  have hb2 := hW.2.1
  have hm := md z (show 0 < vel v by omega)
  have hel := h.el
  have ha := and_15 (a := z / 4 % 16) (b := z / 64 % 16) (by omega) (by omega)
  refine ev_aload_1 (q := 146) dL_law_145 rfl ?_
  refine ev_iload_5 (q := 148) dL_law_146 rfl ?_
  refine ev_iconst (q := 149) dL_law_148 rfl ?_
  refine ev_irem (q := 150) dL_law_149 rfl ⟨by constructor <;> omega, by constructor <;> omega, by omega, by omega⟩ ?_
  refine ev_iconst (q := 151) dL_law_150 rfl ?_
  refine ev_isub (q := 152) dL_law_151 rfl ?_
  refine ev_iload_5 (q := 154) dL_law_152 rfl ?_
  refine ev_iconst (q := 155) dL_law_154 rfl ?_
  refine ev_idiv (q := 156) dL_law_155 rfl ⟨by constructor <;> omega, by constructor <;> omega, by omega, by omega⟩ ?_
  refine ev_bipush (q := 158) dL_law_156 rfl (by decide) ?_
  refine ev_irem (q := 159) dL_law_158 rfl ⟨by constructor <;> omega, by constructor <;> omega, by omega, by omega⟩ ?_
  refine ev_iload_5 (q := 161) dL_law_159 rfl ?_
  refine ev_bipush (q := 163) dL_law_161 rfl (by decide) ?_
  refine ev_idiv (q := 164) dL_law_163 rfl ⟨by constructor <;> omega, by constructor <;> omega, by omega, by omega⟩ ?_
  refine ev_bipush (q := 166) dL_law_164 rfl (by decide) ?_
  refine ev_irem (q := 167) dL_law_166 rfl ⟨by constructor <;> omega, by constructor <;> omega, by omega, by omega⟩ ?_
  refine ev_iand (q := 168) dL_law_167 rfl ?_
  refine ev_iload_5 (q := 170) dL_law_168 rfl ?_
  refine ev_sipush (q := 173) dL_law_170 rfl (by decide) ?_
  refine ev_idiv (q := 174) dL_law_173 rfl ⟨by constructor <;> omega, by constructor <;> omega, by omega, by omega⟩ ?_
  refine ev_iconst (q := 175) dL_law_174 rfl ?_
  refine ev_irem (q := 176) dL_law_175 rfl ⟨by constructor <;> omega, by constructor <;> omega, by omega, by omega⟩ ?_
  refine ev_iconst (q := 177) dL_law_176 rfl ?_
  refine ev_isub (q := 178) dL_law_177 rfl ?_
  refine ev_iload_5 (q := 180) dL_law_178 rfl ?_
  refine ev_sipush (q := 183) dL_law_180 rfl (by decide) ?_
  refine ev_idiv (q := 184) dL_law_183 rfl ⟨by constructor <;> omega, by constructor <;> omega, by omega, by omega⟩ ?_
  refine ev_iconst (q := 185) dL_law_184 rfl ?_
  refine ev_irem (q := 186) dL_law_185 rfl ⟨by constructor <;> omega, by constructor <;> omega, by omega, by omega⟩ ?_
  refine ev_iload_5 (q := 188) dL_law_186 rfl ?_
  refine ev_sipush (q := 191) dL_law_188 rfl (by decide) ?_
  refine ev_idiv (q := 192) dL_law_191 rfl ⟨by constructor <;> omega, by constructor <;> omega, by omega, by omega⟩ ?_
  refine ev_iconst (q := 193) dL_law_192 rfl ?_
  refine ev_irem (q := 194) dL_law_193 rfl ⟨by constructor <;> omega, by constructor <;> omega, by omega, by omega⟩ ?_
  refine ev_if_ne (t := 201) (q := 197) dL_law_194 (by decide) rfl (by constructor <;> omega) (fun h_194 => ?_) (fun h_194 => ?_)
  · refine ev_iload_5 (q := 203) dL_law_201 rfl ?_
    refine ev_iload_6 (q := 205) dL_law_203 rfl ?_
    refine ev_irem (q := 206) dL_law_205 rfl ⟨by constructor <;> omega, by constructor <;> omega, by omega, by omega⟩ ?_
    refine ev_iload_5 (q := 208) dL_law_206 rfl ?_
    refine ev_ldc (n := 32768) (q := 210) dL_law_208 rfl kc_RL_70 (by decide) ?_
    refine ev_idiv (q := 211) dL_law_210 rfl ⟨by constructor <;> omega, by constructor <;> omega, by omega, by omega⟩ ?_
    refine ev_iconst (q := 212) dL_law_211 rfl ?_
    refine ev_irem (q := 213) dL_law_212 rfl ⟨by constructor <;> omega, by constructor <;> omega, by omega, by omega⟩ ?_
    refine ev_callV6iR (q := 216) dL_law_213 vs_RL_46 (by first | assumption | rfl) (w_rule h (Nat.zero_le _) (by refine ⟨⟨?_, ?_, ?_⟩, ?_, ?_, ?_⟩ <;> omega) (by constructor <;> omega) (by constructor <;> omega) (by constructor <;> omega) (by constructor <;> omega) (by constructor <;> omega) (by constructor <;> omega)) (by decide) (Nat.le_of_ble_eq_true rfl) rfl (fun x_213 M_213 hq_213 h_213 => ?_)
    have hq2 : (vrn v = 16 ∧ x_213 = -13 ∨ vrn v < 16 ∧ x_213 = vrn v) ∧ ∃ v', J v' [] M_213 := by
      rcases hq_213 with q | q
      · exact ⟨Or.inl ⟨q.1, q.2.1⟩, v, q.2.2⟩
      · obtain ⟨q1, q2, v', q3, -⟩ := q
        exact ⟨Or.inr ⟨q1, q2⟩, v', q3.nil⟩
    obtain ⟨e_213, v2, h2⟩ := hq2
    refine ev_istore_8 (q := 218) dL_law_216 rfl (by decide) ?_
    refine ev_iload_7 (q := 220) dL_law_218 rfl ?_
    refine ev_bipush (q := 222) dL_law_220 rfl (by decide) ?_
    refine ev_icmp_ne (t := 240) (q := 225) dL_law_222 (by decide) rfl (by constructor <;> omega) (by constructor <;> omega) (fun h_222 => ?_) (fun h_222 => ?_)
    · refine ev_iload_8 (q := 242) dL_law_240 rfl ?_
      refine ev_iload_7 (q := 244) dL_law_242 rfl ?_
      refine ev_icmp_ne (t := 251) (q := 247) dL_law_244 (by decide) rfl (by constructor <;> omega) (by constructor <;> omega) (fun h_244 => ?_) (fun h_244 => ?_)
      · exact absurd h_244 (by omega)
      · refine ev_iconst (q := 248) dL_law_247 rfl ?_
        refine ev_goto (q := 252) dL_law_248 (by decide) ?_
        refine ev_istore_2 (q := 253) dL_law_252 rfl (by decide) ?_
        refine ev_goto (q := 459) dL_law_253 (by decide) ?_
        exact L_459 hk hz K h2
    · refine ev_iload_8 (q := 227) dL_law_225 rfl ?_
      refine ev_bipush (q := 229) dL_law_227 rfl (by decide) ?_
      refine ev_icmp_ne (t := 236) (q := 232) dL_law_229 (by decide) rfl (by constructor <;> omega) (by constructor <;> omega) (fun h_229 => ?_) (fun h_229 => ?_)
      · exact absurd h_229 (by omega)
      · refine ev_iconst (q := 233) dL_law_232 rfl ?_
        refine ev_goto (q := 252) dL_law_233 (by decide) ?_
        refine ev_istore_2 (q := 253) dL_law_252 rfl (by decide) ?_
        refine ev_goto (q := 459) dL_law_253 (by decide) ?_
        exact L_459 hk hz K h2
  · refine ev_iconst (q := 198) dL_law_197 rfl ?_
    refine ev_goto (q := 206) dL_law_198 (by decide) ?_
    refine ev_iload_5 (q := 208) dL_law_206 rfl ?_
    refine ev_ldc (n := 32768) (q := 210) dL_law_208 rfl kc_RL_70 (by decide) ?_
    refine ev_idiv (q := 211) dL_law_210 rfl ⟨by constructor <;> omega, by constructor <;> omega, by omega, by omega⟩ ?_
    refine ev_iconst (q := 212) dL_law_211 rfl ?_
    refine ev_irem (q := 213) dL_law_212 rfl ⟨by constructor <;> omega, by constructor <;> omega, by omega, by omega⟩ ?_
    refine ev_callV6iR (q := 216) dL_law_213 vs_RL_46 (by first | assumption | rfl) (w_rule h (Nat.zero_le _) (by refine ⟨⟨?_, ?_, ?_⟩, ?_, ?_, ?_⟩ <;> omega) (by constructor <;> omega) (by constructor <;> omega) (by constructor <;> omega) (by constructor <;> omega) (by constructor <;> omega) (by constructor <;> omega)) (by decide) (Nat.le_of_ble_eq_true rfl) rfl (fun x_213 M_213 hq_213 h_213 => ?_)
    have hq2 : (vrn v = 16 ∧ x_213 = -13 ∨ vrn v < 16 ∧ x_213 = vrn v) ∧ ∃ v', J v' [] M_213 := by
      rcases hq_213 with q | q
      · exact ⟨Or.inl ⟨q.1, q.2.1⟩, v, q.2.2⟩
      · obtain ⟨q1, q2, v', q3, -⟩ := q
        exact ⟨Or.inr ⟨q1, q2⟩, v', q3.nil⟩
    obtain ⟨e_213, v2, h2⟩ := hq2
    refine ev_istore_8 (q := 218) dL_law_216 rfl (by decide) ?_
    refine ev_iload_7 (q := 220) dL_law_218 rfl ?_
    refine ev_bipush (q := 222) dL_law_220 rfl (by decide) ?_
    refine ev_icmp_ne (t := 240) (q := 225) dL_law_222 (by decide) rfl (by constructor <;> omega) (by constructor <;> omega) (fun h_222 => ?_) (fun h_222 => ?_)
    · refine ev_iload_8 (q := 242) dL_law_240 rfl ?_
      refine ev_iload_7 (q := 244) dL_law_242 rfl ?_
      refine ev_icmp_ne (t := 251) (q := 247) dL_law_244 (by decide) rfl (by constructor <;> omega) (by constructor <;> omega) (fun h_244 => ?_) (fun h_244 => ?_)
      · exact absurd h_244 (by omega)
      · refine ev_iconst (q := 248) dL_law_247 rfl ?_
        refine ev_goto (q := 252) dL_law_248 (by decide) ?_
        refine ev_istore_2 (q := 253) dL_law_252 rfl (by decide) ?_
        refine ev_goto (q := 459) dL_law_253 (by decide) ?_
        exact L_459 hk hz K h2
    · refine ev_iload_8 (q := 227) dL_law_225 rfl ?_
      refine ev_bipush (q := 229) dL_law_227 rfl (by decide) ?_
      refine ev_icmp_ne (t := 236) (q := 232) dL_law_229 (by decide) rfl (by constructor <;> omega) (by constructor <;> omega) (fun h_229 => ?_) (fun h_229 => ?_)
      · exact absurd h_229 (by omega)
      · refine ev_iconst (q := 233) dL_law_232 rfl ?_
        refine ev_goto (q := 252) dL_law_233 (by decide) ?_
        refine ev_istore_2 (q := 253) dL_law_252 rfl (by decide) ?_
        refine ev_goto (q := 459) dL_law_253 (by decide) ?_
        exact L_459 hk hz K h2
set_option maxHeartbeats 4000000 in
theorem L_c3 (hk : 0 ≤ k ∧ k < 36) (hz : 0 ≤ z ∧ z < 268435456) (K : KN l L xs k) (h : J v [] M) : Ev l (some (L, xs)) 10 kL_law (0, 0) S0 M 256 [some vs, some (vr 0), some (vi 1), some (vi k), some (vi y), some (vi z), some (vi (vel v)), some (vi (vrn v)), w8, w9, w10] [] QL := by
  have hW := h.wf
  have hb := hW.1
  have hb2 := hW.2.1
  refine ev_iload_7 (q := 258) dL_law_256 rfl ?_
  refine ev_if_eq (t := 292) (q := 261) dL_law_258 (by decide) rfl (by constructor <;> omega) (fun h_258 => ?_) (fun h_258 => ?_)
  · refine ev_iconst (q := 293) dL_law_292 rfl ?_
    refine ev_goto (q := 297) dL_law_293 (by decide) ?_
    refine ev_istore_2 (q := 298) dL_law_297 rfl (by decide) ?_
    refine ev_goto (q := 459) dL_law_298 (by decide) ?_
    first | exact L_459 hk hz K h2.nil | exact L_459 hk hz K h
  · have hm := md z (show 0 < vrn v by omega)
    refine ev_aload_1 (q := 262) dL_law_261 rfl ?_
    refine ev_iload_5 (q := 264) dL_law_262 rfl ?_
    refine ev_iload_7 (q := 266) dL_law_264 rfl ?_
    refine ev_irem (q := 267) dL_law_266 rfl ⟨by constructor <;> omega, by constructor <;> omega, by omega, by omega⟩ ?_
    refine ev_iload_5 (q := 269) dL_law_267 rfl ?_
    refine ev_bipush (q := 271) dL_law_269 rfl (by decide) ?_
    refine ev_idiv (q := 272) dL_law_271 rfl ⟨by constructor <;> omega, by constructor <;> omega, by omega, by omega⟩ ?_
    refine ev_bipush (q := 274) dL_law_272 rfl (by decide) ?_
    refine ev_irem (q := 275) dL_law_274 rfl ⟨by constructor <;> omega, by constructor <;> omega, by omega, by omega⟩ ?_
    refine ev_iload_5 (q := 277) dL_law_275 rfl ?_
    refine ev_sipush (q := 280) dL_law_277 rfl (by decide) ?_
    refine ev_idiv (q := 281) dL_law_280 rfl ⟨by constructor <;> omega, by constructor <;> omega, by omega, by omega⟩ ?_
    refine ev_sipush (q := 284) dL_law_281 rfl (by decide) ?_
    refine ev_irem (q := 285) dL_law_284 rfl ⟨by constructor <;> omega, by constructor <;> omega, by omega, by omega⟩ ?_
    refine ev_callV3iR (q := 288) dL_law_285 vs_RL_50 (by first | assumption | rfl) (w_declare h (Nat.zero_le _) (r := z % vrn v) (p := z / 16 % 16) (n := z / 256 % 1000) hm (by omega) (by omega)) (by decide) (Nat.le_of_ble_eq_true rfl) rfl (fun x_285 M_285 hq_285 h_285 => ?_)
    obtain ⟨e_285, v2, h2, -, -⟩ := hq_285
    refine ev_iconst (q := 289) dL_law_288 rfl ?_
    refine ev_icmp_lt (t := 296) (q := 292) dL_law_289 (by decide) rfl (by constructor <;> omega) (by constructor <;> omega) (fun h_289 => ?_) (fun h_289 => ?_)
    · exact absurd h_289 (by omega)
    · refine ev_iconst (q := 293) dL_law_292 rfl ?_
      refine ev_goto (q := 297) dL_law_293 (by decide) ?_
      refine ev_istore_2 (q := 298) dL_law_297 rfl (by decide) ?_
      refine ev_goto (q := 459) dL_law_298 (by decide) ?_
      first | exact L_459 hk hz K h2.nil | exact L_459 hk hz K h
set_option maxHeartbeats 4000000 in
theorem L_c4 (hk : 0 ≤ k ∧ k < 36) (hz : 0 ≤ z ∧ z < 268435456) (K : KN l L xs k) (h : J v [] M) : Ev l (some (L, xs)) 10 kL_law (0, 0) S0 M 301 [some vs, some (vr 0), some (vi 1), some (vi k), some (vi y), some (vi z), some (vi (vel v)), some (vi (vrn v)), w8, w9, w10] [] QL := by
  have hW := h.wf
  have hb := hW.1
  have hb2 := hW.2.1
  refine ev_iload_7 (q := 303) dL_law_301 rfl ?_
  refine ev_if_eq (t := 364) (q := 306) dL_law_303 (by decide) rfl (by constructor <;> omega) (fun h_303 => ?_) (fun h_303 => ?_)
  · refine ev_iconst (q := 365) dL_law_364 rfl ?_
    refine ev_goto (q := 369) dL_law_365 (by decide) ?_
    refine ev_istore_2 (q := 370) dL_law_369 rfl (by decide) ?_
    refine ev_goto (q := 459) dL_law_370 (by decide) ?_
    first | exact L_459 hk hz K h2.nil | exact L_459 hk hz K h
  · have hm := md z (show 0 < vrn v by omega)
    refine ev_aload_1 (q := 307) dL_law_306 rfl ?_
    refine ev_iload_5 (q := 309) dL_law_307 rfl ?_
    refine ev_iload_7 (q := 311) dL_law_309 rfl ?_
    refine ev_irem (q := 312) dL_law_311 rfl ⟨by constructor <;> omega, by constructor <;> omega, by omega, by omega⟩ ?_
    refine ev_iload_5 (q := 314) dL_law_312 rfl ?_
    refine ev_bipush (q := 316) dL_law_314 rfl (by decide) ?_
    refine ev_idiv (q := 317) dL_law_316 rfl ⟨by constructor <;> omega, by constructor <;> omega, by omega, by omega⟩ ?_
    refine ev_bipush (q := 319) dL_law_317 rfl (by decide) ?_
    refine ev_irem (q := 320) dL_law_319 rfl ⟨by constructor <;> omega, by constructor <;> omega, by omega, by omega⟩ ?_
    refine ev_bipush (q := 322) dL_law_320 rfl (by decide) ?_
    refine ev_iload_5 (q := 324) dL_law_322 rfl ?_
    refine ev_sipush (q := 327) dL_law_324 rfl (by decide) ?_
    refine ev_idiv (q := 328) dL_law_327 rfl ⟨by constructor <;> omega, by constructor <;> omega, by omega, by omega⟩ ?_
    refine ev_bipush (q := 330) dL_law_328 rfl (by decide) ?_
    refine ev_irem (q := 331) dL_law_330 rfl ⟨by constructor <;> omega, by constructor <;> omega, by omega, by omega⟩ ?_
    refine ev_iadd (q := 332) dL_law_331 rfl ?_
    refine ev_iload_5 (q := 334) dL_law_332 rfl ?_
    refine ev_sipush (q := 337) dL_law_334 rfl (by decide) ?_
    refine ev_idiv (q := 338) dL_law_337 rfl ⟨by constructor <;> omega, by constructor <;> omega, by omega, by omega⟩ ?_
    refine ev_iconst (q := 339) dL_law_338 rfl ?_
    refine ev_irem (q := 340) dL_law_339 rfl ⟨by constructor <;> omega, by constructor <;> omega, by omega, by omega⟩ ?_
    refine ev_if_ne (t := 347) (q := 343) dL_law_340 (by decide) rfl (by constructor <;> omega) (fun h_340 => ?_) (fun h_340 => ?_)
    · refine ev_iload_5 (q := 349) dL_law_347 rfl ?_
      refine ev_sipush (q := 352) dL_law_349 rfl (by decide) ?_
      refine ev_idiv (q := 353) dL_law_352 rfl ⟨by constructor <;> omega, by constructor <;> omega, by omega, by omega⟩ ?_
      refine ev_sipush (q := 356) dL_law_353 rfl (by decide) ?_
      refine ev_irem (q := 357) dL_law_356 rfl ⟨by constructor <;> omega, by constructor <;> omega, by omega, by omega⟩ ?_
      refine ev_callV4iR (q := 360) dL_law_357 vs_RL_71 (by first | assumption | rfl) (w_refer h (Nat.zero_le _) hm (by omega) (by omega) (by omega)) (by decide) (Nat.le_of_ble_eq_true rfl) rfl (fun x_357 M_357 hq_357 h_357 => ?_)
      obtain ⟨e_357, v2, h2⟩ := hq_357
      refine ev_iconst (q := 361) dL_law_360 rfl ?_
      refine ev_icmp_lt (t := 368) (q := 364) dL_law_361 (by decide) rfl (by constructor <;> omega) (by constructor <;> omega) (fun h_361 => ?_) (fun h_361 => ?_)
      · exact absurd h_361 (by omega)
      · refine ev_iconst (q := 365) dL_law_364 rfl ?_
        refine ev_goto (q := 369) dL_law_365 (by decide) ?_
        refine ev_istore_2 (q := 370) dL_law_369 rfl (by decide) ?_
        refine ev_goto (q := 459) dL_law_370 (by decide) ?_
        first | exact L_459 hk hz K h2.nil | exact L_459 hk hz K h
    · refine ev_iconst (q := 344) dL_law_343 rfl ?_
      refine ev_goto (q := 357) dL_law_344 (by decide) ?_
      refine ev_callV4iR (q := 360) dL_law_357 vs_RL_71 (by first | assumption | rfl) (w_refer h (Nat.zero_le _) hm (by omega) (by omega) (by omega)) (by decide) (Nat.le_of_ble_eq_true rfl) rfl (fun x_357 M_357 hq_357 h_357 => ?_)
      obtain ⟨e_357, v2, h2⟩ := hq_357
      refine ev_iconst (q := 361) dL_law_360 rfl ?_
      refine ev_icmp_lt (t := 368) (q := 364) dL_law_361 (by decide) rfl (by constructor <;> omega) (by constructor <;> omega) (fun h_361 => ?_) (fun h_361 => ?_)
      · exact absurd h_361 (by omega)
      · refine ev_iconst (q := 365) dL_law_364 rfl ?_
        refine ev_goto (q := 369) dL_law_365 (by decide) ?_
        refine ev_istore_2 (q := 370) dL_law_369 rfl (by decide) ?_
        refine ev_goto (q := 459) dL_law_370 (by decide) ?_
        first | exact L_459 hk hz K h2.nil | exact L_459 hk hz K h
set_option maxHeartbeats 4000000 in
theorem L_c6 (hk : 0 ≤ k ∧ k < 36) (hz : 0 ≤ z ∧ z < 268435456) (K : KN l L xs k) (h : J v [] M) : Ev l (some (L, xs)) 10 kL_law (0, 0) S0 M 373 [some vs, some (vr 0), some (vi 1), some (vi k), some (vi y), some (vi z), some (vi (vel v)), some (vi (vrn v)), w8, w9, w10] [] QL := by
  have hW := h.wf
  have hb := hW.1
  have hm := md z (show 0 < vel v by omega)
  have he := (hW.2.2.1 (z % vel v).toNat (by omega)).2
  refine ev_aload_1 (q := 374) dL_law_373 rfl ?_
  refine ev_iload_5 (q := 376) dL_law_374 rfl ?_
  refine ev_iload_6 (q := 378) dL_law_376 rfl ?_
  refine ev_irem (q := 379) dL_law_378 rfl ⟨by constructor <;> omega, by constructor <;> omega, by omega, by omega⟩ ?_
  refine ev_iconst (q := 380) dL_law_379 rfl ?_
  refine ev_callV2iR (q := 383) dL_law_380 vs_RL_31 (by first | assumption | rfl) (w_elem1 h (e := z % vel v) hm) (by decide) (Nat.le_of_ble_eq_true rfl) rfl (fun x_380 M_380 hq_380 h_380 => ?_)
  obtain ⟨e_380, h2⟩ := hq_380
  refine ev_istore_9 (q := 385) dL_law_383 rfl (by decide) ?_
  refine ev_aload_1 (q := 386) dL_law_385 rfl ?_
  refine ev_iload_5 (q := 388) dL_law_386 rfl ?_
  refine ev_iload_6 (q := 390) dL_law_388 rfl ?_
  refine ev_irem (q := 391) dL_law_390 rfl ⟨by constructor <;> omega, by constructor <;> omega, by omega, by omega⟩ ?_
  refine ev_iload_5 (q := 393) dL_law_391 rfl ?_
  refine ev_bipush (q := 395) dL_law_393 rfl (by decide) ?_
  refine ev_idiv (q := 396) dL_law_395 rfl ⟨by constructor <;> omega, by constructor <;> omega, by omega, by omega⟩ ?_
  refine ev_iconst (q := 397) dL_law_396 rfl ?_
  refine ev_irem (q := 398) dL_law_397 rfl ⟨by constructor <;> omega, by constructor <;> omega, by omega, by omega⟩ ?_
  refine ev_iload_5 (q := 400) dL_law_398 rfl ?_
  refine ev_bipush (q := 402) dL_law_400 rfl (by decide) ?_
  refine ev_idiv (q := 403) dL_law_402 rfl ⟨by constructor <;> omega, by constructor <;> omega, by omega, by omega⟩ ?_
  refine ev_bipush (q := 405) dL_law_403 rfl (by decide) ?_
  refine ev_irem (q := 406) dL_law_405 rfl ⟨by constructor <;> omega, by constructor <;> omega, by omega, by omega⟩ ?_
  refine ev_callV3iR (q := 409) dL_law_406 vs_RL_75 (by first | assumption | rfl) (w_dress h2 (Nat.zero_le _) (e := z % vel v) (k := z / 16 % 4) (c := z / 64 % 16) hm (by omega) (by omega)) (by decide) (Nat.le_of_ble_eq_true rfl) rfl (fun x_406 M_406 hq_406 h_406 => ?_)
  obtain ⟨e_406, v3, h3⟩ := hq_406
  refine ev_istore_10 (q := 411) dL_law_409 rfl (by decide) ?_
  refine ev_iload_10 (q := 413) dL_law_411 rfl ?_
  refine ev_bipush (q := 415) dL_law_413 rfl (by decide) ?_
  refine ev_idiv (q := 416) dL_law_415 rfl ⟨by constructor <;> omega, by constructor <;> omega, by omega, by omega⟩ ?_
  refine ev_iload_9 (q := 418) dL_law_416 rfl ?_
  refine ev_icmp_ne (t := 425) (q := 421) dL_law_418 (by decide) rfl (by constructor <;> omega) (by constructor <;> omega) (fun h_418 => ?_) (fun h_418 => ?_)
  · exact absurd h_418 (by omega)
  · refine ev_iconst (q := 422) dL_law_421 rfl ?_
    refine ev_goto (q := 426) dL_law_422 (by decide) ?_
    refine ev_istore_2 (q := 427) dL_law_426 rfl (by decide) ?_
    refine ev_goto (q := 459) dL_law_427 (by decide) ?_
    exact L_459 hk hz K h3.nil
set_option maxHeartbeats 4000000 in
theorem L_c7 (hk : 0 ≤ k ∧ k < 36) (hz : 0 ≤ z ∧ z < 268435456) (K : KN l L xs k) (h : J v [] M) : Ev l (some (L, xs)) 10 kL_law (0, 0) S0 M 430 [some vs, some (vr 0), some (vi 1), some (vi k), some (vi y), some (vi z), some (vi (vel v)), some (vi (vrn v)), w8, w9, w10] [] QL := by
  have hW := h.wf
  have hb := hW.1
  have hb2 := hW.2.1
  refine ev_iload_7 (q := 432) dL_law_430 rfl ?_
  refine ev_bipush (q := 434) dL_law_432 rfl (by decide) ?_
  refine ev_icmp_lt (t := 453) (q := 437) dL_law_434 (by decide) rfl (by constructor <;> omega) (by constructor <;> omega) (fun h_434 => ?_) (fun h_434 => ?_)
  · refine ev_iconst (q := 454) dL_law_453 rfl ?_
    refine ev_goto (q := 458) dL_law_454 (by decide) ?_
    refine ev_istore_2 (q := 459) dL_law_458 rfl (by decide) ?_
    first | exact L_459 hk hz K h2.nil | exact L_459 hk hz K h
  · have hm := md z (show 0 < vrn v by omega)
    refine ev_aload_1 (q := 438) dL_law_437 rfl ?_
    refine ev_iload_5 (q := 440) dL_law_438 rfl ?_
    refine ev_iload_7 (q := 442) dL_law_440 rfl ?_
    refine ev_irem (q := 443) dL_law_442 rfl ⟨by constructor <;> omega, by constructor <;> omega, by omega, by omega⟩ ?_
    refine ev_callV1iR (q := 446) dL_law_443 vs_RL_43 (by first | assumption | rfl) (w_drop h (Nat.zero_le _) (r := z % vrn v) hm) (by decide) (Nat.le_of_ble_eq_true rfl) rfl (fun x_443 M_443 hq_443 h_443 => ?_)
    obtain ⟨e_443, v2, h2⟩ := hq_443
    refine ev_iload_7 (q := 448) dL_law_446 rfl ?_
    refine ev_iconst (q := 449) dL_law_448 rfl ?_
    refine ev_isub (q := 450) dL_law_449 rfl ?_
    refine ev_icmp_ne (t := 457) (q := 453) dL_law_450 (by decide) rfl (by constructor <;> omega) (by constructor <;> omega) (fun h_450 => ?_) (fun h_450 => ?_)
    · exact absurd h_450 (by omega)
    · refine ev_iconst (q := 454) dL_law_453 rfl ?_
      refine ev_goto (q := 458) dL_law_454 (by decide) ?_
      refine ev_istore_2 (q := 459) dL_law_458 rfl (by decide) ?_
      first | exact L_459 hk hz K h2.nil | exact L_459 hk hz K h
end Law

