theorem rI32 (i : Int32) : inR i.toInt := by
  have h1 := i.toInt_lt
  have h2 := i.le_toInt
  constructor <;> omega
def b01 (b : Bool) : Int := if b = true then 1 else 0
theorem b01_rng (b : Bool) : 0 ≤ b01 b ∧ b01 b ≤ 1 := by cases b <;> decide
theorem b01_t {b : Bool} : b01 b = 0 ↔ b = false := by cases b <;> decide
set_option maxHeartbeats 1000000 in
theorem t_meets_140 {l : Launch} {M : ev_M} {v : Vw} {r e : Nat} {x : Int} {b1 b2 b3 : Bool} (hA : Ag (M 101) v) (hW : Wf v) (hr : (r : Int) < vrn v) (he : (e : Int) < vel v) : Ev l none 1 kX8_meets (0, 0) S0 M 140 [some (vr 100), some (vi (r : Int)), some (vi (e : Int)), some (vi (b01 b1)), some (vi (b01 b2)), some (vi (b01 b3)), some (vi x)] [] (QX (some (vi (b01 (b1 && b2 && b3 && (decide (vpt v r 4 = -1) || decide (stp (vpar v) 16 e (vpt v r 4) ≠ -1)))))) S0 M) := by
  have h1 := hW.1
  have h2 := hW.2.1
  have hp := hW.2.2.2.1 r hr
  have hst := stp_rng (vpar v) 16 e (vpt v r 4)
  have r1 := b01_rng b1
  have r2 := b01_rng b2
  have r3 := b01_rng b3
  refine ev_iload_3 (q := 141) dX8_meets_140 rfl ?_
  refine ev_if_eq (t := 182) (q := 144) dX8_meets_141 (by decide) rfl (by constructor <;> omega) (fun h_141 => ?_) (fun h_141 => ?_)
  · refine ev_iconst (q := 183) dX8_meets_182 rfl ?_
    refine ev_ireturn dX8_meets_183 rfl (by first | rfl | decide | (split <;> rfl) | (split <;> decide)) (by constructor <;> omega) ?_
    refine ⟨congrArg (fun z => some (Sum.inl z)) ?_, rfl, rfl⟩
    cases b1 <;> cases b2 <;> cases b3 <;> simp_all [b01] <;> omega
  · refine ev_iload_4 (q := 146) dX8_meets_144 rfl ?_
    refine ev_if_eq (t := 182) (q := 149) dX8_meets_146 (by decide) rfl (by constructor <;> omega) (fun h_146 => ?_) (fun h_146 => ?_)
    · refine ev_iconst (q := 183) dX8_meets_182 rfl ?_
      refine ev_ireturn dX8_meets_183 rfl (by first | rfl | decide | (split <;> rfl) | (split <;> decide)) (by constructor <;> omega) ?_
      refine ⟨congrArg (fun z => some (Sum.inl z)) ?_, rfl, rfl⟩
      cases b1 <;> cases b2 <;> cases b3 <;> simp_all [b01] <;> omega
    · refine ev_iload_5 (q := 151) dX8_meets_149 rfl ?_
      refine ev_if_eq (t := 182) (q := 154) dX8_meets_151 (by decide) rfl (by constructor <;> omega) (fun h_151 => ?_) (fun h_151 => ?_)
      · refine ev_iconst (q := 183) dX8_meets_182 rfl ?_
        refine ev_ireturn dX8_meets_183 rfl (by first | rfl | decide | (split <;> rfl) | (split <;> decide)) (by constructor <;> omega) ?_
        refine ⟨congrArg (fun z => some (Sum.inl z)) ?_, rfl, rfl⟩
        cases b1 <;> cases b2 <;> cases b3 <;> simp_all [b01] <;> omega
      · refine ev_aload_0 (q := 155) dX8_meets_154 rfl ?_
        refine ev_iload_1 (q := 156) dX8_meets_155 rfl ?_
        refine ev_iconst (q := 157) dX8_meets_156 rfl ?_
        refine ev_callV2i (q := 160) dX8_meets_157 vs_RX8_58 (by first | assumption | rfl) (c_X8_ofV (w := 4) hA hr (by omega) (by decide)) (by decide) (Nat.le_of_ble_eq_true rfl) rfl (fun h_157 => ?_)
        refine ev_iconst (q := 161) dX8_meets_160 rfl ?_
        refine ev_icmp_eq (t := 178) (q := 164) dX8_meets_161 (by decide) rfl (by constructor <;> omega) (by constructor <;> omega) (fun h_161 => ?_) (fun h_161 => ?_)
        · refine ev_iconst (q := 179) dX8_meets_178 rfl ?_
          refine ev_goto (q := 183) dX8_meets_179 (by decide) ?_
          refine ev_ireturn dX8_meets_183 rfl (by first | rfl | decide | (split <;> rfl) | (split <;> decide)) (by constructor <;> omega) ?_
          refine ⟨congrArg (fun z => some (Sum.inl z)) ?_, rfl, rfl⟩
          cases b1 <;> cases b2 <;> cases b3 <;> simp_all [b01] <;> omega
        · refine ev_aload_0 (q := 165) dX8_meets_164 rfl ?_
          refine ev_iload_2 (q := 166) dX8_meets_165 rfl ?_
          refine ev_aload_0 (q := 167) dX8_meets_166 rfl ?_
          refine ev_iload_1 (q := 168) dX8_meets_167 rfl ?_
          refine ev_iconst (q := 169) dX8_meets_168 rfl ?_
          refine ev_callV2i (q := 172) dX8_meets_169 vs_RX8_58 (by first | assumption | rfl) (c_X8_ofV (w := 4) hA hr (by omega) (by decide)) (by decide) (Nat.le_of_ble_eq_true rfl) rfl (fun h_169 => ?_)
          refine ev_callV2i (q := 175) dX8_meets_172 vs_RX8_62 (by first | assumption | rfl) (c_X8_stepsTo (by assumption) (by assumption) (by omega) (by constructor <;> omega) (by omega)) (by decide) (Nat.le_of_ble_eq_true rfl) rfl (fun h_172 => ?_)
          refine ev_if_lt (t := 182) (q := 178) dX8_meets_175 (by decide) rfl (by constructor <;> omega) (fun h_175 => ?_) (fun h_175 => ?_)
          · refine ev_iconst (q := 183) dX8_meets_182 rfl ?_
            refine ev_ireturn dX8_meets_183 rfl (by first | rfl | decide | (split <;> rfl) | (split <;> decide)) (by constructor <;> omega) ?_
            refine ⟨congrArg (fun z => some (Sum.inl z)) ?_, rfl, rfl⟩
            cases b1 <;> cases b2 <;> cases b3 <;> simp_all [b01] <;> omega
          · refine ev_iconst (q := 179) dX8_meets_178 rfl ?_
            refine ev_goto (q := 183) dX8_meets_179 (by decide) ?_
            refine ev_ireturn dX8_meets_183 rfl (by first | rfl | decide | (split <;> rfl) | (split <;> decide)) (by constructor <;> omega) ?_
            refine ⟨congrArg (fun z => some (Sum.inl z)) ?_, rfl, rfl⟩
            cases b1 <;> cases b2 <;> cases b3 <;> simp_all [b01] <;> omega
set_option maxHeartbeats 1000000 in
theorem lp_X8_meets {l : Launch} {M : ev_M} {v : Vw} {r e : Nat} {b1 b2 : Bool} (hA : Ag (M 101) v) (hW : Wf v) (hr : (r : Int) < vrn v) (he : (e : Int) < vel v) : ∀ (n : Nat) (x : Int) (b3 : Bool), n ≤ 16 → -1 ≤ x → x < vel v → x < n → Ev l none 1 kX8_meets (0, 0) S0 M 89 [some (vr 100), some (vi (r : Int)), some (vi (e : Int)), some (vi (b01 b1)), some (vi (b01 b2)), some (vi (b01 b3)), some (vi x)] [] (QX (some (vi (b01 (b1 && b2 && (b3 || hka (vpar v) (vknd v) n x (vpt v r 2)) && (decide (vpt v r 4 = -1) || decide (stp (vpar v) 16 e (vpt v r 4) ≠ -1)))))) S0 M) := by
  have h1 := hW.1
  have h2 := hW.2.1
  have hp := hW.2.2.2.1 r hr
  intro n
  induction n with
  | zero =>
    intro x b3 hn h0 h2 h3
    have r3 := b01_rng b3
    refine ev_iload_6 (q := 91) dX8_meets_89 rfl ?_
    refine ev_iconst (q := 92) dX8_meets_91 rfl ?_
    refine ev_icmp_eq (t := 140) (q := 95) dX8_meets_92 (by decide) rfl (by constructor <;> omega) (by constructor <;> omega) (fun h_92 => ?_) (fun h_92 => ?_)
    · rw [show hka (vpar v) (vknd v) 0 x (vpt v r 2) = false from rfl, Bool.or_false]
      exact t_meets_140 hA hW hr he
    · omega
  | succ n ih =>
    intro x b3 hn h0 h2 h3
    have r3 := b01_rng b3
    have hpp : 0 ≤ x → (-1 ≤ vpar v x.toNat ∧ vpar v x.toNat < x) ∧ 0 ≤ vknd v x.toNat ∧ vknd v x.toNat ≤ 5 := fun h => by have := hW.2.2.1 x.toNat (by omega); omega
    unfold hka
    refine ev_iload_6 (q := 91) dX8_meets_89 rfl ?_
    refine ev_iconst (q := 92) dX8_meets_91 rfl ?_
    refine ev_icmp_eq (t := 140) (q := 95) dX8_meets_92 (by decide) rfl (by constructor <;> omega) (by constructor <;> omega) (fun h_92 => ?_) (fun h_92 => ?_)
    · rw [if_pos (show x < 0 by omega), Bool.or_false]
      exact t_meets_140 hA hW hr he
    · refine ev_iload_5 (q := 97) dX8_meets_95 rfl ?_
      refine ev_if_ne (t := 119) (q := 100) dX8_meets_97 (by decide) rfl (by constructor <;> omega) (fun h_97 => ?_) (fun h_97 => ?_)
      · refine ev_iconst (q := 120) dX8_meets_119 rfl ?_
        refine ev_goto (q := 124) dX8_meets_120 (by decide) ?_
        refine ev_istore_5 (q := 126) dX8_meets_124 rfl (by decide) ?_
        refine ev_aload_0 (q := 127) dX8_meets_126 rfl ?_
        refine ev_getR (q := 130) dX8_meets_127 fl_RX8_7 (by first | assumption | rfl) (by rfl) rfl ?_
        refine ev_iconst (q := 131) dX8_meets_130 rfl ?_
        refine ev_iload_6 (q := 133) dX8_meets_131 rfl ?_
        refine ev_iadd (q := 134) dX8_meets_133 rfl ?_
        refine ev_iaload (q := 135) dX8_meets_134 (by first | assumption | rfl) (by omega) (by first | decide | omega) rfl (fun h_134 => ?_)
        rw [(hA.2.2.1 x (by omega) (by omega)).1] at h_134 ⊢
        refine ev_istore_6 (q := 137) dX8_meets_135 rfl (by decide) ?_
        refine ev_goto (q := 89) dX8_meets_137 (by decide) ?_
        have hq := hpp (by omega)
        rw [if_neg (show ¬ x < 0 by omega)]
        first
        | (rw [show (b3 || if vknd v x.toNat = vpt v r 2 then true else hka (vpar v) (vknd v) n (vpar v x.toNat) (vpt v r 2)) = (true || hka (vpar v) (vknd v) n (vpar v x.toNat) (vpt v r 2)) by first | (rw [if_pos h_116, Bool.or_true]; rfl) | (cases b3 with | true => rfl | false => exact absurd rfl h_97)]
           exact ih _ true (by omega) (by omega) (by omega) (by omega))
        | (rw [show (b3 || if vknd v x.toNat = vpt v r 2 then true else hka (vpar v) (vknd v) n (vpar v x.toNat) (vpt v r 2)) = (false || hka (vpar v) (vknd v) n (vpar v x.toNat) (vpt v r 2)) by rw [if_neg h_116, b01_t.1 h_97]]
           exact ih _ false (by omega) (by omega) (by omega) (by omega))
      · refine ev_aload_0 (q := 101) dX8_meets_100 rfl ?_
        refine ev_getR (q := 104) dX8_meets_101 fl_RX8_7 (by first | assumption | rfl) (by rfl) rfl ?_
        refine ev_bipush (q := 106) dX8_meets_104 rfl (by decide) ?_
        refine ev_iload_6 (q := 108) dX8_meets_106 rfl ?_
        refine ev_iadd (q := 109) dX8_meets_108 rfl ?_
        refine ev_iaload (q := 110) dX8_meets_109 (by first | assumption | rfl) (by omega) (by first | decide | omega) rfl (fun h_109 => ?_)
        rw [(hA.2.2.1 x (by omega) (by omega)).2.1] at h_109 ⊢
        refine ev_aload_0 (q := 111) dX8_meets_110 rfl ?_
        refine ev_iload_1 (q := 112) dX8_meets_111 rfl ?_
        refine ev_iconst (q := 113) dX8_meets_112 rfl ?_
        refine ev_callV2i (q := 116) dX8_meets_113 vs_RX8_58 (by first | assumption | rfl) (c_X8_ofV (w := 2) hA hr (by omega) (by decide)) (by decide) (Nat.le_of_ble_eq_true rfl) rfl (fun h_113 => ?_)
        refine ev_icmp_ne (t := 123) (q := 119) dX8_meets_116 (by decide) rfl (by constructor <;> omega) (by constructor <;> omega) (fun h_116 => ?_) (fun h_116 => ?_)
        · refine ev_iconst (q := 124) dX8_meets_123 rfl ?_
          refine ev_istore_5 (q := 126) dX8_meets_124 rfl (by decide) ?_
          refine ev_aload_0 (q := 127) dX8_meets_126 rfl ?_
          refine ev_getR (q := 130) dX8_meets_127 fl_RX8_7 (by first | assumption | rfl) (by rfl) rfl ?_
          refine ev_iconst (q := 131) dX8_meets_130 rfl ?_
          refine ev_iload_6 (q := 133) dX8_meets_131 rfl ?_
          refine ev_iadd (q := 134) dX8_meets_133 rfl ?_
          refine ev_iaload (q := 135) dX8_meets_134 (by first | assumption | rfl) (by omega) (by first | decide | omega) rfl (fun h_134 => ?_)
          rw [(hA.2.2.1 x (by omega) (by omega)).1] at h_134 ⊢
          refine ev_istore_6 (q := 137) dX8_meets_135 rfl (by decide) ?_
          refine ev_goto (q := 89) dX8_meets_137 (by decide) ?_
          have hq := hpp (by omega)
          rw [if_neg (show ¬ x < 0 by omega)]
          first
          | (rw [show (b3 || if vknd v x.toNat = vpt v r 2 then true else hka (vpar v) (vknd v) n (vpar v x.toNat) (vpt v r 2)) = (true || hka (vpar v) (vknd v) n (vpar v x.toNat) (vpt v r 2)) by first | (rw [if_pos h_116, Bool.or_true]; rfl) | (cases b3 with | true => rfl | false => exact absurd rfl h_97)]
             exact ih _ true (by omega) (by omega) (by omega) (by omega))
          | (rw [show (b3 || if vknd v x.toNat = vpt v r 2 then true else hka (vpar v) (vknd v) n (vpar v x.toNat) (vpt v r 2)) = (false || hka (vpar v) (vknd v) n (vpar v x.toNat) (vpt v r 2)) by rw [if_neg h_116, b01_t.1 h_97]]
             exact ih _ false (by omega) (by omega) (by omega) (by omega))
        · refine ev_iconst (q := 120) dX8_meets_119 rfl ?_
          refine ev_goto (q := 124) dX8_meets_120 (by decide) ?_
          refine ev_istore_5 (q := 126) dX8_meets_124 rfl (by decide) ?_
          refine ev_aload_0 (q := 127) dX8_meets_126 rfl ?_
          refine ev_getR (q := 130) dX8_meets_127 fl_RX8_7 (by first | assumption | rfl) (by rfl) rfl ?_
          refine ev_iconst (q := 131) dX8_meets_130 rfl ?_
          refine ev_iload_6 (q := 133) dX8_meets_131 rfl ?_
          refine ev_iadd (q := 134) dX8_meets_133 rfl ?_
          refine ev_iaload (q := 135) dX8_meets_134 (by first | assumption | rfl) (by omega) (by first | decide | omega) rfl (fun h_134 => ?_)
          rw [(hA.2.2.1 x (by omega) (by omega)).1] at h_134 ⊢
          refine ev_istore_6 (q := 137) dX8_meets_135 rfl (by decide) ?_
          refine ev_goto (q := 89) dX8_meets_137 (by decide) ?_
          have hq := hpp (by omega)
          rw [if_neg (show ¬ x < 0 by omega)]
          first
          | (rw [show (b3 || if vknd v x.toNat = vpt v r 2 then true else hka (vpar v) (vknd v) n (vpar v x.toNat) (vpt v r 2)) = (true || hka (vpar v) (vknd v) n (vpar v x.toNat) (vpt v r 2)) by first | (rw [if_pos h_116, Bool.or_true]; rfl) | (cases b3 with | true => rfl | false => exact absurd rfl h_97)]
             exact ih _ true (by omega) (by omega) (by omega) (by omega))
          | (rw [show (b3 || if vknd v x.toNat = vpt v r 2 then true else hka (vpar v) (vknd v) n (vpar v x.toNat) (vpt v r 2)) = (false || hka (vpar v) (vknd v) n (vpar v x.toNat) (vpt v r 2)) by rw [if_neg h_116, b01_t.1 h_97]]
             exact ih _ false (by omega) (by omega) (by omega) (by omega))
set_option maxHeartbeats 1000000 in
theorem t_meets_77 {l : Launch} {M : ev_M} {v : Vw} {r e : Nat} {b1 b2 : Bool} {y : Int} (hA : Ag (M 101) v) (hW : Wf v) (hr : (r : Int) < vrn v) (he : (e : Int) < vel v) (hy : y = b01 (decide (vpt v r 2 = -1))) : Ev l none 1 kX8_meets (0, 0) S0 M 77 [some (vr 100), some (vi (r : Int)), some (vi (e : Int)), some (vi (b01 b1)), some (vi (b01 b2)), none, none] [vi y] (QX (some (vi (b01 (b1 && b2 && (decide (vpt v r 2 = -1) || hka (vpar v) (vknd v) 16 (vpar v e) (vpt v r 2)) && (decide (vpt v r 4 = -1) || decide (stp (vpar v) 16 e (vpt v r 4) ≠ -1)))))) S0 M) := by
  have h1 := hW.1
  have h2 := (hW.2.2.1 e he).1
  subst hy
  have ep := (hA.2.2.1 (e : Int) (by omega) (by omega)).1
  rw [Int.toNat_natCast] at ep
  refine ev_istore_5 (q := 79) dX8_meets_77 rfl (by decide) ?_
  refine ev_aload_0 (q := 80) dX8_meets_79 rfl ?_
  refine ev_getR (q := 83) dX8_meets_80 fl_RX8_7 (by first | assumption | rfl) (by rfl) rfl ?_
  refine ev_iconst (q := 84) dX8_meets_83 rfl ?_
  refine ev_iload_2 (q := 85) dX8_meets_84 rfl ?_
  refine ev_iadd (q := 86) dX8_meets_85 rfl ?_
  refine ev_iaload (q := 87) dX8_meets_86 (by first | assumption | rfl) (by omega) (by first | decide | omega) rfl (fun h_86 => ?_)
  rw [ep] at h_86 ⊢
  refine ev_istore_6 (q := 89) dX8_meets_87 rfl (by decide) ?_
  exact lp_X8_meets hA hW hr he 16 _ _ (by omega) (by omega) (by omega) (by omega)
set_option maxHeartbeats 1000000 in
theorem t_meets_60 {l : Launch} {M : ev_M} {v : Vw} {r e : Nat} {b1 b2 : Bool} {y : Int} (hA : Ag (M 101) v) (hW : Wf v) (hr : (r : Int) < vrn v) (he : (e : Int) < vel v) (hy : y = b01 b2) : Ev l none 1 kX8_meets (0, 0) S0 M 60 [some (vr 100), some (vi (r : Int)), some (vi (e : Int)), some (vi (b01 b1)), none, none, none] [vi y] (QX (some (vi (b01 (b1 && b2 && (decide (vpt v r 2 = -1) || hka (vpar v) (vknd v) 16 (vpar v e) (vpt v r 2)) && (decide (vpt v r 4 = -1) || decide (stp (vpar v) 16 e (vpt v r 4) ≠ -1)))))) S0 M) := by
  have h2 := hW.2.1
  have hp := hW.2.2.2.1 r hr
  subst hy
  refine ev_istore_4 (q := 62) dX8_meets_60 rfl (by decide) ?_
  refine ev_aload_0 (q := 63) dX8_meets_62 rfl ?_
  refine ev_iload_1 (q := 64) dX8_meets_63 rfl ?_
  refine ev_iconst (q := 65) dX8_meets_64 rfl ?_
  refine ev_callV2i (q := 68) dX8_meets_65 vs_RX8_58 (by first | assumption | rfl) (c_X8_ofV (w := 2) hA hr (by omega) (by decide)) (by decide) (Nat.le_of_ble_eq_true rfl) rfl (fun h_65 => ?_)
  refine ev_iconst (q := 69) dX8_meets_68 rfl ?_
  refine ev_icmp_ne (t := 76) (q := 72) dX8_meets_69 (by decide) rfl (by constructor <;> omega) (by constructor <;> omega) (fun h_69 => ?_) (fun h_69 => ?_)
  · refine ev_iconst (q := 77) dX8_meets_76 rfl ?_
    refine t_meets_77 hA hW hr he ?_
    first | (rw [decide_eq_true h_69]; rfl) | (rw [decide_eq_false h_69]; rfl)
  · refine ev_iconst (q := 73) dX8_meets_72 rfl ?_
    refine ev_goto (q := 77) dX8_meets_73 (by decide) ?_
    refine t_meets_77 hA hW hr he ?_
    first | (rw [decide_eq_true h_69]; rfl) | (rw [decide_eq_false h_69]; rfl)
set_option maxHeartbeats 1000000 in
theorem t_meets_33 {l : Launch} {M : ev_M} {v : Vw} {r e : Nat} {b1 : Bool} {y : Int} (hA : Ag (M 101) v) (hW : Wf v) (hr : (r : Int) < vrn v) (he : (e : Int) < vel v) (hy : y = b01 b1) : Ev l none 1 kX8_meets (0, 0) S0 M 33 [some (vr 100), some (vi (r : Int)), some (vi (e : Int)), none, none, none, none] [vi y] (QX (some (vi (b01 (b1 && subB (vpt v r 1) (vcls v e) && (decide (vpt v r 2 = -1) || hka (vpar v) (vknd v) 16 (vpar v e) (vpt v r 2)) && (decide (vpt v r 4 = -1) || decide (stp (vpar v) 16 e (vpt v r 4) ≠ -1)))))) S0 M) := by
  have h1 := hW.1
  have h2 := hW.2.1
  have hp := hW.2.2.2.1 r hr
  have he3 := hW.2.2.1 e he
  subst hy
  have ec := (hA.2.2.1 (e : Int) (by omega) (by omega)).2.2
  rw [Int.toNat_natCast] at ec
  have hs := sub_eq (c := vpt v r 1) (d := vcls v e) (by omega) (by omega)
  refine ev_istore_3 (q := 34) dX8_meets_33 rfl (by decide) ?_
  refine ev_aload_0 (q := 35) dX8_meets_34 rfl ?_
  refine ev_iload_1 (q := 36) dX8_meets_35 rfl ?_
  refine ev_iconst (q := 37) dX8_meets_36 rfl ?_
  refine ev_callV2i (q := 40) dX8_meets_37 vs_RX8_58 (by first | assumption | rfl) (c_X8_ofV (w := 1) hA hr (by omega) (by decide)) (by decide) (Nat.le_of_ble_eq_true rfl) rfl (fun h_37 => ?_)
  refine ev_aload_0 (q := 41) dX8_meets_40 rfl ?_
  refine ev_getR (q := 44) dX8_meets_41 fl_RX8_7 (by first | assumption | rfl) (by rfl) rfl ?_
  refine ev_bipush (q := 46) dX8_meets_44 rfl (by decide) ?_
  refine ev_iload_2 (q := 47) dX8_meets_46 rfl ?_
  refine ev_iadd (q := 48) dX8_meets_47 rfl ?_
  refine ev_iaload (q := 49) dX8_meets_48 (by first | assumption | rfl) (by omega) (by first | decide | omega) rfl (fun h_48 => ?_)
  rw [ec] at h_48 ⊢
  refine ev_iconst (q := 50) dX8_meets_49 rfl ?_
  refine ev_ixor (q := 51) dX8_meets_50 rfl ?_
  refine ev_iand (q := 52) dX8_meets_51 rfl ?_
  refine ev_if_ne (t := 59) (q := 55) dX8_meets_52 (by decide) rfl (rI32 _) (fun h_52 => ?_) (fun h_52 => ?_)
  · refine ev_iconst (q := 60) dX8_meets_59 rfl ?_
    refine t_meets_60 hA hW hr he ?_
    first | (rw [hs.1 h_52]; rfl) | (rw [Bool.eq_false_iff.2 (fun q => h_52 (hs.2 q))]; rfl)
  · refine ev_iconst (q := 56) dX8_meets_55 rfl ?_
    refine ev_goto (q := 60) dX8_meets_56 (by decide) ?_
    refine t_meets_60 hA hW hr he ?_
    first | (rw [hs.1 h_52]; rfl) | (rw [Bool.eq_false_iff.2 (fun q => h_52 (hs.2 q))]; rfl)
set_option maxHeartbeats 1000000 in
theorem c_X8_meets {l : Launch} {M : ev_M} {v : Vw} {r e : Nat} (hA : Ag (M 101) v) (hW : Wf v) (hr : (r : Int) < vrn v) (he : (e : Int) < vel v) : Cx l 1 kX8_meets yX8_meets S0 M [vr 100, vi (r : Int), vi (e : Int)] (some (vi (if fitB v r e = true then 1 else 0))) M := by
  have h1 := hW.1
  have h2 := hW.2.1
  have hp := hW.2.2.2.1 r hr
  have he3 := hW.2.2.1 e he
  have ek := (hA.2.2.1 (e : Int) (by omega) (by omega)).2.1
  rw [Int.toNat_natCast] at ek
  refine Cx.of (by decide) rfl (by decide) (Nat.le_of_ble_eq_true rfl) ?_
  refine (show Ev _ none _ _ _ _ _ 0 [_, _, _, _, _, _, _] [] _ from ?_)
  refine ev_aload_0 (q := 1) dX8_meets_0 rfl ?_
  refine ev_iload_1 (q := 2) dX8_meets_1 rfl ?_
  refine ev_iconst (q := 3) dX8_meets_2 rfl ?_
  refine ev_callV2i (q := 6) dX8_meets_3 vs_RX8_58 (by first | assumption | rfl) (c_X8_ofV (w := 0) hA hr (by omega) (by decide)) (by decide) (Nat.le_of_ble_eq_true rfl) rfl (fun h_3 => ?_)
  refine ev_iconst (q := 7) dX8_meets_6 rfl ?_
  refine ev_icmp_eq (t := 28) (q := 10) dX8_meets_7 (by decide) rfl (by constructor <;> omega) (by constructor <;> omega) (fun h_7 => ?_) (fun h_7 => ?_)
  · refine ev_iconst (q := 29) dX8_meets_28 rfl ?_
    refine ev_goto (q := 33) dX8_meets_29 (by decide) ?_
    refine t_meets_33 (b1 := decide (vpt v r 0 = -1) || decide (vpt v r 0 = vknd v e)) hA hW hr he ?_
    first
    | (rw [decide_eq_true h_7]; rfl)
    | (rw [decide_eq_true h_25, Bool.or_true]; rfl)
    | (rw [decide_eq_false h_7, decide_eq_false h_25]; rfl)
  · refine ev_aload_0 (q := 11) dX8_meets_10 rfl ?_
    refine ev_iload_1 (q := 12) dX8_meets_11 rfl ?_
    refine ev_iconst (q := 13) dX8_meets_12 rfl ?_
    refine ev_callV2i (q := 16) dX8_meets_13 vs_RX8_58 (by first | assumption | rfl) (c_X8_ofV (w := 0) hA hr (by omega) (by decide)) (by decide) (Nat.le_of_ble_eq_true rfl) rfl (fun h_13 => ?_)
    refine ev_aload_0 (q := 17) dX8_meets_16 rfl ?_
    refine ev_getR (q := 20) dX8_meets_17 fl_RX8_7 (by first | assumption | rfl) (by rfl) rfl ?_
    refine ev_bipush (q := 22) dX8_meets_20 rfl (by decide) ?_
    refine ev_iload_2 (q := 23) dX8_meets_22 rfl ?_
    refine ev_iadd (q := 24) dX8_meets_23 rfl ?_
    refine ev_iaload (q := 25) dX8_meets_24 (by first | assumption | rfl) (by omega) (by first | decide | omega) rfl (fun h_24 => ?_)
    rw [ek] at h_24 ⊢
    refine ev_icmp_ne (t := 32) (q := 28) dX8_meets_25 (by decide) rfl (by constructor <;> omega) (by constructor <;> omega) (fun h_25 => ?_) (fun h_25 => ?_)
    · refine ev_iconst (q := 33) dX8_meets_32 rfl ?_
      refine t_meets_33 (b1 := decide (vpt v r 0 = -1) || decide (vpt v r 0 = vknd v e)) hA hW hr he ?_
      first
      | (rw [decide_eq_true h_7]; rfl)
      | (rw [decide_eq_true h_25, Bool.or_true]; rfl)
      | (rw [decide_eq_false h_7, decide_eq_false h_25]; rfl)
    · refine ev_iconst (q := 29) dX8_meets_28 rfl ?_
      refine ev_goto (q := 33) dX8_meets_29 (by decide) ?_
      refine t_meets_33 (b1 := decide (vpt v r 0 = -1) || decide (vpt v r 0 = vknd v e)) hA hW hr he ?_
      first
      | (rw [decide_eq_true h_7]; rfl)
      | (rw [decide_eq_true h_25, Bool.or_true]; rfl)
      | (rw [decide_eq_false h_7, decide_eq_false h_25]; rfl)

