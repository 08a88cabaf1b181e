def rdJ (f : Nat → Int) (n : Nat) (s : Nat → Int) (j : Nat) : Nat → Int := fun i => if 146 + 48 * n ≤ i ∧ i < 146 + 48 * n + j then s (i - (146 + 48 * n)) else f i
theorem rdJ_s {f s : Nat → Int} {n j : Nat} : (fun i => if i = 146 + 48 * n + j then s j else rdJ f n s j i) = rdJ f n s (j + 1) := by
  funext i
  unfold rdJ
  by_cases q : i = 146 + 48 * n + j
  · subst q
    rw [if_pos rfl, if_pos (by omega), show 146 + 48 * n + j - (146 + 48 * n) = j by omega]
  · rw [if_neg q]
    by_cases q1 : 146 + 48 * n ≤ i ∧ i < 146 + 48 * n + j
    · rw [if_pos q1, if_pos (by omega)]
    · rw [if_neg q1, if_neg (by omega)]
theorem rdJ_0 {f s : Nat → Int} {n : Nat} : rdJ f n s 0 = f := by
  funext i
  unfold rdJ
  rw [if_neg (by omega)]
section Mr
variable {l : Launch} {M : ev_M} {t : Nat → Int} {len el : Int} {v : Vw}
set_option maxHeartbeats 2000000 in
theorem lp_read {M1 : ev_M} {f : Nat → Int} {n : Nat} {Rr : Int → ev_M → Prop} (hn : n < 16) (K : Rr (n : Int) (setD M1 (rdJ f n (M1 105) 48))) : ∀ (m j : Nat) (x : Int), x = j → j + m = 48 → Ev l none 4 kX8_read (0, 0) S0 (setD M1 (rdJ f n (M1 105) j)) 73 [some (vr 100), some (vi (n : Int)), some (vi x)] [] (QI S0 Rr) := by
  intro m
  induction m with
  | zero =>
    intro j x hx hm
    have hj : j = 48 := by omega
    subst hj
    refine ev_iload_2 (q := 74) dX8_read_73 rfl ?_
    refine ev_bipush (q := 76) dX8_read_74 rfl (by decide) ?_
    refine ev_icmp_ge (t := 103) (q := 79) dX8_read_76 (by decide) rfl (by constructor <;> omega) (by constructor <;> omega) (fun h_76 => ?_) (fun h_76 => ?_)
    · refine ev_iload_1 (q := 104) dX8_read_103 rfl ?_
      refine ev_ireturn dX8_read_104 rfl rfl (by constructor <;> omega) ?_
      exact ⟨_, rfl, rfl, K⟩
    · omega
  | succ m ih =>
    intro j x hx hm
    subst hx
    have hs : setD M1 (rdJ f n (M1 105) j) 105 (j : Int).toNat = M1 105 j := by rw [setD_o (by decide), Int.toNat_natCast]
    refine ev_iload_2 (q := 74) dX8_read_73 rfl ?_
    refine ev_bipush (q := 76) dX8_read_74 rfl (by decide) ?_
    refine ev_icmp_ge (t := 103) (q := 79) dX8_read_76 (by decide) rfl (by constructor <;> omega) (by constructor <;> omega) (fun h_76 => ?_) (fun h_76 => ?_)
    · omega
    · refine ev_aload_0 (q := 80) dX8_read_79 rfl ?_
      refine ev_getR (q := 83) dX8_read_80 fl_RX8_7 (by first | assumption | rfl) (by rfl) rfl ?_
      refine ev_iload_1 (q := 84) dX8_read_83 rfl ?_
      refine ev_iconst (q := 85) dX8_read_84 rfl ?_
      refine ev_callS2i (q := 88) dX8_read_85 ss_RX8_78 (c_X8_says (by omega) (by omega)) (by decide) (Nat.le_of_ble_eq_true rfl) rfl (fun h_85 => ?_)
      refine ev_iload_2 (q := 89) dX8_read_88 rfl ?_
      refine ev_iadd (q := 90) dX8_read_89 rfl ?_
      refine ev_aload_0 (q := 91) dX8_read_90 rfl ?_
      refine ev_getR (q := 94) dX8_read_91 fl_RX8_23 (by first | assumption | rfl) (by rfl) rfl ?_
      refine ev_iload_2 (q := 95) dX8_read_94 rfl ?_
      refine ev_iaload (q := 96) dX8_read_95 (by first | assumption | rfl) (by omega) (by first | decide | omega) rfl (fun h_95 => ?_)
      rw [hs] at h_95 ⊢
      refine ev_iastore (q := 97) dX8_read_96 (by first | assumption | rfl) (by omega) (by first | decide | omega) (by constructor <;> omega) rfl ?_
      rw [show (146 + 48 * (n : Int) + 3 * 0 + (j : Int)).toNat = 146 + 48 * n + j by omega, setD_up, rdJ_s]
      refine ev_iinc_2 (q := 100) dX8_read_97 rfl (by decide) ?_
      refine ev_goto (q := 73) dX8_read_100 (by decide) ?_
      exact ih (j + 1) _ rfl (by omega)
theorem flt_rng {M2 : ev_M} (h : MP t len M2 (enP t len el)) : -1 ≤ fltV t len el := by
  have h5 := h.2.2.2.2.1
  have h9 := h.2.2.2.2.2.2.2.2
  unfold fltV
  rw [show fnP t len el = trS len (enP t len el) from rfl]
  unfold trS
  (repeat' split) <;> first | exact h9.1 | (show -1 ≤ pat (enP t len el); omega)
set_option maxHeartbeats 4000000 in
theorem m_read (hA : Ag (M 101) v) (hW : Wf v) (hH : 0 ≤ M 100 2 ∧ M 100 2 ≤ 5) (h : TxM t len M) : Ri l 4 kX8_read yX8_read S0 M [vr 100] (fun x M2 => (fltV t len (vel v) ≠ -1 ∧ x = -12 ∧ FrW M M2) ∨ (fltV t len (vel v) = -1 ∧ vrn v ≥ 16 ∧ x = -13 ∧ FrW M M2) ∨ (fltV t len (vel v) = -1 ∧ vrn v < 16 ∧ x = vrn v ∧ ∃ M1, FrW M M1 ∧ MP t len M1 (enP t len (vel v)) ∧ Dm M1 (rdJ (apF (M 101) (vrn v).toNat (hd1 t len).1 (hd2 t len).1 (hd3 t len).1 (hd5 t len (vel v)).1 (hd4 t len (vel v)).1 (hdI t len (vel v))) (vrn v).toNat (M1 105) 48) M2)) := by
  have h1 := hW.1
  have h2 := hW.2.1
  have hn1 := hA.2.1
  refine Ri.of (by decide) rfl (by decide) (Nat.le_of_ble_eq_true rfl) ?_
  refine (show Ev _ none _ _ _ _ _ 0 [_, _, _] [] _ from ?_)
  refine ev_aload_0 (q := 1) dX8_read_0 rfl ?_
  refine ev_callV0iR (q := 4) dX8_read_1 vs_RX8_162 (by first | assumption | rfl) (c_X8_faulty h ⟨hA.1, h1⟩) (by decide) (Nat.le_of_ble_eq_true rfl) rfl (fun x_1 M_1 hq_1 h_1 => ?_)
  obtain ⟨e1, e2, e3, e4⟩ := hq_1
  have hfr := flt_rng e2
  have e101 : M_1 101 = M 101 := e4.1 101 (by decide) (by decide) (by decide)
  obtain ⟨g0, g1, g2, g4, g3, g5⟩ := id e3
  refine ev_bipush (q := 6) dX8_read_4 rfl (by decide) ?_
  refine ev_icmp_eq (t := 12) (q := 9) dX8_read_6 (by decide) rfl (by constructor <;> omega) (by constructor <;> omega) (fun h_6 => ?_) (fun h_6 => ?_)
  · have hf1 : fltV t len (vel v) = -1 := Classical.byContradiction (fun q => by rw [if_neg q] at e1; omega)
    refine ev_aload_0 (q := 13) dX8_read_12 rfl ?_
    refine ev_getR (q := 16) dX8_read_13 fl_RX8_7 (by first | assumption | rfl) (by rfl) rfl ?_
    refine ev_iconst (q := 17) dX8_read_16 rfl ?_
    refine ev_iaload (q := 18) dX8_read_17 (by first | assumption | rfl) (by omega) (by first | decide | omega) rfl (fun h_17 => ?_)
    rw [z1, e101, hn1] at h_17 ⊢
    refine ev_bipush (q := 20) dX8_read_18 rfl (by decide) ?_
    refine ev_icmp_ne (t := 26) (q := 23) dX8_read_20 (by decide) rfl (by constructor <;> omega) (by constructor <;> omega) (fun h_20 => ?_) (fun h_20 => ?_)
    · refine ev_aload_0 (q := 27) dX8_read_26 rfl ?_
      refine ev_callV0v (q := 30) dX8_read_27 vs_RX8_55 (by first | assumption | rfl) (c_X8_records (by rw [e4.2.1]; exact hH)) (by decide) (Nat.le_of_ble_eq_true rfl) rfl ?_
      rw [mrec_s]
      rw [e101]
      have hgo : ∀ k : Nat, setD (mrec M_1) (M 101) 104 k = M_1 104 k := fun k => by rw [setD_o (by decide), mrec_o (by decide) (by decide)]
      refine ev_aload_0 (q := 31) dX8_read_30 rfl ?_
      refine ev_aload_0 (q := 32) dX8_read_31 rfl ?_
      refine ev_getR (q := 35) dX8_read_32 fl_RX8_20 (by first | assumption | rfl) (by rfl) rfl ?_
      refine ev_iconst (q := 36) dX8_read_35 rfl ?_
      refine ev_iaload (q := 37) dX8_read_36 (by first | assumption | rfl) (by omega) (by first | decide | omega) rfl (fun h_36 => ?_)
      rw [z0, hgo, g0] at h_36 ⊢
      refine ev_aload_0 (q := 38) dX8_read_37 rfl ?_
      refine ev_getR (q := 41) dX8_read_38 fl_RX8_20 (by first | assumption | rfl) (by rfl) rfl ?_
      refine ev_iconst (q := 42) dX8_read_41 rfl ?_
      refine ev_iaload (q := 43) dX8_read_42 (by first | assumption | rfl) (by omega) (by first | decide | omega) rfl (fun h_42 => ?_)
      rw [z1, hgo, g1] at h_42 ⊢
      refine ev_aload_0 (q := 44) dX8_read_43 rfl ?_
      refine ev_getR (q := 47) dX8_read_44 fl_RX8_20 (by first | assumption | rfl) (by rfl) rfl ?_
      refine ev_iconst (q := 48) dX8_read_47 rfl ?_
      refine ev_iaload (q := 49) dX8_read_48 (by first | assumption | rfl) (by omega) (by first | decide | omega) rfl (fun h_48 => ?_)
      rw [show (2 : Int).toNat = 2 from rfl, hgo, g2] at h_48 ⊢
      refine ev_aload_0 (q := 50) dX8_read_49 rfl ?_
      refine ev_getR (q := 53) dX8_read_50 fl_RX8_20 (by first | assumption | rfl) (by rfl) rfl ?_
      refine ev_iconst (q := 54) dX8_read_53 rfl ?_
      refine ev_iaload (q := 55) dX8_read_54 (by first | assumption | rfl) (by omega) (by first | decide | omega) rfl (fun h_54 => ?_)
      rw [show (3 : Int).toNat = 3 from rfl, hgo, g3] at h_54 ⊢
      refine ev_aload_0 (q := 56) dX8_read_55 rfl ?_
      refine ev_getR (q := 59) dX8_read_56 fl_RX8_20 (by first | assumption | rfl) (by rfl) rfl ?_
      refine ev_iconst (q := 60) dX8_read_59 rfl ?_
      refine ev_iaload (q := 61) dX8_read_60 (by first | assumption | rfl) (by omega) (by first | decide | omega) rfl (fun h_60 => ?_)
      rw [show (4 : Int).toNat = 4 from rfl, hgo, g4] at h_60 ⊢
      refine ev_aload_0 (q := 62) dX8_read_61 rfl ?_
      refine ev_getR (q := 65) dX8_read_62 fl_RX8_20 (by first | assumption | rfl) (by rfl) rfl ?_
      refine ev_iconst (q := 66) dX8_read_65 rfl ?_
      refine ev_iaload (q := 67) dX8_read_66 (by first | assumption | rfl) (by omega) (by first | decide | omega) rfl (fun h_66 => ?_)
      rw [show (5 : Int).toNat = 5 from rfl, hgo, g5] at h_66 ⊢
      refine ev_callV6i (q := 70) dX8_read_67 vs_RX8_91 (by first | assumption | rfl) (c_X8_appends (n := (vrn v).toNat) (by omega) (by omega) h_36 h_42 h_48 h_54 h_60 h_66) (by decide) (Nat.le_of_ble_eq_true rfl) rfl (fun h_67 => ?_)
      refine ev_istore_1 (q := 71) dX8_read_70 rfl (by decide) ?_
      refine ev_iconst (q := 72) dX8_read_71 rfl ?_
      refine ev_istore_2 (q := 73) dX8_read_72 rfl (by decide) ?_
      have h105 : mrec M_1 105 = M_1 105 := mrec_o (by decide) (by decide)
      refine Ev_M (congrArg (setD (mrec M_1)) rdJ_0.symm) (lp_read (M1 := mrec M_1) (n := (vrn v).toNat) (by omega) ?_ 48 0 _ rfl rfl)
      refine Or.inr (Or.inr ⟨hf1, by omega, by omega, M_1, e4, e2, ?_⟩)
      rw [h105]
      exact setD_Dm
    · refine ev_bipush (q := 25) dX8_read_23 rfl (by decide) ?_
      refine ev_ireturn dX8_read_25 rfl rfl (by constructor <;> omega) ?_
      exact ⟨_, rfl, rfl, Or.inr (Or.inl ⟨hf1, by omega, rfl, e4⟩)⟩
  · refine ev_bipush (q := 11) dX8_read_9 rfl (by decide) ?_
    refine ev_ireturn dX8_read_11 rfl rfl (by constructor <;> omega) ?_
    refine ⟨_, rfl, rfl, Or.inl ⟨fun q => ?_, rfl, e4⟩⟩
    rw [if_pos q] at e1
    omega
end Mr

