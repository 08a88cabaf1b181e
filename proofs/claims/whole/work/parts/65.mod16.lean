section Recs
variable {l : Launch} {M : ev_M} {v : Vw}
/-- the model's history after a record -/
def mst (M : ev_M) : Nat := if M 100 2 = 5 then 4 else (M 100 2).toNat
def mrec1 (M : ev_M) : ev_M := if M 100 2 = 5 then up (wr M 102 0 3656 (fun k => M 102 (k + 914))) 100 2 4 else M
def mrec (M : ev_M) : ev_M := up (wr (mrec1 M) 102 (914 * mst M) 914 (fun k => M 101 k)) 100 2 ((mst M : Nat) + 1)
theorem mrec1_o {i : Nat} (h : i ≠ 102) (h2 : i ≠ 100) : mrec1 M i = M i := by
  unfold mrec1
  split
  · rw [up_ne h2, wr_ne h]
  · rfl
theorem mrec_o {i : Nat} (h : i ≠ 102) (h2 : i ≠ 100) : mrec M i = M i := by
  unfold mrec
  rw [up_ne h2, wr_ne h, mrec1_o h h2]
theorem mrec_f {j : Nat} (h2 : j ≠ 2) : mrec M 100 j = M 100 j := by
  unfold mrec
  rw [show ∀ (Z : ev_M) (x : Int), up Z 100 2 x 100 j = Z 100 j from fun Z x => if_neg (fun q => h2 q.2), wr_ne (by decide)]
  unfold mrec1
  split
  · rw [show ∀ (Z : ev_M) (x : Int), up Z 100 2 x 100 j = Z 100 j from fun Z x => if_neg (fun q => h2 q.2), wr_ne (by decide)]
  · rfl
set_option maxHeartbeats 2000000 in
theorem lp_rec1 {Q : Option ev_V → List ev_Sh → ev_M → Prop} (K : Ev l none 0 kX8_records (0, 0) S0 (wr M 102 0 3656 (fun k => M 102 (k + 914))) 39 [some (vr 100), some (vi 3656)] [] Q) : ∀ (n j : Nat) (x : Int), x = j → j + n = 3656 → Ev l none 0 kX8_records (0, 0) S0 (wr M 102 0 j (fun k => M 102 (k + 914))) 10 [some (vr 100), some (vi x)] [] Q := by
  intro n
  induction n with
  | zero =>
    intro j x hx hn
    have hj : j = 3656 := by omega
    subst hj
    refine ev_iload_1 (q := 11) dX8_records_10 rfl ?_
    refine ev_sipush (q := 14) dX8_records_11 rfl (by decide) ?_
    refine ev_icmp_ge (t := 39) (q := 17) dX8_records_14 (by decide) rfl (by constructor <;> omega) (by constructor <;> omega) (fun h_14 => ?_) (fun h_14 => ?_)
    · rw [hx]
      exact K
    · omega
  | succ n ih =>
    intro j x hx hn
    subst hx
    have hv : wr M 102 0 j (fun k => M 102 (k + 914)) 102 ((j : Int) + 914).toNat = M 102 (j + 914) := by
      rw [wr_at, if_neg (by omega)]
      congr 1 <;> omega
    refine ev_iload_1 (q := 11) dX8_records_10 rfl ?_
    refine ev_sipush (q := 14) dX8_records_11 rfl (by decide) ?_
    refine ev_icmp_ge (t := 39) (q := 17) dX8_records_14 (by decide) rfl (by constructor <;> omega) (by constructor <;> omega) (fun h_14 => ?_) (fun h_14 => ?_)
    · omega
    · refine ev_aload_0 (q := 18) dX8_records_17 rfl ?_
      refine ev_getR (q := 21) dX8_records_18 fl_RX8_13 (by first | assumption | rfl) (by rfl) rfl ?_
      refine ev_iload_1 (q := 22) dX8_records_21 rfl ?_
      refine ev_aload_0 (q := 23) dX8_records_22 rfl ?_
      refine ev_getR (q := 26) dX8_records_23 fl_RX8_13 (by first | assumption | rfl) (by rfl) rfl ?_
      refine ev_iload_1 (q := 27) dX8_records_26 rfl ?_
      refine ev_sipush (q := 30) dX8_records_27 rfl (by decide) ?_
      refine ev_iadd (q := 31) dX8_records_30 rfl ?_
      refine ev_iaload (q := 32) dX8_records_31 (by first | assumption | rfl) (by omega) (by first | decide | omega) rfl (fun h_31 => ?_)
      rw [hv] at h_31 ⊢
      refine ev_iastore (q := 33) dX8_records_32 (by first | assumption | rfl) (by omega) (by first | decide | omega) (by constructor <;> omega) rfl ?_
      refine ev_iinc_1 (q := 36) dX8_records_33 rfl (by decide) ?_
      refine ev_goto (q := 10) dX8_records_36 (by decide) ?_
      refine Ev_M ?_ (ih (j + 1) _ rfl (by omega))
      have := wr_s (M := M) (a := 102) (lo := 0) (j := j) (f := fun k => M 102 (k + 914))
      rw [← this, Nat.zero_add, Int.toNat_natCast]
set_option maxHeartbeats 2000000 in
theorem lp_rec2 {s : Nat} {Q : Option ev_V → List ev_Sh → ev_M → Prop} (hs : s ≤ 4) (h2 : M 100 2 = (s : Int)) (K : Ev l none 0 kX8_records (0, 0) S0 (wr M 102 (914 * s) 914 (fun k => M 101 k)) 85 [some (vr 100), some (vi 914)] [] Q) : ∀ (n j : Nat) (x : Int), x = j → j + n = 914 → Ev l none 0 kX8_records (0, 0) S0 (wr M 102 (914 * s) j (fun k => M 101 k)) 51 [some (vr 100), some (vi x)] [] Q := by
  intro n
  induction n with
  | zero =>
    intro j x hx hn
    have hj : j = 914 := by omega
    subst hj
    refine ev_iload_1 (q := 52) dX8_records_51 rfl ?_
    refine ev_sipush (q := 55) dX8_records_52 rfl (by decide) ?_
    refine ev_icmp_ge (t := 85) (q := 58) dX8_records_55 (by decide) rfl (by constructor <;> omega) (by constructor <;> omega) (fun h_55 => ?_) (fun h_55 => ?_)
    · rw [hx]
      exact K
    · omega
  | succ n ih =>
    intro j x hx hn
    subst hx
    have hv : wr M 102 (914 * s) j (fun k => M 101 k) 100 2 = (s : Int) := by rw [wr_ne (by decide)]; exact h2
    have hv2 : wr M 102 (914 * s) j (fun k => M 101 k) 101 (j : Int).toNat = M 101 j := by rw [wr_ne (by decide), Int.toNat_natCast]
    refine ev_iload_1 (q := 52) dX8_records_51 rfl ?_
    refine ev_sipush (q := 55) dX8_records_52 rfl (by decide) ?_
    refine ev_icmp_ge (t := 85) (q := 58) dX8_records_55 (by decide) rfl (by constructor <;> omega) (by constructor <;> omega) (fun h_55 => ?_) (fun h_55 => ?_)
    · omega
    · refine ev_aload_0 (q := 59) dX8_records_58 rfl ?_
      refine ev_getR (q := 62) dX8_records_59 fl_RX8_13 (by first | assumption | rfl) (by rfl) rfl ?_
      refine ev_sipush (q := 65) dX8_records_62 rfl (by decide) ?_
      refine ev_aload_0 (q := 66) dX8_records_65 rfl ?_
      refine ev_getI (q := 69) dX8_records_66 fl_RX8_43 (by first | assumption | rfl) (by rfl) rfl (fun h_66 => ?_)
      rw [hv] at h_66 ⊢
      refine ev_imul (q := 70) dX8_records_69 rfl ?_
      refine ev_iload_1 (q := 71) dX8_records_70 rfl ?_
      refine ev_iadd (q := 72) dX8_records_71 rfl ?_
      refine ev_aload_0 (q := 73) dX8_records_72 rfl ?_
      refine ev_getR (q := 76) dX8_records_73 fl_RX8_7 (by first | assumption | rfl) (by rfl) rfl ?_
      refine ev_iload_1 (q := 77) dX8_records_76 rfl ?_
      refine ev_iaload (q := 78) dX8_records_77 (by first | assumption | rfl) (by omega) (by first | decide | omega) rfl (fun h_77 => ?_)
      rw [hv2] at h_77 ⊢
      refine ev_iastore (q := 79) dX8_records_78 (by first | assumption | rfl) (by omega) (by first | decide | omega) (by constructor <;> omega) rfl ?_
      refine ev_iinc_1 (q := 82) dX8_records_79 rfl (by decide) ?_
      refine ev_goto (q := 51) dX8_records_82 (by decide) ?_
      refine Ev_M ?_ (ih (j + 1) _ rfl (by omega))
      have := wr_s (M := M) (a := 102) (lo := 914 * s) (j := j) (f := fun k => M 101 k)
      rw [← this, show (914 * (s : Int) + (j : Int)).toNat = 914 * s + j by omega]
set_option maxHeartbeats 2000000 in
theorem t_rec49 {s : Nat} {w : Option ev_V} (hs : s ≤ 4) (h2 : M 100 2 = (s : Int)) : Ev l none 0 kX8_records (0, 0) S0 M 49 [some (vr 100), w] [] (QX none S0 (up (wr M 102 (914 * s) 914 (fun k => M 101 k)) 100 2 ((s : Int) + 1))) := by
  have hv : wr M 102 (914 * s) 914 (fun k => M 101 k) 100 2 = (s : Int) := by rw [wr_ne (by decide)]; exact h2
  have K : Ev l none 0 kX8_records (0, 0) S0 (wr M 102 (914 * s) 914 (fun k => M 101 k)) 85 [some (vr 100), some (vi 914)] [] (QX none S0 (up (wr M 102 (914 * s) 914 (fun k => M 101 k)) 100 2 ((s : Int) + 1))) := by
    refine ev_aload_0 (q := 86) dX8_records_85 rfl ?_
    refine ev_dup (q := 87) dX8_records_86 rfl ?_
    refine ev_getI (q := 90) dX8_records_87 fl_RX8_43 (by first | assumption | rfl) (by rfl) rfl (fun h_87 => ?_)
    rw [hv] at h_87 ⊢
    refine ev_iconst (q := 91) dX8_records_90 rfl ?_
    refine ev_iadd (q := 92) dX8_records_91 rfl ?_
    refine ev_putI (q := 95) dX8_records_92 fl_RX8_43 (by first | assumption | rfl) (by rfl) rfl (by constructor <;> omega) ?_
    refine ev_return dX8_records_95 rfl ?_
    exact ⟨rfl, rfl, rfl⟩
  refine ev_iconst (q := 50) dX8_records_49 rfl ?_
  refine ev_istore_1 (q := 51) dX8_records_50 rfl (by decide) ?_
  exact Ev_M (wr_0 M 102 (914 * s) _).symm (lp_rec2 hs h2 K 914 0 _ rfl rfl)
set_option maxHeartbeats 2000000 in
theorem c_X8_records (h : 0 ≤ M 100 2 ∧ M 100 2 ≤ 5) : Cx l 0 kX8_records yX8_records S0 M [vr 100] none (mrec M) := by
  have h5 : M 100 2 = 5 → Ev l none 0 kX8_records (0, 0) S0 (wr M 102 0 3656 (fun k => M 102 (k + 914))) 39 [some (vr 100), some (vi 3656)] [] (QX none S0 (mrec M)) := by
    intro q
    have hm1 : mrec1 M = up (wr M 102 0 3656 (fun k => M 102 (k + 914))) 100 2 4 := if_pos q
    have hms : mst M = 4 := if_pos q
    have hv : wr M 102 0 3656 (fun k => M 102 (k + 914)) 100 2 = 5 := by rw [wr_ne (by decide)]; exact q
    refine ev_aload_0 (q := 40) dX8_records_39 rfl ?_
    refine ev_dup (q := 41) dX8_records_40 rfl ?_
    refine ev_getI (q := 44) dX8_records_41 fl_RX8_43 (by first | assumption | rfl) (by rfl) rfl (fun h_41 => ?_)
    rw [hv] at h_41 ⊢
    refine ev_iconst (q := 45) dX8_records_44 rfl ?_
    refine ev_isub (q := 46) dX8_records_45 rfl ?_
    refine ev_putI (q := 49) dX8_records_46 fl_RX8_43 (by first | assumption | rfl) (by rfl) rfl (by constructor <;> omega) ?_
    have ht := t_rec49 (l := l) (M := up (wr M 102 0 3656 (fun k => M 102 (k + 914))) 100 2 4) (s := 4) (w := some (vi 3656)) (by decide) rfl
    rw [show mrec M = up (wr (up (wr M 102 0 3656 (fun k => M 102 (k + 914))) 100 2 4) 102 (914 * 4) 914 (fun k => up (wr M 102 0 3656 (fun k => M 102 (k + 914))) 100 2 4 101 k)) 100 2 (((4 : Nat) : Int) + 1) by rw [mrec, hm1, hms]; rfl]
    exact ht
  refine Cx.of (by decide) rfl (by decide) (Nat.le_of_ble_eq_true rfl) ?_
  refine (show Ev _ none _ _ _ _ _ 0 [_, _] [] _ from ?_)
  refine ev_aload_0 (q := 1) dX8_records_0 rfl ?_
  refine ev_getI (q := 4) dX8_records_1 fl_RX8_43 (by first | assumption | rfl) (by rfl) rfl (fun h_1 => ?_)
  refine ev_iconst (q := 5) dX8_records_4 rfl ?_
  refine ev_icmp_ne (t := 49) (q := 8) dX8_records_5 (by decide) rfl (by constructor <;> omega) (by constructor <;> omega) (fun h_5 => ?_) (fun h_5 => ?_)
  · obtain ⟨s, hs⟩ : ∃ s : Nat, M 100 2 = (s : Int) := ⟨(M 100 2).toNat, by omega⟩
    have hm1 : mrec1 M = M := if_neg h_5
    have hms : mst M = s := by rw [mst, if_neg h_5]; omega
    rw [show mrec M = up (wr M 102 (914 * s) 914 (fun k => M 101 k)) 100 2 ((s : Int) + 1) by rw [mrec, hm1, hms]]
    exact t_rec49 (by omega) hs
  · refine ev_iconst (q := 9) dX8_records_8 rfl ?_
    refine ev_istore_1 (q := 10) dX8_records_9 rfl (by decide) ?_
    exact Ev_M (wr_0 M 102 0 _).symm (lp_rec1 (h5 h_5) 3656 0 _ rfl rfl)
/-- the model's undo -/
def mund (M : ev_M) : ev_M := wr (up M 100 2 (M 100 2 - 1)) 101 0 914 (fun k => M 102 (914 * (M 100 2 - 1).toNat + k))
set_option maxHeartbeats 2000000 in
theorem lp_und {s : Nat} {Q : Option ev_V → List ev_Sh → ev_M → Prop} (hs : s ≤ 4) (h2 : M 100 2 = (s : Int)) (K : Ev l none 0 kX8_undo (0, 0) S0 (wr M 101 0 914 (fun k => M 102 (914 * s + k))) 56 [some (vr 100), some (vi 914)] [] Q) : ∀ (n j : Nat) (x : Int), x = j → j + n = 914 → Ev l none 0 kX8_undo (0, 0) S0 (wr M 101 0 j (fun k => M 102 (914 * s + k))) 22 [some (vr 100), some (vi x)] [] Q := by
  intro n
  induction n with
  | zero =>
    intro j x hx hn
    have hj : j = 914 := by omega
    subst hj
    refine ev_iload_1 (q := 23) dX8_undo_22 rfl ?_
    refine ev_sipush (q := 26) dX8_undo_23 rfl (by decide) ?_
    refine ev_icmp_ge (t := 56) (q := 29) dX8_undo_26 (by decide) rfl (by constructor <;> omega) (by constructor <;> omega) (fun h_26 => ?_) (fun h_26 => ?_)
    · rw [hx]
      exact K
    · omega
  | succ n ih =>
    intro j x hx hn
    subst hx
    have hv : wr M 101 0 j (fun k => M 102 (914 * s + k)) 100 2 = (s : Int) := by rw [wr_ne (by decide)]; exact h2
    have hv2 : wr M 101 0 j (fun k => M 102 (914 * s + k)) 102 (914 * (s : Int) + (j : Int)).toNat = M 102 (914 * s + j) := by
      rw [wr_ne (by decide)]
      congr 1 <;> omega
    refine ev_iload_1 (q := 23) dX8_undo_22 rfl ?_
    refine ev_sipush (q := 26) dX8_undo_23 rfl (by decide) ?_
    refine ev_icmp_ge (t := 56) (q := 29) dX8_undo_26 (by decide) rfl (by constructor <;> omega) (by constructor <;> omega) (fun h_26 => ?_) (fun h_26 => ?_)
    · omega
    · refine ev_aload_0 (q := 30) dX8_undo_29 rfl ?_
      refine ev_getR (q := 33) dX8_undo_30 fl_RX8_7 (by first | assumption | rfl) (by rfl) rfl ?_
      refine ev_iload_1 (q := 34) dX8_undo_33 rfl ?_
      refine ev_aload_0 (q := 35) dX8_undo_34 rfl ?_
      refine ev_getR (q := 38) dX8_undo_35 fl_RX8_13 (by first | assumption | rfl) (by rfl) rfl ?_
      refine ev_sipush (q := 41) dX8_undo_38 rfl (by decide) ?_
      refine ev_aload_0 (q := 42) dX8_undo_41 rfl ?_
      refine ev_getI (q := 45) dX8_undo_42 fl_RX8_43 (by first | assumption | rfl) (by rfl) rfl (fun h_42 => ?_)
      rw [hv] at h_42 ⊢
      refine ev_imul (q := 46) dX8_undo_45 rfl ?_
      refine ev_iload_1 (q := 47) dX8_undo_46 rfl ?_
      refine ev_iadd (q := 48) dX8_undo_47 rfl ?_
      refine ev_iaload (q := 49) dX8_undo_48 (by first | assumption | rfl) (by omega) (by first | decide | omega) rfl (fun h_48 => ?_)
      rw [hv2] at h_48 ⊢
      refine ev_iastore (q := 50) dX8_undo_49 (by first | assumption | rfl) (by omega) (by first | decide | omega) (by constructor <;> omega) rfl ?_
      refine ev_iinc_1 (q := 53) dX8_undo_50 rfl (by decide) ?_
      refine ev_goto (q := 22) dX8_undo_53 (by decide) ?_
      refine Ev_M ?_ (ih (j + 1) _ rfl (by omega))
      have := wr_s (M := M) (a := 101) (lo := 0) (j := j) (f := fun k => M 102 (914 * s + k))
      rw [← this, Nat.zero_add, Int.toNat_natCast]
set_option maxHeartbeats 2000000 in
theorem m_undo (h : 0 ≤ M 100 2 ∧ M 100 2 ≤ 5) : Ri l 0 kX8_undo yX8_undo S0 M [vr 100] (fun x M2 => (M 100 2 ≤ 0 ∧ x = -12 ∧ M2 = M) ∨ (M 100 2 > 0 ∧ x = M 100 2 - 1 ∧ M2 = mund M)) := by
  have hend : ∀ w : Option ev_V, M 100 2 > 0 → Ev l none 0 kX8_undo (0, 0) S0 (mund M) 56 [some (vr 100), w] [] (QI S0 (fun x M2 => (M 100 2 ≤ 0 ∧ x = -12 ∧ M2 = M) ∨ (M 100 2 > 0 ∧ x = M 100 2 - 1 ∧ M2 = mund M))) := by
    intro w hw
    have hz : mund M 100 2 = M 100 2 - 1 := by rw [mund, wr_ne (by decide)]; exact if_pos ⟨rfl, rfl⟩
    refine ev_aload_0 (q := 57) dX8_undo_56 rfl ?_
    refine ev_getI (q := 60) dX8_undo_57 fl_RX8_43 (by first | assumption | rfl) (by rfl) rfl (fun h_57 => ?_)
    rw [hz] at h_57 ⊢
    refine ev_ireturn dX8_undo_60 rfl rfl (by constructor <;> omega) ?_
    exact ⟨_, rfl, rfl, Or.inr ⟨hw, rfl, rfl⟩⟩
  refine Ri.of (by decide) rfl (by decide) (Nat.le_of_ble_eq_true rfl) ?_
  refine (show Ev _ none _ _ _ _ _ 0 [_, _] [] _ from ?_)
  refine ev_aload_0 (q := 1) dX8_undo_0 rfl ?_
  refine ev_getI (q := 4) dX8_undo_1 fl_RX8_43 (by first | assumption | rfl) (by rfl) rfl (fun h_1 => ?_)
  refine ev_if_ne (t := 10) (q := 7) dX8_undo_4 (by decide) rfl (by constructor <;> omega) (fun h_4 => ?_) (fun h_4 => ?_)
  · refine ev_aload_0 (q := 11) dX8_undo_10 rfl ?_
    refine ev_dup (q := 12) dX8_undo_11 rfl ?_
    refine ev_getI (q := 15) dX8_undo_12 fl_RX8_43 (by first | assumption | rfl) (by rfl) rfl (fun h_12 => ?_)
    refine ev_iconst (q := 16) dX8_undo_15 rfl ?_
    refine ev_isub (q := 17) dX8_undo_16 rfl ?_
    refine ev_putI (q := 20) dX8_undo_17 fl_RX8_43 (by first | assumption | rfl) (by rfl) rfl (by constructor <;> omega) ?_
    refine ev_iconst (q := 21) dX8_undo_20 rfl ?_
    refine ev_istore_1 (q := 22) dX8_undo_21 rfl (by decide) ?_
    obtain ⟨s, hs⟩ : ∃ s : Nat, M 100 2 - 1 = (s : Int) := ⟨(M 100 2 - 1).toNat, by omega⟩
    rw [hs]
    have hms : mund M = wr (up M 100 2 (s : Int)) 101 0 914 (fun k => up M 100 2 (s : Int) 102 (914 * s + k)) := by rw [mund, hs, Int.toNat_natCast]; rfl
    refine Ev_M (wr_0 _ 101 0 _).symm (lp_und (s := s) (by omega) rfl ?_ 914 0 _ rfl rfl)
    rw [← hms]
    have hh := hend (some (vi 914)) (by omega)
    rw [hs] at hh
    exact hh
  · refine ev_bipush (q := 9) dX8_undo_7 rfl (by decide) ?_
    refine ev_ireturn dX8_undo_9 rfl rfl (by constructor <;> omega) ?_
    exact ⟨_, rfl, rfl, Or.inl ⟨by omega, rfl, rfl⟩⟩
/-- one state changed, by g -/
def Dm (M : ev_M) (g : Nat → Int) (M2 : ev_M) : Prop := M2 101 = g ∧ ∀ i, i ≠ 101 → M2 i = mrec M i
theorem up_f (Z : ev_M) (a k : Nat) (x : Int) : up Z a k x a = fun i => if i = k then x else Z a i := by
  funext i
  simp [up]
def adF (f : Nat → Int) (p k c : Int) : Nat → Int := fun i => if i = 0 then f 0 + 1 else if i = 34 + (f 0).toNat then c else if i = 18 + (f 0).toNat then k else if i = 2 + (f 0).toNat then p else f i
theorem mrec_101 : mrec M 101 = M 101 := mrec_o (by decide) (by decide)
set_option maxHeartbeats 2000000 in
theorem m_add {p k c : Int} (hA : Ag (M 101) v) (hW : Wf v) (hH : 0 ≤ M 100 2 ∧ M 100 2 ≤ 5) (hp : inR p) (hk : inR k) (hc : inR c) : Ri l 2 kX8_add yX8_add S0 M [vr 100, vi p, vi k, vi c] (fun x M2 => (¬ ((0 ≤ p ∧ p < vel v) ∧ (0 ≤ k ∧ k ≤ 5) ∧ (0 ≤ c ∧ c ≤ 15)) ∧ x = -11 ∧ M2 = M) ∨ (((0 ≤ p ∧ p < vel v) ∧ (0 ≤ k ∧ k ≤ 5) ∧ (0 ≤ c ∧ c ≤ 15)) ∧ vel v ≥ 16 ∧ x = -13 ∧ M2 = M) ∨ (((0 ≤ p ∧ p < vel v) ∧ (0 ≤ k ∧ k ≤ 5) ∧ (0 ≤ c ∧ c ≤ 15)) ∧ vel v < 16 ∧ x = vel v ∧ Dm M (adF (M 101) p k c) M2)) := by
  have h1 := hW.1
  have hn := hA.1
  have hz : mrec M 101 0 = vel v := by rw [mrec_101]; exact hn
  obtain ⟨n, hvn⟩ : ∃ n : Nat, vel v = n := ⟨(vel v).toNat, by omega⟩
  rw [hvn] at hn hz h1 ⊢
  refine Ri.of (by decide) rfl (by decide) (Nat.le_of_ble_eq_true rfl) ?_
  refine (show Ev _ none _ _ _ _ _ 0 [_, _, _, _] [] _ from ?_)
  refine ev_aload_0 (q := 1) dX8_add_0 rfl ?_
  refine ev_iload_1 (q := 2) dX8_add_1 rfl ?_
  refine ev_callV1i (q := 5) dX8_add_2 vs_RX8_47 (by first | assumption | rfl) (c_X8_isElement (by constructor <;> omega) (by omega)) (by decide) (Nat.le_of_ble_eq_true rfl) rfl (fun h_2 => ?_)
  refine ev_b_eq (t := 16) (q := 8) dX8_add_5 (by decide) rfl (fun h_5 => ?_) (fun h_5 => ?_)
  · refine ev_bipush (q := 18) dX8_add_16 rfl (by decide) ?_
    refine ev_ireturn dX8_add_18 rfl rfl (by constructor <;> omega) ?_
    exact ⟨_, rfl, rfl, Or.inl ⟨by omega, rfl, rfl⟩⟩
  · refine ev_iload_2 (q := 9) dX8_add_8 rfl ?_
    refine ev_iload_3 (q := 10) dX8_add_9 rfl ?_
    refine ev_callS2i (q := 13) dX8_add_10 ss_RX8_51 (c_X8_isDress (by constructor <;> omega) (by constructor <;> omega)) (by decide) (Nat.le_of_ble_eq_true rfl) rfl (fun h_10 => ?_)
    refine ev_b_ne (t := 19) (q := 16) dX8_add_13 (by decide) rfl (fun h_13 => ?_) (fun h_13 => ?_)
    · refine ev_aload_0 (q := 20) dX8_add_19 rfl ?_
      refine ev_getR (q := 23) dX8_add_20 fl_RX8_7 (by first | assumption | rfl) (by rfl) rfl ?_
      refine ev_iconst (q := 24) dX8_add_23 rfl ?_
      refine ev_iaload (q := 25) dX8_add_24 (by first | assumption | rfl) (by omega) (by first | decide | omega) rfl (fun h_24 => ?_)
      rw [z0, hn] at h_24 ⊢
      refine ev_bipush (q := 27) dX8_add_25 rfl (by decide) ?_
      refine ev_icmp_ne (t := 33) (q := 30) dX8_add_27 (by decide) rfl (by constructor <;> omega) (by constructor <;> omega) (fun h_27 => ?_) (fun h_27 => ?_)
      · refine ev_aload_0 (q := 34) dX8_add_33 rfl ?_
        refine ev_callV0v (q := 37) dX8_add_34 vs_RX8_55 (by first | assumption | rfl) (c_X8_records hH) (by decide) (Nat.le_of_ble_eq_true rfl) rfl ?_
        refine ev_aload_0 (q := 38) dX8_add_37 rfl ?_
        refine ev_getR (q := 41) dX8_add_38 fl_RX8_7 (by first | assumption | rfl) (by rfl) rfl ?_
        refine ev_iconst (q := 42) dX8_add_41 rfl ?_
        refine ev_aload_0 (q := 43) dX8_add_42 rfl ?_
        refine ev_getR (q := 46) dX8_add_43 fl_RX8_7 (by first | assumption | rfl) (by rfl) rfl ?_
        refine ev_iconst (q := 47) dX8_add_46 rfl ?_
        refine ev_iaload (q := 48) dX8_add_47 (by first | assumption | rfl) (by omega) (by first | decide | omega) rfl (fun h_47 => ?_)
        rw [z0, hz] at h_47 ⊢
        refine ev_iadd (q := 49) dX8_add_48 rfl ?_
        refine ev_iload_1 (q := 50) dX8_add_49 rfl ?_
        refine ev_iastore (q := 51) dX8_add_50 (by first | assumption | rfl) (by omega) (by first | decide | omega) (by constructor <;> omega) rfl ?_
        rw [show (2 + (n : Int)).toNat = 2 + n by omega]
        have hz1 : up (mrec M) 101 (2 + n) p 101 0 = n := by rw [show up (mrec M) 101 (2 + n) p 101 0 = mrec M 101 0 from if_neg (fun q => by have := q.2; omega)]; exact hz
        refine ev_aload_0 (q := 52) dX8_add_51 rfl ?_
        refine ev_getR (q := 55) dX8_add_52 fl_RX8_7 (by first | assumption | rfl) (by rfl) rfl ?_
        refine ev_bipush (q := 57) dX8_add_55 rfl (by decide) ?_
        refine ev_aload_0 (q := 58) dX8_add_57 rfl ?_
        refine ev_getR (q := 61) dX8_add_58 fl_RX8_7 (by first | assumption | rfl) (by rfl) rfl ?_
        refine ev_iconst (q := 62) dX8_add_61 rfl ?_
        refine ev_iaload (q := 63) dX8_add_62 (by first | assumption | rfl) (by omega) (by first | decide | omega) rfl (fun h_62 => ?_)
        rw [z0, hz1] at h_62 ⊢
        refine ev_iadd (q := 64) dX8_add_63 rfl ?_
        refine ev_iload_2 (q := 65) dX8_add_64 rfl ?_
        refine ev_iastore (q := 66) dX8_add_65 (by first | assumption | rfl) (by omega) (by first | decide | omega) (by constructor <;> omega) rfl ?_
        rw [show (18 + (n : Int)).toNat = 18 + n by omega]
        have hz2 : up (up (mrec M) 101 (2 + n) p) 101 (18 + n) k 101 0 = n := by rw [show up (up (mrec M) 101 (2 + n) p) 101 (18 + n) k 101 0 = up (mrec M) 101 (2 + n) p 101 0 from if_neg (fun q => by have := q.2; omega)]; exact hz1
        refine ev_aload_0 (q := 67) dX8_add_66 rfl ?_
        refine ev_getR (q := 70) dX8_add_67 fl_RX8_7 (by first | assumption | rfl) (by rfl) rfl ?_
        refine ev_bipush (q := 72) dX8_add_70 rfl (by decide) ?_
        refine ev_aload_0 (q := 73) dX8_add_72 rfl ?_
        refine ev_getR (q := 76) dX8_add_73 fl_RX8_7 (by first | assumption | rfl) (by rfl) rfl ?_
        refine ev_iconst (q := 77) dX8_add_76 rfl ?_
        refine ev_iaload (q := 78) dX8_add_77 (by first | assumption | rfl) (by omega) (by first | decide | omega) rfl (fun h_77 => ?_)
        rw [z0, hz2] at h_77 ⊢
        refine ev_iadd (q := 79) dX8_add_78 rfl ?_
        refine ev_iload_3 (q := 80) dX8_add_79 rfl ?_
        refine ev_iastore (q := 81) dX8_add_80 (by first | assumption | rfl) (by omega) (by first | decide | omega) (by constructor <;> omega) rfl ?_
        rw [show (34 + (n : Int)).toNat = 34 + n by omega]
        have hz3 : up (up (up (mrec M) 101 (2 + n) p) 101 (18 + n) k) 101 (34 + n) c 101 0 = n := by rw [show up (up (up (mrec M) 101 (2 + n) p) 101 (18 + n) k) 101 (34 + n) c 101 0 = up (up (mrec M) 101 (2 + n) p) 101 (18 + n) k 101 0 from if_neg (fun q => by have := q.2; omega)]; exact hz2
        refine ev_aload_0 (q := 82) dX8_add_81 rfl ?_
        refine ev_getR (q := 85) dX8_add_82 fl_RX8_7 (by first | assumption | rfl) (by rfl) rfl ?_
        refine ev_iconst (q := 86) dX8_add_85 rfl ?_
        refine ev_dup2 (q := 87) dX8_add_86 rfl ?_
        refine ev_iaload (q := 88) dX8_add_87 (by first | assumption | rfl) (by omega) (by first | decide | omega) rfl (fun h_87 => ?_)
        rw [z0, hz3] at h_87 ⊢
        refine ev_iconst (q := 89) dX8_add_88 rfl ?_
        refine ev_iadd (q := 90) dX8_add_89 rfl ?_
        refine ev_iastore (q := 91) dX8_add_90 (by first | assumption | rfl) (by omega) (by first | decide | omega) (by constructor <;> omega) rfl ?_
        rw [z0]
        refine ev_aload_0 (q := 92) dX8_add_91 rfl ?_
        refine ev_getR (q := 95) dX8_add_92 fl_RX8_7 (by first | assumption | rfl) (by rfl) rfl ?_
        refine ev_iconst (q := 96) dX8_add_95 rfl ?_
        refine ev_iaload (q := 97) dX8_add_96 (by first | assumption | rfl) (by omega) (by first | decide | omega) rfl (fun h_96 => ?_)
        rw [z0, show up (up (up (up (mrec M) 101 (2 + n) p) 101 (18 + n) k) 101 (34 + n) c) 101 0 ((n : Int) + 1) 101 0 = (n : Int) + 1 from if_pos ⟨rfl, rfl⟩] at h_96 ⊢
        refine ev_iconst (q := 98) dX8_add_97 rfl ?_
        refine ev_isub (q := 99) dX8_add_98 rfl ?_
        refine ev_ireturn dX8_add_99 rfl rfl (by constructor <;> omega) ?_
        refine ⟨_, rfl, rfl, Or.inr (Or.inr ⟨by omega, by omega, by omega, ?_, fun i hi => by rw [up_ne hi, up_ne hi, up_ne hi, up_ne hi]⟩)⟩
        unfold adF
        rw [up_f, up_f, up_f, up_f, mrec_101, hn, Int.toNat_natCast]
      · refine ev_bipush (q := 32) dX8_add_30 rfl (by decide) ?_
        refine ev_ireturn dX8_add_32 rfl rfl (by constructor <;> omega) ?_
        exact ⟨_, rfl, rfl, Or.inr (Or.inl ⟨by omega, by omega, rfl, rfl⟩)⟩
    · refine ev_bipush (q := 18) dX8_add_16 rfl (by decide) ?_
      refine ev_ireturn dX8_add_18 rfl rfl (by constructor <;> omega) ?_
      exact ⟨_, rfl, rfl, Or.inl ⟨by omega, rfl, rfl⟩⟩
def dreF (f : Nat → Int) (e : Nat) (k c : Int) : Nat → Int := fun i => if i = 34 + e then c else if i = 18 + e then k else f i
set_option maxHeartbeats 2000000 in
theorem m_dress {e k c : Int} (hA : Ag (M 101) v) (hW : Wf v) (hH : 0 ≤ M 100 2 ∧ M 100 2 ≤ 5) (he : inR e) (hk : inR k) (hc : inR c) : Ri l 2 kX8_dress yX8_dress S0 M [vr 100, vi e, vi k, vi c] (fun x M2 => (¬ ((0 ≤ e ∧ e < vel v) ∧ (0 ≤ k ∧ k ≤ 5) ∧ (0 ≤ c ∧ c ≤ 15)) ∧ x = -11 ∧ M2 = M) ∨ (((0 ≤ e ∧ e < vel v) ∧ (0 ≤ k ∧ k ≤ 5) ∧ (0 ≤ c ∧ c ≤ 15)) ∧ x = 16 * vknd v e.toNat + vcls v e.toNat ∧ Dm M (dreF (M 101) e.toNat k c) M2)) := by
  have h1 := hW.1
  have hn := hA.1
  refine Ri.of (by decide) rfl (by decide) (Nat.le_of_ble_eq_true rfl) ?_
  refine (show Ev _ none _ _ _ _ _ 0 [_, _, _, _, _] [] _ from ?_)
  refine ev_aload_0 (q := 1) dX8_dress_0 rfl ?_
  refine ev_iload_1 (q := 2) dX8_dress_1 rfl ?_
  refine ev_callV1i (q := 5) dX8_dress_2 vs_RX8_47 (by first | assumption | rfl) (c_X8_isElement (by constructor <;> omega) (by omega)) (by decide) (Nat.le_of_ble_eq_true rfl) rfl (fun h_2 => ?_)
  refine ev_b_eq (t := 16) (q := 8) dX8_dress_5 (by decide) rfl (fun h_5 => ?_) (fun h_5 => ?_)
  · refine ev_bipush (q := 18) dX8_dress_16 rfl (by decide) ?_
    refine ev_ireturn dX8_dress_18 rfl rfl (by constructor <;> omega) ?_
    exact ⟨_, rfl, rfl, Or.inl ⟨by omega, rfl, rfl⟩⟩
  · refine ev_iload_2 (q := 9) dX8_dress_8 rfl ?_
    refine ev_iload_3 (q := 10) dX8_dress_9 rfl ?_
    refine ev_callS2i (q := 13) dX8_dress_10 ss_RX8_51 (c_X8_isDress (by constructor <;> omega) (by constructor <;> omega)) (by decide) (Nat.le_of_ble_eq_true rfl) rfl (fun h_10 => ?_)
    refine ev_b_ne (t := 19) (q := 16) dX8_dress_13 (by decide) rfl (fun h_13 => ?_) (fun h_13 => ?_)
    · have hel := hA.2.2.1 e (by omega) (by omega)
      have hwe := hW.2.2.1 e.toNat (by omega)
      refine ev_aload_0 (q := 20) dX8_dress_19 rfl ?_
      refine ev_callV0v (q := 23) dX8_dress_20 vs_RX8_55 (by first | assumption | rfl) (c_X8_records hH) (by decide) (Nat.le_of_ble_eq_true rfl) rfl ?_
      refine ev_bipush (q := 25) dX8_dress_23 rfl (by decide) ?_
      refine ev_aload_0 (q := 26) dX8_dress_25 rfl ?_
      refine ev_getR (q := 29) dX8_dress_26 fl_RX8_7 (by first | assumption | rfl) (by rfl) rfl ?_
      refine ev_bipush (q := 31) dX8_dress_29 rfl (by decide) ?_
      refine ev_iload_1 (q := 32) dX8_dress_31 rfl ?_
      refine ev_iadd (q := 33) dX8_dress_32 rfl ?_
      refine ev_iaload (q := 34) dX8_dress_33 (by first | assumption | rfl) (by omega) (by first | decide | omega) rfl (fun h_33 => ?_)
      rw [mrec_101, hel.2.1] at h_33 ⊢
      refine ev_imul (q := 35) dX8_dress_34 rfl ?_
      refine ev_aload_0 (q := 36) dX8_dress_35 rfl ?_
      refine ev_getR (q := 39) dX8_dress_36 fl_RX8_7 (by first | assumption | rfl) (by rfl) rfl ?_
      refine ev_bipush (q := 41) dX8_dress_39 rfl (by decide) ?_
      refine ev_iload_1 (q := 42) dX8_dress_41 rfl ?_
      refine ev_iadd (q := 43) dX8_dress_42 rfl ?_
      refine ev_iaload (q := 44) dX8_dress_43 (by first | assumption | rfl) (by omega) (by first | decide | omega) rfl (fun h_43 => ?_)
      rw [mrec_101, hel.2.2] at h_43 ⊢
      refine ev_iadd (q := 45) dX8_dress_44 rfl ?_
      refine ev_istore_4 (q := 47) dX8_dress_45 rfl (by decide) ?_
      refine ev_aload_0 (q := 48) dX8_dress_47 rfl ?_
      refine ev_getR (q := 51) dX8_dress_48 fl_RX8_7 (by first | assumption | rfl) (by rfl) rfl ?_
      refine ev_bipush (q := 53) dX8_dress_51 rfl (by decide) ?_
      refine ev_iload_1 (q := 54) dX8_dress_53 rfl ?_
      refine ev_iadd (q := 55) dX8_dress_54 rfl ?_
      refine ev_iload_2 (q := 56) dX8_dress_55 rfl ?_
      refine ev_iastore (q := 57) dX8_dress_56 (by first | assumption | rfl) (by omega) (by first | decide | omega) (by constructor <;> omega) rfl ?_
      rw [show (18 + e).toNat = 18 + e.toNat by omega]
      refine ev_aload_0 (q := 58) dX8_dress_57 rfl ?_
      refine ev_getR (q := 61) dX8_dress_58 fl_RX8_7 (by first | assumption | rfl) (by rfl) rfl ?_
      refine ev_bipush (q := 63) dX8_dress_61 rfl (by decide) ?_
      refine ev_iload_1 (q := 64) dX8_dress_63 rfl ?_
      refine ev_iadd (q := 65) dX8_dress_64 rfl ?_
      refine ev_iload_3 (q := 66) dX8_dress_65 rfl ?_
      refine ev_iastore (q := 67) dX8_dress_66 (by first | assumption | rfl) (by omega) (by first | decide | omega) (by constructor <;> omega) rfl ?_
      rw [show (34 + e).toNat = 34 + e.toNat by omega]
      refine ev_iload_4 (q := 69) dX8_dress_67 rfl ?_
      refine ev_ireturn dX8_dress_69 rfl rfl (by constructor <;> omega) ?_
      refine ⟨_, rfl, rfl, Or.inr ⟨by omega, rfl, ?_, fun i hi => by rw [up_ne hi, up_ne hi]⟩⟩
      unfold dreF
      rw [up_f, up_f, mrec_101]
    · refine ev_bipush (q := 18) dX8_dress_16 rfl (by decide) ?_
      refine ev_ireturn dX8_dress_18 rfl rfl (by constructor <;> omega) ?_
      exact ⟨_, rfl, rfl, Or.inl ⟨by omega, rfl, rfl⟩⟩
end Recs

