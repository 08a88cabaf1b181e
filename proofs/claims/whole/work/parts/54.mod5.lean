section Ords
variable {l : Launch} {M : ev_M} {v : Vw} {e p j n : Nat}
/-- only the order is changed -/
def O9 (M M2 : ev_M) : Prop := ∀ i, i ≠ 109 → M2 i = M i
set_option maxHeartbeats 2000000 in
theorem t_orders_89 {f : Nat → Int} {Q : Option ev_V → List ev_Sh → ev_M → Prop} (hj : (j : Int) < vrn v) (hO : Ord v e p j n f) (hc : can v e p j) (K : ∀ (M3 : ev_M) (w : Option ev_V), O9 M M3 → Ord v e p (j + 1) (n + 1) (M3 109) → Ev l none 3 kX8_orders (0, 0) S0 M3 101 [some (vr 100), some (vi (e : Int)), some (vi (p : Int)), some (vi ((n : Int) + 1)), some (vi (j : Int)), w] [] Q) (hj2 : vrn v ≤ 16) (a : Nat) (x : Int) (M1 : ev_M) (hx : x = a) (h1 : O9 M M1) (ha : a ≤ n) (g1 : ∀ k, k < a → M1 109 k = f k) (g3 : ∀ k, a ≤ k → k < n → M1 109 (k + 1) = f k ∧ strV v (f k).toNat e < strV v j e) (g4 : ∀ k, k + 1 = a → ¬ strV v (f k).toNat e < strV v j e) : Ev l none 3 kX8_orders (0, 0) S0 M1 89 [some (vr 100), some (vi (e : Int)), some (vi (p : Int)), some (vi (n : Int)), some (vi (j : Int)), some (vi x)] [] Q := by
  have hn := hO.1
  subst hx
  refine ev_aload_0 (q := 90) dX8_orders_89 rfl ?_
  refine ev_getR (q := 93) dX8_orders_90 fl_RX8_36 (by first | assumption | rfl) (by rfl) rfl ?_
  refine ev_iload_5 (q := 95) dX8_orders_93 rfl ?_
  refine ev_iload_4 (q := 97) dX8_orders_95 rfl ?_
  refine ev_iastore (q := 98) dX8_orders_97 (by first | assumption | rfl) (by omega) (by first | decide | omega) (by constructor <;> omega) rfl ?_
  refine ev_iinc_3 (q := 101) dX8_orders_98 rfl (by decide) ?_
  refine K _ _ (fun i hi => by rw [up_ne hi]; exact h1 i hi) ?_
  rw [Int.toNat_natCast]
  refine ord_ins hO (by omega) hc ha (fun k hk => ?_) (if_pos ⟨rfl, rfl⟩) (fun k q1 q2 => ?_) g4
  · rw [show up M1 109 a (j : Int) 109 k = M1 109 k from if_neg (fun q => by have := q.2; omega)]
    exact g1 k hk
  · rw [show up M1 109 a (j : Int) 109 (k + 1) = M1 109 (k + 1) from if_neg (fun q => by have := q.2; omega)]
    exact g3 k q1 q2
set_option maxHeartbeats 2000000 in
theorem lp_ins {f : Nat → Int} {Q : Option ev_V → List ev_Sh → ev_M → Prop} (hA : Ag (M 101) v) (hW : Wf v) (he : (e : Int) < vel v) (hO : Ord v e p j n f) (hj : (j : Int) < vrn v) (hc : can v e p j) (K : ∀ (M3 : ev_M) (w : Option ev_V), O9 M M3 → Ord v e p (j + 1) (n + 1) (M3 109) → Ev l none 3 kX8_orders (0, 0) S0 M3 101 [some (vr 100), some (vi (e : Int)), some (vi (p : Int)), some (vi ((n : Int) + 1)), some (vi (j : Int)), w] [] Q) : ∀ (a : Nat) (x : Int) (M1 : ev_M), x = a → O9 M M1 → a ≤ n → (∀ k, k < a → M1 109 k = f k) → (∀ k, a ≤ k → k < n → M1 109 (k + 1) = f k ∧ strV v (f k).toNat e < strV v j e) → Ev l none 3 kX8_orders (0, 0) S0 M1 43 [some (vr 100), some (vi (e : Int)), some (vi (p : Int)), some (vi (n : Int)), some (vi (j : Int)), some (vi x)] [] Q := by
  have h2 := hW.2.1
  have hn := hO.1
  intro a
  induction a with
  | zero =>
    intro x M1 hx h1 ha g1 g3
    refine ev_iload_5 (q := 45) dX8_orders_43 rfl ?_
    refine ev_if_le (t := 89) (q := 48) dX8_orders_45 (by decide) rfl (by constructor <;> omega) (fun h_45 => ?_) (fun h_45 => ?_)
    · exact t_orders_89 (f := f) hj hO hc K h2.2 0 _ _ hx h1 ha g1 g3 (fun k hk => by omega)
    · omega
  | succ a ih =>
    intro x M1 hx h1 ha g1 g3
    obtain ⟨r, e1, e2, e3⟩ := hO.2.1 a (by omega)
    have hr : (r : Int) < vrn v := by omega
    have hm : M1 109 (x - 1).toNat = (r : Int) := by rw [show (x - 1).toNat = a by omega, g1 a (by omega), e1]
    have hA1 : Ag (M1 101) v := by rw [h1 101 (by decide)]; exact hA
    have hp := (wnV_pos hW hj hr hc.2 e3.2).1
    have hwr : -5 ≤ wnV v e j r ∧ wnV v e j r ≤ 5 := by unfold wnV; (repeat' split) <;> omega
    refine ev_iload_5 (q := 45) dX8_orders_43 rfl ?_
    refine ev_if_le (t := 89) (q := 48) dX8_orders_45 (by decide) rfl (by constructor <;> omega) (fun h_45 => ?_) (fun h_45 => ?_)
    · first
      | omega
      | exact t_orders_89 (f := f) hj hO hc K h2.2 (a + 1) _ _ hx h1 ha g1 g3 (fun k hk => by
          have : k = a := by omega
          rw [this, e1, Int.toNat_natCast]
          exact fun q => absurd (hp.2 q) (by omega))
    · refine ev_aload_0 (q := 49) dX8_orders_48 rfl ?_
      refine ev_iload_1 (q := 50) dX8_orders_49 rfl ?_
      refine ev_iload_4 (q := 52) dX8_orders_50 rfl ?_
      refine ev_aload_0 (q := 53) dX8_orders_52 rfl ?_
      refine ev_getR (q := 56) dX8_orders_53 fl_RX8_36 (by first | assumption | rfl) (by rfl) rfl ?_
      refine ev_iload_5 (q := 58) dX8_orders_56 rfl ?_
      refine ev_iconst (q := 59) dX8_orders_58 rfl ?_
      refine ev_isub (q := 60) dX8_orders_59 rfl ?_
      refine ev_iaload (q := 61) dX8_orders_60 (by first | assumption | rfl) (by omega) (by first | decide | omega) rfl (fun h_60 => ?_)
      rw [hm] at h_60 ⊢
      refine ev_callV3i (q := 64) dX8_orders_61 vs_RX8_111 (by first | assumption | rfl) (c_X8_wins hA1 hW he hj hr hc.2 e3.2) (by decide) (Nat.le_of_ble_eq_true rfl) rfl (fun h_61 => ?_)
      refine ev_if_le (t := 89) (q := 67) dX8_orders_64 (by decide) rfl (by constructor <;> omega) (fun h_64 => ?_) (fun h_64 => ?_)
      · first
        | omega
        | exact t_orders_89 (f := f) hj hO hc K h2.2 (a + 1) _ _ hx h1 ha g1 g3 (fun k hk => by
            have : k = a := by omega
            rw [this, e1, Int.toNat_natCast]
            exact fun q => absurd (hp.2 q) (by omega))
      · refine ev_aload_0 (q := 68) dX8_orders_67 rfl ?_
        refine ev_getR (q := 71) dX8_orders_68 fl_RX8_36 (by first | assumption | rfl) (by rfl) rfl ?_
        refine ev_iload_5 (q := 73) dX8_orders_71 rfl ?_
        refine ev_aload_0 (q := 74) dX8_orders_73 rfl ?_
        refine ev_getR (q := 77) dX8_orders_74 fl_RX8_36 (by first | assumption | rfl) (by rfl) rfl ?_
        refine ev_iload_5 (q := 79) dX8_orders_77 rfl ?_
        refine ev_iconst (q := 80) dX8_orders_79 rfl ?_
        refine ev_isub (q := 81) dX8_orders_80 rfl ?_
        refine ev_iaload (q := 82) dX8_orders_81 (by first | assumption | rfl) (by omega) (by first | decide | omega) rfl (fun h_81 => ?_)
        rw [hm] at h_81 ⊢
        refine ev_iastore (q := 83) dX8_orders_82 (by first | assumption | rfl) (by omega) (by first | decide | omega) (by constructor <;> omega) rfl ?_
        refine ev_iinc_5 (q := 86) dX8_orders_83 rfl (by decide) ?_
        refine ev_goto (q := 43) dX8_orders_86 (by decide) ?_
        refine ih _ _ (by omega) (fun i hi => by rw [up_ne hi]; exact h1 i hi) (by omega) (fun k hk => ?_) (fun k q1 q2 => ?_)
        · rw [show up M1 109 x.toNat (r : Int) 109 k = M1 109 k from if_neg (fun q => by have := q.2; omega)]
          exact g1 k (by omega)
        · by_cases q : k = a
          · rw [q, e1, Int.toNat_natCast]
            exact ⟨if_pos ⟨rfl, by omega⟩, hp.1 (by omega)⟩
          · rw [show up M1 109 x.toNat (r : Int) 109 (k + 1) = M1 109 (k + 1) from if_neg (fun q => by have := q.2; omega)]
            exact g3 k (by omega) q2
set_option maxHeartbeats 2000000 in
theorem lp_orders (hA : Ag (M 101) v) (hW : Wf v) (he : (e : Int) < vel v) (hp : p < 16) : ∀ (m j n : Nat) (M1 : ev_M) (w5 : Option ev_V), j + m = (vrn v).toNat → O9 M M1 → Ord v e p j n (M1 109) → Ev l none 3 kX8_orders (0, 0) S0 M1 5 [some (vr 100), some (vi (e : Int)), some (vi (p : Int)), some (vi (n : Int)), some (vi (j : Int)), w5] [] (QI S0 (fun x M2 => ∃ n : Nat, x = (n : Int) ∧ Ord v e p (vrn v).toNat n (M2 109) ∧ O9 M M2)) := by
  have h2 := hW.2.1
  intro m
  induction m with
  | zero =>
    intro j n M1 w5 hm h1 hO
    have hj : j = (vrn v).toNat := by omega
    have hn := hO.1
    have hA1 : Ag (M1 101) v := by rw [h1 101 (by decide)]; exact hA
    refine ev_iload_4 (q := 7) dX8_orders_5 rfl ?_
    refine ev_aload_0 (q := 8) dX8_orders_7 rfl ?_
    refine ev_getR (q := 11) dX8_orders_8 fl_RX8_7 (by first | assumption | rfl) (by rfl) rfl ?_
    refine ev_iconst (q := 12) dX8_orders_11 rfl ?_
    refine ev_iaload (q := 13) dX8_orders_12 (by first | assumption | rfl) (by omega) (by first | decide | omega) rfl (fun h_12 => ?_)
    rw [z1, hA1.2.1] at h_12 ⊢
    refine ev_icmp_ge (t := 107) (q := 16) dX8_orders_13 (by decide) rfl (by constructor <;> omega) (by constructor <;> omega) (fun h_13 => ?_) (fun h_13 => ?_)
    · refine ev_iload_3 (q := 108) dX8_orders_107 rfl ?_
      refine ev_ireturn dX8_orders_108 rfl rfl (by constructor <;> omega) ?_
      exact ⟨_, rfl, rfl, n, rfl, hj ▸ hO, h1⟩
    · omega
  | succ m ih =>
    intro j n M1 w5 hm h1 hO
    have hj : (j : Int) < vrn v := by omega
    have hn := hO.1
    have hA1 : Ag (M1 101) v := by rw [h1 101 (by decide)]; exact hA
    have hE := agE_d (hA1.2.2.2.2 j p hj hp)
    have hsy := (sy_N j p).1
    have hskip : ¬ can v e p j → Ord v e p (j + 1) n (M1 109) := fun q => ⟨by omega, fun k hk => by
      obtain ⟨r, e1, e2, e3⟩ := hO.2.1 k hk
      exact ⟨r, e1, by omega, e3⟩, fun r hr hc => hO.2.2.1 r (by
        by_cases z : r = j
        · rw [z] at hc; exact absurd hc q
        · omega) hc, hO.2.2.2⟩
    refine ev_iload_4 (q := 7) dX8_orders_5 rfl ?_
    refine ev_aload_0 (q := 8) dX8_orders_7 rfl ?_
    refine ev_getR (q := 11) dX8_orders_8 fl_RX8_7 (by first | assumption | rfl) (by rfl) rfl ?_
    refine ev_iconst (q := 12) dX8_orders_11 rfl ?_
    refine ev_iaload (q := 13) dX8_orders_12 (by first | assumption | rfl) (by omega) (by first | decide | omega) rfl (fun h_12 => ?_)
    rw [z1, hA1.2.1] at h_12 ⊢
    refine ev_icmp_ge (t := 107) (q := 16) dX8_orders_13 (by decide) rfl (by constructor <;> omega) (by constructor <;> omega) (fun h_13 => ?_) (fun h_13 => ?_)
    · refine ev_iload_3 (q := 108) dX8_orders_107 rfl ?_
      refine ev_ireturn dX8_orders_108 rfl rfl (by constructor <;> omega) ?_
      omega
    · refine ev_aload_0 (q := 17) dX8_orders_16 rfl ?_
      refine ev_getR (q := 20) dX8_orders_17 fl_RX8_7 (by first | assumption | rfl) (by rfl) rfl ?_
      refine ev_iload_4 (q := 22) dX8_orders_20 rfl ?_
      refine ev_iload_2 (q := 23) dX8_orders_22 rfl ?_
      refine ev_callS2i (q := 26) dX8_orders_23 ss_RX8_78 (c_X8_says (by omega) (by omega)) (by decide) (Nat.le_of_ble_eq_true rfl) rfl (fun h_23 => ?_)
      refine ev_iaload (q := 27) dX8_orders_26 (by first | assumption | rfl) (by omega) (by first | decide | omega) rfl (fun h_26 => ?_)
      rw [hsy] at h_26 ⊢
      refine ev_if_le (t := 101) (q := 30) dX8_orders_27 (by decide) rfl (by constructor <;> omega) (fun h_27 => ?_) (fun h_27 => ?_)
      · refine ev_iinc_4 (q := 104) dX8_orders_101 rfl (by decide) ?_
        refine ev_goto (q := 5) dX8_orders_104 (by decide) ?_
        refine ih (j + 1) n _ _ (by omega) h1 (hskip ?_)
        first
        | exact fun q => h_37 q.2
        | exact fun q => absurd (hE.2.2 q.1) (by omega)
      · refine ev_aload_0 (q := 31) dX8_orders_30 rfl ?_
        refine ev_iload_4 (q := 33) dX8_orders_31 rfl ?_
        refine ev_iload_1 (q := 34) dX8_orders_33 rfl ?_
        refine ev_callV2i (q := 37) dX8_orders_34 vs_RX8_65 (by first | assumption | rfl) (c_X8_meets hA1 hW hj he) (by decide) (Nat.le_of_ble_eq_true rfl) rfl (fun h_34 => ?_)
        refine ev_b_eq (t := 101) (q := 40) dX8_orders_37 (by decide) rfl (fun h_37 => ?_) (fun h_37 => ?_)
        · refine ev_iinc_4 (q := 104) dX8_orders_101 rfl (by decide) ?_
          refine ev_goto (q := 5) dX8_orders_104 (by decide) ?_
          refine ih (j + 1) n _ _ (by omega) h1 (hskip ?_)
          first
          | exact fun q => h_37 q.2
          | exact fun q => absurd (hE.2.2 q.1) (by omega)
        · refine ev_iload_3 (q := 41) dX8_orders_40 rfl ?_
          refine ev_istore_5 (q := 43) dX8_orders_41 rfl (by decide) ?_
          refine lp_ins (f := M1 109) hA hW he hO hj ⟨hE.2.1 (by omega), h_37⟩ (fun M3 w a1 a2 => ?_) n _ _ rfl h1 (Nat.le_refl _) (fun _ _ => rfl) (fun k q1 q2 => by omega)
          refine ev_iinc_4 (q := 104) dX8_orders_101 rfl (by decide) ?_
          refine ev_goto (q := 5) dX8_orders_104 (by decide) ?_
          exact ih (j + 1) (n + 1) _ _ (by omega) a1 a2
set_option maxHeartbeats 1000000 in
theorem c_X8_orders (hA : Ag (M 101) v) (hW : Wf v) (he : (e : Int) < vel v) (hp : p < 16) : Ri l 3 kX8_orders yX8_orders S0 M [vr 100, vi (e : Int), vi (p : Int)] (fun x M2 => ∃ n : Nat, x = (n : Int) ∧ Ord v e p (vrn v).toNat n (M2 109) ∧ O9 M M2) := by
  have h2 := hW.2.1
  refine Ri.of (by decide) rfl (by decide) (Nat.le_of_ble_eq_true rfl) ?_
  refine (show Ev _ none _ _ _ _ _ 0 [_, _, _, _, _, _] [] _ from ?_)
  refine ev_iconst (q := 1) dX8_orders_0 rfl ?_
  refine ev_istore_3 (q := 2) dX8_orders_1 rfl (by decide) ?_
  refine ev_iconst (q := 3) dX8_orders_2 rfl ?_
  refine ev_istore_4 (q := 5) dX8_orders_3 rfl (by decide) ?_
  exact lp_orders hA hW he hp (vrn v).toNat 0 0 _ _ (by omega) (fun _ _ => rfl) ⟨Nat.le_refl _, fun k hk => by omega, fun r hr _ => by omega, fun k m _ hm => by omega⟩
set_option maxHeartbeats 1000000 in
theorem c_X8_winnerOf (hA : Ag (M 101) v) (hW : Wf v) (he : (e : Int) < vel v) (hp : p < 16) : Ri l 4 kX8_winnerOf yX8_winnerOf S0 M [vr 100, vi (e : Int), vi (p : Int)] (fun x M2 => x = winV v e p ∧ O9 M M2) := by
  have hw := winV_rng hW e p
  refine Ri.of (by decide) rfl (by decide) (Nat.le_of_ble_eq_true rfl) ?_
  refine (show Ev _ none _ _ _ _ _ 0 [_, _, _] [] _ from ?_)
  refine ev_aload_0 (q := 1) dX8_winnerOf_0 rfl ?_
  refine ev_iload_1 (q := 2) dX8_winnerOf_1 rfl ?_
  refine ev_iload_2 (q := 3) dX8_winnerOf_2 rfl ?_
  refine ev_callV2iR (q := 6) dX8_winnerOf_3 vs_RX8_115 (by first | assumption | rfl) (c_X8_orders hA hW he hp) (by decide) (Nat.le_of_ble_eq_true rfl) rfl (fun x_3 M_3 hq_3 h_3 => ?_)
  obtain ⟨n, rfl, o1, o2⟩ := hq_3
  have hn : winV v e p = if 0 < n then M_3 109 0 else -1 := ord_nth hW o1 0
  refine ev_if_ne (t := 13) (q := 9) dX8_winnerOf_6 (by decide) rfl (by constructor <;> omega) (fun h_6 => ?_) (fun h_6 => ?_)
  · refine ev_aload_0 (q := 14) dX8_winnerOf_13 rfl ?_
    refine ev_getR (q := 17) dX8_winnerOf_14 fl_RX8_36 (by first | assumption | rfl) (by rfl) rfl ?_
    refine ev_iconst (q := 18) dX8_winnerOf_17 rfl ?_
    refine ev_iaload (q := 19) dX8_winnerOf_18 (by first | assumption | rfl) (by omega) (by first | decide | omega) rfl (fun h_18 => ?_)
    first | (rw [z0] at h_18 ⊢; rw [if_pos (by omega)] at hn; rw [← hn] at h_18 ⊢) | (rw [if_neg (by omega)] at hn; rw [← hn])
    refine ev_ireturn dX8_winnerOf_19 rfl rfl (by constructor <;> omega) ?_
    exact ⟨_, rfl, rfl, rfl, o2⟩
  · refine ev_iconst (q := 10) dX8_winnerOf_9 rfl ?_
    refine ev_goto (q := 19) dX8_winnerOf_10 (by decide) ?_
    first | (rw [z0] at h_18 ⊢; rw [if_pos (by omega)] at hn; rw [← hn] at h_18 ⊢) | (rw [if_neg (by omega)] at hn; rw [← hn])
    refine ev_ireturn dX8_winnerOf_19 rfl rfl (by constructor <;> omega) ?_
    exact ⟨_, rfl, rfl, rfl, o2⟩
end Ords

