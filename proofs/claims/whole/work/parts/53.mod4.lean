theorem agE_d {v : Vw} {r p : Nat} {s a b : Int} (h : AgE s a b (ven v r p)) : (0 ≤ s ∧ s ≤ 2) ∧ (0 < s ↔ dclV v p r = true) := by
  unfold dclV
  rw [decide_eq_true_iff]
  rcases h with ⟨q1, q2, q3, q4⟩ | ⟨q1, q2, q3, q4, q5⟩ | ⟨q1, q2, q3, q4, q5⟩ <;> rw [q2] <;> omega
theorem sy_N (r p : Nat) : (146 + 48 * (r : Int) + 3 * (p : Int)).toNat = 146 + 48 * r + 3 * p ∧ (146 + 48 * (r : Int) + 3 * (p : Int) + 1).toNat = 147 + 48 * r + 3 * p ∧ (146 + 48 * (r : Int) + 3 * (p : Int) + 2).toNat = 148 + 48 * r + 3 * p := by omega
set_option maxHeartbeats 1000000 in
theorem lp_X8_matching {l : Launch} {M : ev_M} {v : Vw} {e : Nat} (hA : Ag (M 101) v) (hW : Wf v) (he : (e : Int) < vel v) : ∀ (n j : Nat) (x y z : Int), x = j → j + n = (vrn v).toNat → y = cnt (fun r => fitB v r e) j → z = mtV v e → Ev l none 2 kX8_matching (0, 0) S0 M 4 [some (vr 100), some (vi (e : Int)), some (vi y), some (vi x)] [] (QX (some (vi z)) S0 M) := by
  have h2 := hW.2.1
  intro n
  induction n with
  | zero =>
    intro j x y z hx hn hy hz
    have hj : j = (vrn v).toNat := by omega
    have hc := cnt_rng (fun r => fitB v r e) j
    refine ev_iload_3 (q := 5) dX8_matching_4 rfl ?_
    refine ev_aload_0 (q := 6) dX8_matching_5 rfl ?_
    refine ev_getR (q := 9) dX8_matching_6 fl_RX8_7 (by first | assumption | rfl) (by rfl) rfl ?_
    refine ev_iconst (q := 10) dX8_matching_9 rfl ?_
    refine ev_iaload (q := 11) dX8_matching_10 (by first | assumption | rfl) (by omega) (by first | decide | omega) rfl (fun h_10 => ?_)
    rw [z1, hA.2.1] at h_10 ⊢
    refine ev_icmp_ge (t := 37) (q := 14) dX8_matching_11 (by decide) rfl (by constructor <;> omega) (by constructor <;> omega) (fun h_11 => ?_) (fun h_11 => ?_)
    · refine ev_iload_2 (q := 38) dX8_matching_37 rfl ?_
      refine ev_ireturn dX8_matching_38 rfl rfl (by constructor <;> omega) ?_
      exact ⟨by rw [hy, hz, hj]; rfl, rfl, rfl⟩
    · omega
  | succ n ih =>
    intro j x y z hx hn hy hz
    have hj : (j : Int) < vrn v := by omega
    have hc := cnt_rng (fun r => fitB v r e) j
    subst hx
    refine ev_iload_3 (q := 5) dX8_matching_4 rfl ?_
    refine ev_aload_0 (q := 6) dX8_matching_5 rfl ?_
    refine ev_getR (q := 9) dX8_matching_6 fl_RX8_7 (by first | assumption | rfl) (by rfl) rfl ?_
    refine ev_iconst (q := 10) dX8_matching_9 rfl ?_
    refine ev_iaload (q := 11) dX8_matching_10 (by first | assumption | rfl) (by omega) (by first | decide | omega) rfl (fun h_10 => ?_)
    rw [z1, hA.2.1] at h_10 ⊢
    refine ev_icmp_ge (t := 37) (q := 14) dX8_matching_11 (by decide) rfl (by constructor <;> omega) (by constructor <;> omega) (fun h_11 => ?_) (fun h_11 => ?_)
    · refine ev_iload_2 (q := 38) dX8_matching_37 rfl ?_
      refine ev_ireturn dX8_matching_38 rfl rfl (by constructor <;> omega) ?_
      omega
    · refine ev_iload_2 (q := 15) dX8_matching_14 rfl ?_
      refine ev_aload_0 (q := 16) dX8_matching_15 rfl ?_
      refine ev_iload_3 (q := 17) dX8_matching_16 rfl ?_
      refine ev_iload_1 (q := 18) dX8_matching_17 rfl ?_
      refine ev_callV2i (q := 21) dX8_matching_18 vs_RX8_65 (by first | assumption | rfl) (c_X8_meets hA hW hj he) (by decide) (Nat.le_of_ble_eq_true rfl) rfl (fun h_18 => ?_)
      refine ev_b_eq (t := 28) (q := 24) dX8_matching_21 (by decide) rfl (fun h_21 => ?_) (fun h_21 => ?_)
      · refine ev_iconst (q := 29) dX8_matching_28 rfl ?_
        refine ev_iadd (q := 30) dX8_matching_29 rfl ?_
        refine ev_istore_2 (q := 31) dX8_matching_30 rfl (by decide) ?_
        refine ev_iinc_3 (q := 34) dX8_matching_31 rfl (by decide) ?_
        refine ev_goto (q := 4) dX8_matching_34 (by decide) ?_
        refine ih (j + 1) _ _ _ rfl (by omega) ?_ hz
        unfold cnt
        rw [hy]
        first | (rw [if_pos h_21]; done) | (rw [if_neg h_21])
      · refine ev_iconst (q := 25) dX8_matching_24 rfl ?_
        refine ev_goto (q := 29) dX8_matching_25 (by decide) ?_
        refine ev_iadd (q := 30) dX8_matching_29 rfl ?_
        refine ev_istore_2 (q := 31) dX8_matching_30 rfl (by decide) ?_
        refine ev_iinc_3 (q := 34) dX8_matching_31 rfl (by decide) ?_
        refine ev_goto (q := 4) dX8_matching_34 (by decide) ?_
        refine ih (j + 1) _ _ _ rfl (by omega) ?_ hz
        unfold cnt
        rw [hy]
        first | (rw [if_pos h_21]; done) | (rw [if_neg h_21])
set_option maxHeartbeats 1000000 in
theorem c_X8_matching {l : Launch} {M : ev_M} {v : Vw} {e : Nat} (hA : Ag (M 101) v) (hW : Wf v) (he : (e : Int) < vel v) : Cx l 2 kX8_matching yX8_matching S0 M [vr 100, vi (e : Int)] (some (vi (mtV v e))) M := by
  have h2 := hW.2.1
  refine Cx.of (by decide) rfl (by decide) (Nat.le_of_ble_eq_true rfl) ?_
  refine (show Ev _ none _ _ _ _ _ 0 [_, _, _, _] [] _ from ?_)
  refine ev_iconst (q := 1) dX8_matching_0 rfl ?_
  refine ev_istore_2 (q := 2) dX8_matching_1 rfl (by decide) ?_
  refine ev_iconst (q := 3) dX8_matching_2 rfl ?_
  refine ev_istore_3 (q := 4) dX8_matching_3 rfl (by decide) ?_
  exact lp_X8_matching hA hW he (vrn v).toNat 0 _ _ _ rfl (by omega) rfl rfl
def can (v : Vw) (e p r : Nat) : Prop := dclV v p r = true ∧ fitB v r e = true
/-- the first n of f are the rules below j that count, the strongest first -/
def Ord (v : Vw) (e p j n : Nat) (f : Nat → Int) : Prop := n ≤ j ∧ (∀ k, k < n → ∃ r : Nat, f k = r ∧ r < j ∧ can v e p r) ∧ (∀ r, r < j → can v e p r → ∃ k, k < n ∧ f k = (r : Int)) ∧ ∀ k m, k < m → m < n → strV v (f m).toNat e < strV v (f k).toNat e
theorem strV_mod {v : Vw} {r e : Nat} (h : fitB v r e = true) (hr : r < 64) : strV v r e % 64 = r := by
  rw [strV, if_pos h]
  simp only [accV]
  rw [show rkV v r e 5 = r from rfl]
  simp
  omega
theorem ord_ins {v : Vw} {e p j n a : Nat} {f g : Nat → Int} (h : Ord v e p j n f) (hj : j < 64) (hc : can v e p j) (ha : a ≤ n) (g1 : ∀ k, k < a → g k = f k) (g2 : g a = (j : Int)) (g3 : ∀ k, a ≤ k → k < n → g (k + 1) = f k ∧ strV v (f k).toNat e < strV v j e) (g4 : ∀ k, k + 1 = a → ¬ strV v (f k).toNat e < strV v j e) : Ord v e p (j + 1) (n + 1) g := by
  obtain ⟨o1, o2, o3, o4⟩ := h
  have s1 : ∀ k, k < a → strV v j e < strV v (f k).toNat e := fun k hk => by
    have q1 := g4 (a - 1) (by omega)
    obtain ⟨r, e1, e2, e3⟩ := o2 (a - 1) (by omega)
    have m1 := strV_mod hc.2 hj
    have m2 := strV_mod e3.2 (show r < 64 by omega)
    rw [e1, Int.toNat_natCast] at q1
    have q2 : strV v j e < strV v r e := by omega
    by_cases q3 : k = a - 1
    · rw [q3, e1, Int.toNat_natCast]; exact q2
    · have := o4 k (a - 1) (by omega) (by omega)
      rw [e1, Int.toNat_natCast] at this
      omega
  refine ⟨by omega, ?_, ?_, ?_⟩
  · intro k hk
    rcases Nat.lt_trichotomy k a with q | q | q
    · obtain ⟨r, e1, e2, e3⟩ := o2 k (by omega)
      exact ⟨r, by rw [g1 k q, e1], by omega, e3⟩
    · exact ⟨j, by rw [q, g2], by omega, hc⟩
    · obtain ⟨k', rfl⟩ : ∃ k', k = k' + 1 := ⟨k - 1, by omega⟩
      obtain ⟨r, e1, e2, e3⟩ := o2 k' (by omega)
      exact ⟨r, by rw [(g3 k' (by omega) (by omega)).1, e1], by omega, e3⟩
  · intro r hr hcr
    by_cases q : r = j
    · exact ⟨a, by omega, by rw [g2, q]⟩
    · obtain ⟨k, k1, k2⟩ := o3 r (by omega) hcr
      by_cases q2 : k < a
      · exact ⟨k, by omega, by rw [g1 k q2, k2]⟩
      · exact ⟨k + 1, by omega, by rw [(g3 k (by omega) k1).1, k2]⟩
  · intro k m hkm hm
    rcases Nat.lt_trichotomy m a with q | q | q
    · rw [g1 m q, g1 k (by omega)]
      exact o4 k m hkm (by omega)
    · rw [q, g2, g1 k (by omega), Int.toNat_natCast]
      exact s1 k (by omega)
    · obtain ⟨m', rfl⟩ : ∃ m', m = m' + 1 := ⟨m - 1, by omega⟩
      have e3 := g3 m' (by omega) (by omega)
      rw [e3.1]
      rcases Nat.lt_trichotomy k a with q2 | q2 | q2
      · rw [g1 k q2]
        exact o4 k m' (by omega) (by omega)
      · rw [q2, g2, Int.toNat_natCast]
        exact e3.2
      · obtain ⟨k', rfl⟩ : ∃ k', k = k' + 1 := ⟨k - 1, by omega⟩
        rw [(g3 k' (by omega) (by omega)).1]
        exact o4 k' m' (by omega) (by omega)
/-- after the last rule: the order is the one of nth -/
theorem ord_nth {v : Vw} (hW : Wf v) {e p n : Nat} {f : Nat → Int} (h : Ord v e p (vrn v).toNat n f) : ∀ k, nth v e p k = if k < n then f k else -1 := by
  obtain ⟨o1, o2, o3, o4⟩ := h
  have h2 := hW.2.1
  have best : ∀ (lim : Int) (k : Nat), (∀ r : Nat, r < (vrn v).toNat → can v e p r → (strV v r e < lim ↔ ∃ m, k ≤ m ∧ m < n ∧ f m = (r : Int))) → stV v e p lim = if k < n then f k else -1 := by
    intro lim k hl
    have hb := bst_best (P := dclV v p) (s := fun r => strV v r e) (lim := lim) (vrn v).toNat (fun r hr => (strV_rng hW (e := e) (r := r) (by omega)).1)
    unfold stV
    rcases hb with ⟨q1, q2, q3⟩ | ⟨i, i1, i2, i3, i4, i5, i6, i7⟩
    · rw [q1]
      by_cases q : k < n
      · obtain ⟨r, e1, e2, e3⟩ := o2 k q
        have a1 := (hl r e2 e3).2 ⟨k, Nat.le_refl _, q, e1⟩
        have a2 := q3 r e2 e3.1
        have a3 : strV v r e ≠ -1 := by
          have := strV_mod e3.2 (show r < 64 by omega)
          omega
        rcases a2 with a2 | a2
        · exact absurd a2 a3
        · omega
      · rw [if_neg q]
    · rw [i2]
      have ci : can v e p i := ⟨i3, by
        cases hf : fitB v i e with
        | true => rfl
        | false =>
          have i5' : 0 ≤ strV v i e := i5
          rw [strV, hf, if_neg (show ¬ false = true by decide)] at i5'
          omega⟩
      obtain ⟨m, m1, m2, m3⟩ := (hl i i1 ci).1 i6
      rw [if_pos (by omega)]
      by_cases q : m = k
      · rw [← q, m3]
      · obtain ⟨r, e1, e2, e3⟩ := o2 k (by omega)
        have a1 := (hl r e2 e3).2 ⟨k, Nat.le_refl _, by omega, e1⟩
        have a2 := i7 r e2 e3.1 a1
        have a3 := o4 k m (by omega) m2
        rw [e1, m3, Int.toNat_natCast, Int.toNat_natCast] at a3
        have a4 : strV v r e ≤ strV v i e := a2
        omega
  intro k
  induction k with
  | zero =>
    refine best _ 0 (fun r hr hc => ⟨fun _ => ?_, fun _ => ?_⟩)
    · obtain ⟨k, k1, k2⟩ := o3 r hr hc
      exact ⟨k, by omega, k1, k2⟩
    · have := strV_rng hW (e := e) (r := r) (by omega)
      omega
  | succ k ih =>
    unfold nth
    rw [ih]
    by_cases q : k < n
    · obtain ⟨r, e1, e2, e3⟩ := o2 k q
      rw [if_pos q, e1, if_neg (by omega), Int.toNat_natCast]
      refine best _ (k + 1) (fun r' hr hc => ⟨fun a => ?_, fun a => ?_⟩)
      · obtain ⟨m, m1, m2⟩ := o3 r' hr hc
        refine ⟨m, ?_, m1, m2⟩
        rcases Nat.lt_trichotomy m k with z | z | z
        · have := o4 m k z q
          rw [e1, m2, Int.toNat_natCast, Int.toNat_natCast] at this
          omega
        · have : r' = r := by rw [z, e1] at m2; omega
          rw [this] at a
          omega
        · exact z
      · obtain ⟨m, m1, m2, m3⟩ := a
        have := o4 k m (by omega) m2
        rw [e1, m3, Int.toNat_natCast, Int.toNat_natCast] at this
        exact this
    · rw [if_neg q, if_pos rfl, if_neg (by omega)]

