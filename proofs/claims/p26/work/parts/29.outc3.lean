def dclV (v : Vw) (p r : Nat) : Bool := decide (ven v r p 0 ≠ -1 ∨ ven v r p 1 ≠ -1)
def stV (v : Vw) (e p : Nat) (lim : Int) : Int := (bst (dclV v p) (fun r => strV v r e) lim (vrn v).toNat).1
def winV (v : Vw) (e p : Nat) : Int := stV v e p 1073741824
/-- where the winner of pl on e refers -/
def ldV (v : Vw) (e : Nat) (pl : Int) : Int := if winV v e pl.toNat = -1 then -1 else ven v (winV v e pl.toNat).toNat pl.toNat 1
def cyL (f : Int → Int) (c : Int) : Nat → Int → Int → Int
  | 0, _, _ => 0
  | n + 1, pl, s => if pl = -1 then 0 else if f pl = c then s else cyL f c n (f pl) (s + 1)
def cycV (v : Vw) (e : Nat) (c : Int) : Int := cyL (ldV v e) c 8 c 1
theorem bst_congr {P P' : Nat → Bool} {s s' : Nat → Int} {lim : Int} : ∀ n, (∀ r, r < n → P r = P' r ∧ s r = s' r) → bst P s lim n = bst P' s' lim n
  | 0, _ => rfl
  | n + 1, h => by
    have h1 := bst_congr n (fun r hr => h r (by omega)) (P := P) (P' := P') (s := s) (s' := s') (lim := lim)
    obtain ⟨h2, h3⟩ := h n (by omega)
    unfold bst
    rw [h1, h2, h3]
theorem dcl_V {M : ev_M} (r p : Nat) : dcl M 13 r p = dclV (cV M 1) p r := by
  unfold dcl dclV
  rw [show ((r : Int) * 48 + (p : Int) * 3 + 0).toNat = 48 * r + 3 * p + 0 by omega, show ((r : Int) * 48 + (p : Int) * 3 + 1).toNat = 48 * r + 3 * p + 1 by omega]
  rfl
theorem stV_rng {v : Vw} (h : Wf v) (e p : Nat) (lim : Int) : -1 ≤ stV v e p lim ∧ stV v e p lim < vrn v ∧ stV v e p lim < 16 := by
  have := bst_rng (dclV v p) (fun r => strV v r e) lim (vrn v).toNat
  have h2 := h.2.1
  unfold stV
  omega
theorem ldV_rng {v : Vw} (h : Wf v) (e : Nat) {pl : Int} (hp : 0 ≤ pl ∧ pl < 16) : ldV v e pl = -1 ∨ 8 ≤ ldV v e pl ∧ ldV v e pl ≤ 15 := by
  have h1 := stV_rng h e pl.toNat 1073741824
  unfold ldV
  by_cases hw : winV v e pl.toNat = -1
  · rw [if_pos hw]; exact Or.inl rfl
  · rw [if_neg hw]
    unfold winV at hw
    exact (h.2.2.2.2 (winV v e pl.toNat).toNat pl.toNat (by unfold winV; omega) (by omega)).2.1
theorem cyL_rng (f : Int → Int) (c : Int) : ∀ (n : Nat) (pl s : Int), 0 ≤ s → 0 ≤ cyL f c n pl s ∧ cyL f c n pl s < s + n + 1
  | 0, _, _, h => by unfold cyL; omega
  | n + 1, pl, s, h => by
    have := cyL_rng f c n (f pl) (s + 1) (by omega)
    unfold cyL
    split
    · omega
    · split <;> omega
theorem strV_rng {v : Vw} (h : Wf v) {r e : Nat} (hr : (r : Int) < vrn v) : -1 ≤ strV v r e ∧ strV v r e < 1073741824 := by
  have := accV_rng h (e := e) hr 6 (by omega)
  unfold strV
  split <;> omega
theorem c_X1_strongestV {l : Launch} {M : ev_M} {v : Vw} {e p : Nat} {lim : Int} (hR : RM M) (hv : cV M 1 = v) (h : Wf v) (he : e < 16) (hp : p < 16) (hlim : inR lim) (hrn : M 81 2 = vrn v) (hs : ∀ r : Nat, (r : Int) < vrn v → M 83 (16 * e + r) = strV v r e) : Cx l 3 kX1_strongest yX1_strongest S0 M [vr 81, vr 9, vi (e : Int), vi (p : Int), vi lim] (some (vi (stV v e p lim))) M := by
  have h2 := h.2.1
  have := c_X1_strongest (l := l) hR (x := e) (y := p) (lim := lim) (by omega) (by omega) hlim (by rw [hrn]; exact h2)
  rw [hrn, bst_congr (P' := dclV v p) (s' := fun r => strV v r e) (vrn v).toNat (fun r hr => ⟨by rw [dcl_V, hv], by
    show M 83 ((e : Int) * 16 + (r : Int)).toNat = _
    rw [show ((e : Int) * 16 + (r : Int)).toNat = 16 * e + r by omega]
    exact hs r (by omega)⟩)] at this
  exact this
theorem c_X3_entryN {l : Launch} {M : ev_M} {v : Vw} {r p w : Nat} {x y : Int} (hv : cV M 1 = v) (hr : x = r ∧ r < 16) (hp : y = p ∧ p < 16) (hw : w < 3) : Cx l 1 kX3_entry yX3_entry S0 M [vr 9, vi x, vi y, vi (w : Int)] (some (vi (ven v r p w))) M := by
  have := c_X3_entry9 (l := l) (M := M) (r := x) (p := y) (w := w) (by omega) (by omega) (by omega)
  rw [show (x * 48 + y * 3 + (w : Int)).toNat = 48 * r + 3 * p + w by omega] at this
  rw [← hv]
  exact this
set_option maxHeartbeats 2000000 in
theorem lp_X1_cycleFrom {l : Launch} {M : ev_M} {v : Vw} {e : Nat} {c : Int} (hv : cV M 1 = v) (h : Wf v) (he : e < 16) (hc : 8 ≤ c ∧ c ≤ 15) (hw : ∀ p : Nat, p < 16 → M 85 (16 * e + p) = winV v e p) : ∀ (n : Nat) (pl s z : Int) (w : Option ev_V), s = 9 - (n : Int) → n ≤ 8 → (pl = -1 ∨ 8 ≤ pl ∧ pl ≤ 15) → z = cyL (ldV v e) c n pl s → Ev l none 2 kX1_cycleFrom (0, 0) S0 M 6 [some (vr 81), some (vr 9), some (vi (e : Int)), some (vi c), some (vi pl), some (vi s), w] [] (QX (some (vi z)) S0 M) := by
  intro n
  induction n with
  | zero =>
    intro pl s z w hs hn hpl hz
    refine ev_iload_5 (q := 8) dX1_cycleFrom_6 rfl ?_
    refine ev_bipush (q := 10) dX1_cycleFrom_8 rfl (by decide) ?_
    refine ev_icmp_gt (t := 64) (q := 13) dX1_cycleFrom_10 (by decide) rfl (by constructor <;> omega) (by constructor <;> omega) (fun h_10 => ?_) (fun h_10 => ?_)
    · refine ev_iconst (q := 65) dX1_cycleFrom_64 rfl ?_
      refine ev_ireturn dX1_cycleFrom_65 rfl rfl (by constructor <;> omega) ?_
      exact ⟨by rw [hz]; rfl, rfl, rfl⟩
    · omega
  | succ n ih =>
    intro pl s z w hs hn hpl hz
    have h1 := stV_rng h e pl.toNat 1073741824
    have hld := fun q : 0 ≤ pl ∧ pl < 16 => ldV_rng h e q
    have hwp : pl ≠ -1 → M 85 ((e : Int) * 16 + pl).toNat = winV v e pl.toNat := fun q => by
      rw [show ((e : Int) * 16 + pl).toNat = 16 * e + pl.toNat by omega]
      exact hw _ (by omega)
    unfold cyL at hz
    have hcy := cyL_rng (ldV v e) c n (ldV v e pl) (s + 1) (by omega)
    have hst : ∀ (t : Int) (w1 : Option ev_V), pl ≠ -1 → t = ldV v e pl → Ev l none 2 kX1_cycleFrom (0, 0) S0 M 47 [some (vr 81), some (vr 9), some (vi (e : Int)), some (vi c), some (vi pl), some (vi s), w1] [vi t] (QX (some (vi z)) S0 M) := by
      intro t w1 hp ht
      have := hld (by omega)
      rw [if_neg hp] at hz
      refine ev_istore_4 (q := 49) dX1_cycleFrom_47 rfl (by decide) ?_
      refine ev_iload_4 (q := 51) dX1_cycleFrom_49 rfl ?_
      refine ev_iload_3 (q := 52) dX1_cycleFrom_51 rfl ?_
      refine ev_icmp_ne (t := 58) (q := 55) dX1_cycleFrom_52 (by decide) rfl (by constructor <;> omega) (by constructor <;> omega) (fun h_52 => ?_) (fun h_52 => ?_)
      · refine ev_iinc_5 (q := 61) dX1_cycleFrom_58 rfl (by decide) ?_
        refine ev_goto (q := 6) dX1_cycleFrom_61 (by decide) ?_
        refine ih _ _ _ _ (by omega) (by omega) (by omega) ?_
        rw [hz, if_neg (by omega), ht]
      · refine ev_iload_5 (q := 57) dX1_cycleFrom_55 rfl ?_
        refine ev_ireturn dX1_cycleFrom_57 rfl rfl (by constructor <;> omega) ?_
        exact ⟨by rw [hz, if_pos (by omega)], rfl, rfl⟩
    refine ev_iload_5 (q := 8) dX1_cycleFrom_6 rfl ?_
    refine ev_bipush (q := 10) dX1_cycleFrom_8 rfl (by decide) ?_
    refine ev_icmp_gt (t := 64) (q := 13) dX1_cycleFrom_10 (by decide) rfl (by constructor <;> omega) (by constructor <;> omega) (fun h_10 => ?_) (fun h_10 => ?_)
    · refine ev_iconst (q := 65) dX1_cycleFrom_64 rfl ?_
      refine ev_ireturn dX1_cycleFrom_65 rfl rfl (by constructor <;> omega) ?_
      first | omega | exact ⟨by rw [hz, if_pos h_16], rfl, rfl⟩
    · refine ev_iload_4 (q := 15) dX1_cycleFrom_13 rfl ?_
      refine ev_iconst (q := 16) dX1_cycleFrom_15 rfl ?_
      refine ev_icmp_eq (t := 64) (q := 19) dX1_cycleFrom_16 (by decide) rfl (by constructor <;> omega) (by constructor <;> omega) (fun h_16 => ?_) (fun h_16 => ?_)
      · refine ev_iconst (q := 65) dX1_cycleFrom_64 rfl ?_
        refine ev_ireturn dX1_cycleFrom_65 rfl rfl (by constructor <;> omega) ?_
        first | omega | exact ⟨by rw [hz, if_pos h_16], rfl, rfl⟩
      · refine ev_aload_0 (q := 20) dX1_cycleFrom_19 rfl ?_
        refine ev_iload_2 (q := 21) dX1_cycleFrom_20 rfl ?_
        refine ev_iload_4 (q := 23) dX1_cycleFrom_21 rfl ?_
        refine ev_callV2i (q := 26) dX1_cycleFrom_23 vs_RX1_102 (by first | assumption | rfl) (c_X1_winnerOn (by omega) (by omega)) (by decide) (Nat.le_of_ble_eq_true rfl) rfl (fun h_23 => ?_)
        rw [hwp h_16] at *
        refine ev_istore_6 (q := 28) dX1_cycleFrom_26 rfl (by decide) ?_
        refine ev_iload_6 (q := 30) dX1_cycleFrom_28 rfl ?_
        refine ev_iconst (q := 31) dX1_cycleFrom_30 rfl ?_
        have hww : winV v e pl.toNat = stV v e pl.toNat 1073741824 := rfl
        refine ev_icmp_ne (t := 38) (q := 34) dX1_cycleFrom_31 (by decide) rfl (by constructor <;> omega) (by constructor <;> omega) (fun h_31 => ?_) (fun h_31 => ?_)
        · refine ev_aload_1 (q := 39) dX1_cycleFrom_38 rfl ?_
          refine ev_iload_6 (q := 41) dX1_cycleFrom_39 rfl ?_
          refine ev_iload_4 (q := 43) dX1_cycleFrom_41 rfl ?_
          refine ev_iconst (q := 44) dX1_cycleFrom_43 rfl ?_
          refine ev_callV3i (q := 47) dX1_cycleFrom_44 vs_RX1_105 (by first | assumption | rfl) (c_X3_entryN (r := (winV v e pl.toNat).toNat) (p := pl.toNat) (w := 1) hv (by omega) (by omega) (by decide)) (by decide) (Nat.le_of_ble_eq_true rfl) rfl (fun h_44 => ?_)
          exact hst _ _ h_16 (by unfold ldV; first | (rw [if_pos h_31]; done) | (rw [if_neg h_31]))
        · refine ev_iconst (q := 35) dX1_cycleFrom_34 rfl ?_
          refine ev_goto (q := 47) dX1_cycleFrom_35 (by decide) ?_
          exact hst _ _ h_16 (by unfold ldV; first | (rw [if_pos h_31]; done) | (rw [if_neg h_31]))
set_option maxHeartbeats 1000000 in
theorem c_X1_cycleFrom {l : Launch} {M : ev_M} {v : Vw} {e : Nat} {c : Int} (hv : cV M 1 = v) (h : Wf v) (he : e < 16) (hc : 8 ≤ c ∧ c ≤ 15) (hw : ∀ p : Nat, p < 16 → M 85 (16 * e + p) = winV v e p) : Cx l 2 kX1_cycleFrom yX1_cycleFrom S0 M [vr 81, vr 9, vi (e : Int), vi c] (some (vi (cycV v e c))) M := by
  refine Cx.of (by decide) rfl (by decide) (Nat.le_of_ble_eq_true rfl) ?_
  refine (show Ev _ none _ _ _ _ _ 0 [_, _, _, _, _, _, _] [] _ from ?_)
  refine ev_iload_3 (q := 1) dX1_cycleFrom_0 rfl ?_
  refine ev_istore_4 (q := 3) dX1_cycleFrom_1 rfl (by decide) ?_
  refine ev_iconst (q := 4) dX1_cycleFrom_3 rfl ?_
  refine ev_istore_5 (q := 6) dX1_cycleFrom_4 rfl (by decide) ?_
  exact lp_X1_cycleFrom hv h he hc hw 8 c 1 _ none (by omega) (by omega) (by omega) rfl
theorem cycV_rng (v : Vw) (e : Nat) (c : Int) : 0 ≤ cycV v e c ∧ cycV v e c < 10 := by
  have := cyL_rng (ldV v e) c 8 c 1 (by omega)
  unfold cycV
  omega
theorem wr_V {M : ev_M} {a lo n : Nat} {f : Nat → Int} (h : 13 < a) : cV (wr M a lo n f) 1 = cV M 1 := cV_eq (fun i hi => wr_ne (by omega))
set_option maxHeartbeats 1000000 in
theorem lp_X1_weighRules {l : Launch} {M : ev_M} {v : Vw} {e : Nat} (hv : cV M 1 = v) (h : Wf v) (he : (e : Int) < vel v) (hrn : M 81 2 = vrn v) : ∀ (n j : Nat) (x : Int), x = j → j + n = (vrn v).toNat → Ev l none 4 kX1_weighRules (0, 0) S0 (wr M 83 (16 * e) j (fun r => strV v r e)) 2 [some (vr 81), some (vr 1), some (vi (e : Int)), some (vi x)] [] (QX none S0 (wr M 83 (16 * e) (vrn v).toNat (fun r => strV v r e))) := by
  have h1 := h.1; have h2 := h.2.1
  have hm2 : ∀ j, wr M 83 (16 * e) j (fun r => strV v r e) 81 2 = vrn v := fun j => by rw [wr_ne (by decide)]; exact hrn
  have hVj : ∀ j, cV (wr M 83 (16 * e) j (fun r => strV v r e)) 1 = v := fun j => by rw [wr_V (by decide)]; exact hv
  intro n
  induction n with
  | zero =>
    intro j x hx hj
    have hj2 : j = (vrn v).toNat := by omega
    refine ev_iload_3 (q := 3) dX1_weighRules_2 rfl ?_
    refine ev_aload_0 (q := 4) dX1_weighRules_3 rfl ?_
    refine ev_getI (q := 7) dX1_weighRules_4 fl_RX1_59 (by first | assumption | rfl) (by rfl) rfl (fun h_4 => ?_)
    rw [hm2] at *
    refine ev_icmp_ge (t := 35) (q := 10) dX1_weighRules_7 (by decide) rfl (by constructor <;> omega) (by constructor <;> omega) (fun h_7 => ?_) (fun h_7 => ?_)
    · refine ev_return dX1_weighRules_35 rfl ?_
      exact ⟨rfl, rfl, by rw [hj2]⟩
    · omega
  | succ n ih =>
    intro j x hx hj
    subst hx
    have hst := strV_rng h (r := j) (e := e) (by omega)
    have hW : Wf (cV (wr M 83 (16 * e) j (fun r => strV v r e)) 1) := by rw [hVj]; exact h
    have hc := c_X4_strength (l := l) (r := j) (e := e) hW (by show (j : Int) < vrn (cV (wr M 83 (16 * e) j (fun r => strV v r e)) 1); rw [hVj]; omega) (by show (e : Int) < vel (cV (wr M 83 (16 * e) j (fun r => strV v r e)) 1); rw [hVj]; omega)
    rw [hVj] at hc
    refine ev_iload_3 (q := 3) dX1_weighRules_2 rfl ?_
    refine ev_aload_0 (q := 4) dX1_weighRules_3 rfl ?_
    refine ev_getI (q := 7) dX1_weighRules_4 fl_RX1_59 (by first | assumption | rfl) (by rfl) rfl (fun h_4 => ?_)
    rw [hm2] at *
    refine ev_icmp_ge (t := 35) (q := 10) dX1_weighRules_7 (by decide) rfl (by constructor <;> omega) (by constructor <;> omega) (fun h_7 => ?_) (fun h_7 => ?_)
    · omega
    · refine ev_aload_0 (q := 11) dX1_weighRules_10 rfl ?_
      refine ev_getR (q := 14) dX1_weighRules_11 fl_RX1_14 (by first | assumption | rfl) (by rfl) rfl ?_
      refine ev_iload_2 (q := 15) dX1_weighRules_14 rfl ?_
      refine ev_bipush (q := 17) dX1_weighRules_15 rfl (by decide) ?_
      refine ev_imul (q := 18) dX1_weighRules_17 rfl ?_
      refine ev_iload_3 (q := 19) dX1_weighRules_18 rfl ?_
      refine ev_iadd (q := 20) dX1_weighRules_19 rfl ?_
      refine ev_aload_1 (q := 21) dX1_weighRules_20 rfl ?_
      refine ev_iload_3 (q := 22) dX1_weighRules_21 rfl ?_
      refine ev_iload_2 (q := 23) dX1_weighRules_22 rfl ?_
      refine ev_callV2i (q := 26) dX1_weighRules_23 vs_RX1_75 (by first | assumption | rfl) hc (by decide) (Nat.le_of_ble_eq_true rfl) rfl (fun h_23 => ?_)
      refine ev_callV2v (q := 29) dX1_weighRules_26 vs_RX1_79 (by first | assumption | rfl) (c_X2_putR (by first | assumption | rfl) (by first | assumption | rfl) (by first | decide | omega) (by omega) (by constructor <;> omega)) (by decide) (Nat.le_of_ble_eq_true rfl) rfl ?_
      refine ev_iinc_3 (q := 32) dX1_weighRules_29 rfl (by decide) ?_
      refine ev_goto (q := 2) dX1_weighRules_32 (by decide) ?_
      refine Ev_M ?_ (ih (j + 1) _ rfl (by omega))
      rw [show ((e : Int) * 16 + (j : Int)).toNat = 16 * e + j by omega]
      exact wr_s
set_option maxHeartbeats 1000000 in
theorem c_X1_weighRules {l : Launch} {M : ev_M} {v : Vw} {e : Nat} (hv : cV M 1 = v) (h : Wf v) (he : (e : Int) < vel v) (hrn : M 81 2 = vrn v) : Cx l 4 kX1_weighRules yX1_weighRules S0 M [vr 81, vr 1, vi (e : Int)] none (wr M 83 (16 * e) (vrn v).toNat (fun r => strV v r e)) := by
  refine Cx.of (by decide) rfl (by decide) (Nat.le_of_ble_eq_true rfl) ?_
  refine (show Ev _ none _ _ _ _ _ 0 [_, _, _, _] [] _ from ?_)
  refine ev_iconst (q := 1) dX1_weighRules_0 rfl ?_
  refine ev_istore_3 (q := 2) dX1_weighRules_1 rfl (by decide) ?_
  refine Ev_M (wr_0 M 83 (16 * e) (fun r => strV v r e)).symm ?_
  exact lp_X1_weighRules hv h he hrn (vrn v).toNat 0 0 rfl (by omega)
set_option maxHeartbeats 1000000 in
theorem lp_X1_chooseWinners {l : Launch} {M : ev_M} {v : Vw} {e : Nat} (hR : RM M) (hv : cV M 1 = v) (h : Wf v) (he : e < 16) (hrn : M 81 2 = vrn v) (hs : ∀ r : Nat, (r : Int) < vrn v → M 83 (16 * e + r) = strV v r e) : ∀ (n j : Nat) (x : Int), x = j → j + n = 16 → Ev l none 4 kX1_chooseWinners (0, 0) S0 (wr M 85 (16 * e) j (fun p => winV v e p)) 2 [some (vr 81), some (vr 9), some (vi (e : Int)), some (vi x)] [] (QX none S0 (wr M 85 (16 * e) 16 (fun p => winV v e p))) := by
  have hVj : ∀ j, cV (wr M 85 (16 * e) j (fun p => winV v e p)) 1 = v := fun j => by rw [wr_V (by decide)]; exact hv
  have hRj : ∀ j, RM (wr M 85 (16 * e) j (fun p => winV v e p)) := fun j a b => by
    unfold wr
    have := stV_rng h e (b - 16 * e) 1073741824
    split
    · unfold winV; dsimp only; constructor <;> omega
    · exact hR a b
  intro n
  induction n with
  | zero =>
    intro j x hx hj
    have hj2 : j = 16 := by omega
    subst hj2
    refine ev_iload_3 (q := 3) dX1_chooseWinners_2 rfl ?_
    refine ev_bipush (q := 5) dX1_chooseWinners_3 rfl (by decide) ?_
    refine ev_icmp_ge (t := 35) (q := 8) dX1_chooseWinners_5 (by decide) rfl (by constructor <;> omega) (by constructor <;> omega) (fun h_5 => ?_) (fun h_5 => ?_)
    · refine ev_return dX1_chooseWinners_35 rfl ?_
      exact ⟨rfl, rfl, rfl⟩
    · omega
  | succ n ih =>
    intro j x hx hj
    subst hx
    have hst := stV_rng h e j 1073741824
    have hc := c_X1_strongestV (l := l) (e := e) (p := j) (lim := 1073741824) (hRj j) (hVj j) h he (by omega) (by constructor <;> omega) (by rw [wr_ne (by decide)]; exact hrn) (fun r hr => by rw [wr_ne (by decide)]; exact hs r hr)
    refine ev_iload_3 (q := 3) dX1_chooseWinners_2 rfl ?_
    refine ev_bipush (q := 5) dX1_chooseWinners_3 rfl (by decide) ?_
    refine ev_icmp_ge (t := 35) (q := 8) dX1_chooseWinners_5 (by decide) rfl (by constructor <;> omega) (by constructor <;> omega) (fun h_5 => ?_) (fun h_5 => ?_)
    · omega
    · refine ev_aload_0 (q := 9) dX1_chooseWinners_8 rfl ?_
      refine ev_getR (q := 12) dX1_chooseWinners_9 fl_RX1_20 (by first | assumption | rfl) (by rfl) rfl ?_
      refine ev_iload_2 (q := 13) dX1_chooseWinners_12 rfl ?_
      refine ev_iload_3 (q := 14) dX1_chooseWinners_13 rfl ?_
      refine ev_callS2i (q := 17) dX1_chooseWinners_14 ss_RX1_83 (c_X1_cell (by omega) (by omega)) (by decide) (Nat.le_of_ble_eq_true rfl) rfl (fun h_14 => ?_)
      refine ev_aload_0 (q := 18) dX1_chooseWinners_17 rfl ?_
      refine ev_aload_1 (q := 19) dX1_chooseWinners_18 rfl ?_
      refine ev_iload_2 (q := 20) dX1_chooseWinners_19 rfl ?_
      refine ev_iload_3 (q := 21) dX1_chooseWinners_20 rfl ?_
      refine ev_ldc (n := 1073741824) (q := 23) dX1_chooseWinners_21 rfl kc_RX1_86 (by decide) ?_
      refine ev_callV4i (q := 26) dX1_chooseWinners_23 vs_RX1_87 (by first | assumption | rfl) hc (by decide) (Nat.le_of_ble_eq_true rfl) rfl (fun h_23 => ?_)
      refine ev_callV2v (q := 29) dX1_chooseWinners_26 vs_RX1_79 (by first | assumption | rfl) (c_X2_putR (by first | assumption | rfl) (by first | assumption | rfl) (by first | decide | omega) (by omega) (by constructor <;> omega)) (by decide) (Nat.le_of_ble_eq_true rfl) rfl ?_
      refine ev_iinc_3 (q := 32) dX1_chooseWinners_29 rfl (by decide) ?_
      refine ev_goto (q := 2) dX1_chooseWinners_32 (by decide) ?_
      refine Ev_M ?_ (ih (j + 1) _ rfl (by omega))
      rw [show ((e : Int) * 16 + (j : Int)).toNat = 16 * e + j by omega]
      exact wr_s
set_option maxHeartbeats 1000000 in
theorem c_X1_chooseWinners {l : Launch} {M : ev_M} {v : Vw} {e : Nat} (hR : RM M) (hv : cV M 1 = v) (h : Wf v) (he : e < 16) (hrn : M 81 2 = vrn v) (hs : ∀ r : Nat, (r : Int) < vrn v → M 83 (16 * e + r) = strV v r e) : Cx l 4 kX1_chooseWinners yX1_chooseWinners S0 M [vr 81, vr 9, vi (e : Int)] none (wr M 85 (16 * e) 16 (fun p => winV v e p)) := by
  refine Cx.of (by decide) rfl (by decide) (Nat.le_of_ble_eq_true rfl) ?_
  refine (show Ev _ none _ _ _ _ _ 0 [_, _, _, _] [] _ from ?_)
  refine ev_iconst (q := 1) dX1_chooseWinners_0 rfl ?_
  refine ev_istore_3 (q := 2) dX1_chooseWinners_1 rfl (by decide) ?_
  refine Ev_M (wr_0 M 85 (16 * e) (fun p => winV v e p)).symm ?_
  exact lp_X1_chooseWinners hR hv h he hrn hs 16 0 0 rfl rfl
set_option maxHeartbeats 1000000 in
theorem lp_X1_findCycles {l : Launch} {M : ev_M} {v : Vw} {e : Nat} (hv : cV M 1 = v) (h : Wf v) (he : e < 16) (hw : ∀ p : Nat, p < 16 → M 85 (16 * e + p) = winV v e p) : ∀ (n j : Nat) (x : Int), x = 8 + (j : Int) → j + n = 8 → Ev l none 3 kX1_findCycles (0, 0) S0 (wr M 87 (16 * e + 8) j (fun q => cycV v e (8 + (q : Int)))) 3 [some (vr 81), some (vr 9), some (vi (e : Int)), some (vi x)] [] (QX none S0 (wr M 87 (16 * e + 8) 8 (fun q => cycV v e (8 + (q : Int))))) := by
  have hVj : ∀ j, cV (wr M 87 (16 * e + 8) j (fun q => cycV v e (8 + (q : Int)))) 1 = v := fun j => by rw [wr_V (by decide)]; exact hv
  intro n
  induction n with
  | zero =>
    intro j x hx hj
    have hj2 : j = 8 := by omega
    subst hj2
    refine ev_iload_3 (q := 4) dX1_findCycles_3 rfl ?_
    refine ev_bipush (q := 6) dX1_findCycles_4 rfl (by decide) ?_
    refine ev_icmp_ge (t := 34) (q := 9) dX1_findCycles_6 (by decide) rfl (by constructor <;> omega) (by constructor <;> omega) (fun h_6 => ?_) (fun h_6 => ?_)
    · refine ev_return dX1_findCycles_34 rfl ?_
      exact ⟨rfl, rfl, rfl⟩
    · omega
  | succ n ih =>
    intro j x hx hj
    have hst := cycV_rng v e x
    have hc := c_X1_cycleFrom (l := l) (c := x) (hVj j) h he (by omega) (fun p hp => by rw [wr_ne (by decide)]; exact hw p hp)
    refine ev_iload_3 (q := 4) dX1_findCycles_3 rfl ?_
    refine ev_bipush (q := 6) dX1_findCycles_4 rfl (by decide) ?_
    refine ev_icmp_ge (t := 34) (q := 9) dX1_findCycles_6 (by decide) rfl (by constructor <;> omega) (by constructor <;> omega) (fun h_6 => ?_) (fun h_6 => ?_)
    · omega
    · refine ev_aload_0 (q := 10) dX1_findCycles_9 rfl ?_
      refine ev_getR (q := 13) dX1_findCycles_10 fl_RX1_23 (by first | assumption | rfl) (by rfl) rfl ?_
      refine ev_iload_2 (q := 14) dX1_findCycles_13 rfl ?_
      refine ev_iload_3 (q := 15) dX1_findCycles_14 rfl ?_
      refine ev_callS2i (q := 18) dX1_findCycles_15 ss_RX1_83 (c_X1_cell (by omega) (by omega)) (by decide) (Nat.le_of_ble_eq_true rfl) rfl (fun h_15 => ?_)
      refine ev_aload_0 (q := 19) dX1_findCycles_18 rfl ?_
      refine ev_aload_1 (q := 20) dX1_findCycles_19 rfl ?_
      refine ev_iload_2 (q := 21) dX1_findCycles_20 rfl ?_
      refine ev_iload_3 (q := 22) dX1_findCycles_21 rfl ?_
      refine ev_callV3i (q := 25) dX1_findCycles_22 vs_RX1_98 (by first | assumption | rfl) hc (by decide) (Nat.le_of_ble_eq_true rfl) rfl (fun h_22 => ?_)
      refine ev_callV2v (q := 28) dX1_findCycles_25 vs_RX1_79 (by first | assumption | rfl) (c_X2_putR (by first | assumption | rfl) (by first | assumption | rfl) (by first | decide | omega) (by omega) (by constructor <;> omega)) (by decide) (Nat.le_of_ble_eq_true rfl) rfl ?_
      refine ev_iinc_3 (q := 31) dX1_findCycles_28 rfl (by decide) ?_
      refine ev_goto (q := 3) dX1_findCycles_31 (by decide) ?_
      refine Ev_M ?_ (ih (j + 1) _ (by omega) (by omega))
      rw [show ((e : Int) * 16 + x).toNat = 16 * e + 8 + j by omega, hx]
      exact wr_s (f := fun q => cycV v e (8 + (q : Int)))
set_option maxHeartbeats 1000000 in
theorem c_X1_findCycles {l : Launch} {M : ev_M} {v : Vw} {e : Nat} (hv : cV M 1 = v) (h : Wf v) (he : e < 16) (hw : ∀ p : Nat, p < 16 → M 85 (16 * e + p) = winV v e p) : Cx l 3 kX1_findCycles yX1_findCycles S0 M [vr 81, vr 9, vi (e : Int)] none (wr M 87 (16 * e + 8) 8 (fun q => cycV v e (8 + (q : Int)))) := by
  refine Cx.of (by decide) rfl (by decide) (Nat.le_of_ble_eq_true rfl) ?_
  refine (show Ev _ none _ _ _ _ _ 0 [_, _, _, _] [] _ from ?_)
  refine ev_bipush (q := 2) dX1_findCycles_0 rfl (by decide) ?_
  refine ev_istore_3 (q := 3) dX1_findCycles_2 rfl (by decide) ?_
  refine Ev_M (wr_0 M 87 (16 * e + 8) (fun q => cycV v e (8 + (q : Int)))).symm ?_
  exact lp_X1_findCycles hv h he hw 8 0 _ (by omega) rfl

