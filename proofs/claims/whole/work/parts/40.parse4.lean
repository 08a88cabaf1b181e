def d1 (t : Nat → Int) (len : Int) (P : PS) : Int × PS := numS t len 2 0 15 P
def d2 (t : Nat → Int) (len : Int) (P : PS) : PS := if (pwr (d1 t len P).2 = false ∧ (d1 t len P).1 < 16 ∧ psd (d1 t len P).2 (3 * (d1 t len P).1.toNat) > 0) ∧ pbd (d1 t len P).2 = -1 then (pat (d1 t len P).2, pwr (d1 t len P).2, pat P, psd (d1 t len P).2) else (d1 t len P).2
def d3 (t : Nat → Int) (len : Int) (P : PS) : PS := demS t len 61 (d2 t len P)
def d5 (t : Nat → Int) (len : Int) (P : PS) : Int × PS := if cur t len (d3 t len P) = 36 then numS t len 2 8 15 (accS t len 36 (d3 t len P)) else numS t len 3 0 999 (d3 t len P)
def d6 (t : Nat → Int) (len : Int) (P : PS) : Int × PS := if cur t len (d3 t len P) = 36 ∧ cur t len (d5 t len P).2 = 47 then numS t len 3 0 999 (accS t len 47 (d5 t len P).2) else (-1, (d5 t len P).2)
def d7 (t : Nat → Int) (len : Int) (P : PS) : PS := demS t len 59 (d6 t len P).2
def sdU (f : Nat → Int) (p : Nat) (s w b : Int) : Nat → Int := fun k => if k = 3 * p then s else if k = 3 * p + 1 then w else if k = 3 * p + 2 then b else f k
def decS (t : Nat → Int) (len : Int) (P : PS) : PS := if pwr (d7 t len P) = false ∧ (d1 t len P).1 < 16 then (pat (d7 t len P), pwr (d7 t len P), pbd (d7 t len P), sdU (psd (d7 t len P)) (d1 t len P).1.toNat (if cur t len (d3 t len P) = 36 then 2 else 1) (d5 t len P).1 (d6 t len P).1) else d7 t len P
/-- in a text that is faulty in form only place and fault count -/
theorem numL_sd (t : Nat → Int) (len : Int) : ∀ (n : Nat) (v : Int) (P : PS), psd (numL t len n v P).2 = psd P ∧ pat P ≤ pat (numL t len n v P).2 ∧ pwr (numL t len n v P).2 = pwr P
  | 0, _, _ => ⟨rfl, Int.le_refl _, rfl⟩
  | n + 1, v, P => by
    unfold numL
    split
    · have := numL_sd t len n (10 * v + cur t len P - 48) (pat P + 1, P.2)
      exact ⟨this.1, by have := this.2.1; change pat P + 1 ≤ _ at this; omega, this.2.2⟩
    · exact ⟨rfl, Int.le_refl _, rfl⟩
theorem numS_sd (t : Nat → Int) (len : Int) (d : Nat) (lo hi : Int) (P : PS) : psd (numS t len d lo hi P).2 = psd P ∧ pat P ≤ pat (numS t len d lo hi P).2 ∧ (pwr (numS t len d lo hi P).2 = false → pwr P = false) := by
  have h := numL_sd t len d 0 P
  unfold numS numE
  split
  · exact ⟨h.1, h.2.1, fun q => by cases q⟩
  · split
    · exact ⟨h.1, h.2.1, fun q => h.2.2 ▸ q⟩
    · exact ⟨h.1, h.2.1, fun q => h.2.2 ▸ q⟩
theorem RC.w {M : ev_M} {P P' : PS} (h : RC M P) (hw : pwr P = true) (e1 : pat P' = pat P) (e2 : pwr P' = true) (e3 : -1 ≤ pbd P') : RC M P' := by
  obtain ⟨h1, h2, h3, h4, h5, h6, h7⟩ := h
  exact ⟨by rw [e1]; exact h1, by rw [e1]; exact h2, h3, fun _ => by rw [e1]; exact h4 hw, fun q => (by rw [e2] at q; cases q), h6, h7.1, e3⟩
/-- a declaration laid down -/
theorem RC.set {M : ev_M} {P : PS} {p : Nat} {s n c f w b : Int} (h : RC M P) (hp : p < 16) (hs : (s = 1 ∧ n = w ∧ (0 ≤ w ∧ w ≤ 999) ∧ c = -1 ∧ f = -1 ∧ b = -1) ∨ (s = 2 ∧ n = -1 ∧ c = w ∧ (0 ≤ w ∧ w ≤ 99) ∧ f = b ∧ -1 ≤ b ∧ b ≤ 999)) : RC (up (up (up M 99 (3 * p) n) 99 (3 * p + 1) c) 99 (3 * p + 2) f) (pat P, pwr P, pbd P, sdU (psd P) p s w b) ∧ TFr M (up (up (up M 99 (3 * p) n) 99 (3 * p + 1) c) 99 (3 * p + 2) f) := by
  have hne : ∀ i, i ≠ 99 → (up (up (up M 99 (3 * p) n) 99 (3 * p + 1) c) 99 (3 * p + 2) f) i = M i := fun i hi => by rw [up_ne hi, up_ne hi, up_ne hi]
  obtain ⟨h1, h2, h3, h4, h5, h6, h7⟩ := h
  refine ⟨⟨?_, ?_, ?_, fun q => ?_, fun q => ?_, ?_, ?_, h7.2⟩, fun i a d => hne i d, ?_⟩
  · rw [hne 92 (by decide)]; exact h1
  · rw [hne 92 (by decide)]; exact h2
  · rw [hne 92 (by decide)]; exact h3
  · rw [hne 92 (by decide)]; exact h4 q
  · obtain ⟨a1, a2, a3⟩ := h5 q
    rw [hne 92 (by decide)]
    refine ⟨a1, a2, fun z => (show EntR _ (sdU (psd P) p s w b) from fun i hi => ?_)⟩
    have z2 : psd P 48 = 0 := by
      have z3 : sdU (psd P) p s w b 48 = 0 := z
      unfold sdU at z3
      rw [if_neg (by omega), if_neg (by omega), if_neg (by omega)] at z3
      exact z3
    by_cases hip : i = p
    · subst hip
      have g1 : sdU (psd P) i s w b (3 * i) = s := by simp [sdU]
      have g2 : sdU (psd P) i s w b (3 * i + 1) = w := by unfold sdU; rw [if_neg (by omega), if_pos rfl]
      have g3 : sdU (psd P) i s w b (3 * i + 2) = b := by unfold sdU; rw [if_neg (by omega), if_neg (by omega), if_pos rfl]
      have m1 : (up (up (up M 99 (3 * i) n) 99 (3 * i + 1) c) 99 (3 * i + 2) f) 99 (3 * i) = n := by rw [up_at, if_neg (by omega), up_at, if_neg (by omega), up_at, if_pos ⟨rfl, rfl⟩]
      have m2 : (up (up (up M 99 (3 * i) n) 99 (3 * i + 1) c) 99 (3 * i + 2) f) 99 (3 * i + 1) = c := by rw [up_at, if_neg (by omega), up_at, if_pos ⟨rfl, rfl⟩]
      have m3 : (up (up (up M 99 (3 * i) n) 99 (3 * i + 1) c) 99 (3 * i + 2) f) 99 (3 * i + 2) = f := by rw [up_at, if_pos ⟨rfl, rfl⟩]
      rw [g1, g2, g3, m1, m2, m3]
      omega
    · have g : ∀ k, k < 3 → sdU (psd P) p s w b (3 * i + k) = psd P (3 * i + k) := fun k hk => by unfold sdU; rw [if_neg (by omega), if_neg (by omega), if_neg (by omega)]
      have m : ∀ k, k < 3 → (up (up (up M 99 (3 * p) n) 99 (3 * p + 1) c) 99 (3 * p + 2) f) 99 (3 * i + k) = M 99 (3 * i + k) := fun k hk => by rw [up_at, if_neg (by omega), up_at, if_neg (by omega), up_at, if_neg (by omega)]
      have g0 := g 0 (by omega); have g1 := g 1 (by omega); have g2 := g 2 (by omega)
      have m0 := m 0 (by omega); have m1 := m 1 (by omega); have m2 := m 2 (by omega)
      simp only [Nat.add_zero] at g0 m0
      rw [g0, g1, g2, m0, m1, m2]
      exact a3 z2 i hi
  · intro k hk
    rw [hne 92 (by decide)] at hk
    rw [hne 94 (by decide)]
    exact h6 k hk
  · rw [hne 92 (by decide)]; exact h7.1
  · rw [hne 92 (by decide)]
theorem demS_psd {t : Nat → Int} {len c : Int} {P : PS} : psd (demS t len c P) = psd P := by
  unfold demS
  by_cases h : cur t len P = c
  · rw [if_pos h]
  · rw [if_neg h]
theorem demS_sd {t : Nat → Int} {len c : Int} {P : PS} {f : Nat → Int} : demS t len c (pat P, pwr P, pbd P, f) = (pat (demS t len c P), pwr (demS t len c P), pbd (demS t len c P), f) := by
  have e : cur t len (pat P, pwr P, pbd P, f) = cur t len P := rfl
  unfold demS
  rw [e]
  by_cases h : cur t len P = c
  · rw [if_pos h, if_pos h]
  · rw [if_neg h, if_neg h]
set_option maxHeartbeats 4000000 in
theorem n_parseDeclaration {l : Launch} {M0 M : ev_M} {t : Nat → Int} {len : Int} {P : PS} (h : RB M0 t len M P) (hz : psd P 48 = 0) : Rv l 3 kX5_parseDeclaration yX5_parseDeclaration S0 M [vr 92] (fun M2 => RB M0 t len M2 (decS t len P)) := by
  have hp1 := h.1.1; have hp2 := h.1.2.1; have hp3 := h.1.2.2.1
  have hb2 : bnd 2 = 99 := rfl
  have hb3 : bnd 3 = 999 := rfl
  -- the end: what was laid down, and ';'
  have J116 : ∀ (M6 : ev_M) (w1 w2 w3 w4 : Option ev_V), (RB M0 t len M6 (if (d1 t len P).1 < 16 then (pat (d6 t len P).2, pwr (d6 t len P).2, pbd (d6 t len P).2, sdU (psd (d6 t len P).2) (d1 t len P).1.toNat (if cur t len (d3 t len P) = 36 then 2 else 1) (d5 t len P).1 (d6 t len P).1) else (d6 t len P).2)) → Ev l none 3 kX5_parseDeclaration (0, 0) S0 M6 116 [some (vr 92), w1, w2, w3, w4] [] (QV S0 (fun M2 => RB M0 t len M2 (decS t len P))) := by
    intro M6 w1 w2 w3 w4 h6
    refine ev_aload_0 (q := 117) dX5_parseDeclaration_116 rfl ?_
    refine ev_bipush (q := 119) dX5_parseDeclaration_117 rfl (by decide) ?_
    refine ev_callV1vR (q := 122) dX5_parseDeclaration_119 vs_RX5_73 (by first | assumption | rfl) (n_demand (by assumption) (by omega)) (by decide) (Nat.le_of_ble_eq_true rfl) rfl (fun M_119 hq_119 => ?_)
    refine ev_return dX5_parseDeclaration_122 rfl ?_
    refine ⟨rfl, rfl, ?_⟩
    unfold decS d7
    by_cases c1 : (d1 t len P).1 < 16
    · rw [if_pos c1, demS_sd] at hq_119
      by_cases c2 : pwr (demS t len 59 (d6 t len P).2) = false
      · rw [if_pos ⟨c2, c1⟩, demS_psd]; exact hq_119
      · rw [if_neg (fun q => c2 q.1)]
        have c3 : pwr (demS t len 59 (d6 t len P).2) = true := by cases hq : pwr (demS t len 59 (d6 t len P).2) <;> simp_all
        exact ⟨hq_119.1.w c3 rfl c3 hq_119.1.2.2.2.2.2.2.2, hq_119.2⟩
    · rw [if_neg c1] at hq_119
      rw [if_neg (fun q => c1 q.2)]; exact hq_119
  have L : ∀ (M' : ev_M) (x n c f : Int), x = (d1 t len P).1 → 0 ≤ x → RB M0 t len M' (d6 t len P).2 → ((cur t len (d3 t len P) ≠ 36 ∧ n = (d5 t len P).1 ∧ (0 ≤ (d5 t len P).1 ∧ (d5 t len P).1 ≤ 999) ∧ c = -1 ∧ f = -1 ∧ (d6 t len P).1 = -1) ∨ (cur t len (d3 t len P) = 36 ∧ n = -1 ∧ c = (d5 t len P).1 ∧ (0 ≤ (d5 t len P).1 ∧ (d5 t len P).1 ≤ 99) ∧ f = (d6 t len P).1 ∧ -1 ≤ (d6 t len P).1 ∧ (d6 t len P).1 ≤ 999)) → RB M0 t len (if x < 16 then up (up (up M' 99 (x * 3 + 0).toNat n) 99 (x * 3 + 1).toNat c) 99 (x * 3 + 2).toNat f else M') (if (d1 t len P).1 < 16 then (pat (d6 t len P).2, pwr (d6 t len P).2, pbd (d6 t len P).2, sdU (psd (d6 t len P).2) (d1 t len P).1.toNat (if cur t len (d3 t len P) = 36 then 2 else 1) (d5 t len P).1 (d6 t len P).1) else (d6 t len P).2) := by
    intro M' x n c f hx h0 hB hs
    rw [← hx]
    by_cases c1 : x < 16
    · rw [if_pos c1, if_pos c1, show (x * 3 + 0).toNat = 3 * x.toNat by omega, show (x * 3 + 1).toNat = 3 * x.toNat + 1 by omega, show (x * 3 + 2).toNat = 3 * x.toNat + 2 by omega]
      have hset := hB.1.set (p := x.toNat) (s := if cur t len (d3 t len P) = 36 then 2 else 1) (n := n) (c := c) (f := f) (w := (d5 t len P).1) (b := (d6 t len P).1) (by omega) (by
        rcases hs with ⟨q1, q2⟩ | ⟨q1, q2⟩
        · rw [if_neg q1]; exact Or.inl ⟨rfl, q2⟩
        · rw [if_pos q1]; exact Or.inr ⟨rfl, q2⟩)
      exact hB.go hset.1 hset.2
    · rw [if_neg c1, if_neg c1]; exact hB
  have J31 : ∀ (M3 : ev_M) (x : Int) (w1 w3 w4 : Option ev_V), x = (d1 t len P).1 → 0 ≤ x ∧ x ≤ 99 → RB M0 t len M3 (d2 t len P) → Ev l none 3 kX5_parseDeclaration (0, 0) S0 M3 31 [some (vr 92), w1, some (vi x), w3, w4] [] (QV S0 (fun M2 => RB M0 t len M2 (decS t len P))) := by
    intro M3 x w1 w3 w4 hx hxr h3
    have e3 : ∀ y : Int, (y * 3 + 0).toNat = (y * 3).toNat := fun y => by rw [Int.add_zero]
    refine ev_aload_0 (q := 32) dX5_parseDeclaration_31 rfl ?_
    refine ev_bipush (q := 34) dX5_parseDeclaration_32 rfl (by decide) ?_
    refine ev_callV1vR (q := 37) dX5_parseDeclaration_34 vs_RX5_73 (by first | assumption | rfl) (n_demand (by assumption) (by omega)) (by decide) (Nat.le_of_ble_eq_true rfl) rfl (fun M_34 hq_34 => ?_)
    change RB M0 t len M_34 (d3 t len P) at hq_34
    refine ev_aload_0 (q := 38) dX5_parseDeclaration_37 rfl ?_
    refine ev_bipush (q := 40) dX5_parseDeclaration_38 rfl (by decide) ?_
    refine ev_callV1iR (q := 43) dX5_parseDeclaration_40 vs_RX5_61 (by first | assumption | rfl) (n_accepts (by assumption) (by omega)) (by decide) (Nat.le_of_ble_eq_true rfl) rfl (fun x_40 M_40 hq_40 h_40 => ?_)
    obtain ⟨g1, g2⟩ := hq_40
    rw [g1]
    refine ev_b_eq (t := 96) (q := 46) dX5_parseDeclaration_43 (by decide) rfl (fun h_43 => ?_) (fun h_43 => ?_)
    · refine ev_aload_0 (q := 97) dX5_parseDeclaration_96 rfl ?_
      refine ev_getR (q := 100) dX5_parseDeclaration_97 fl_RX5_23 (by first | assumption | rfl) (by rfl) rfl ?_
      refine ev_iconst (q := 101) dX5_parseDeclaration_100 rfl ?_
      refine ev_iload_2 (q := 102) dX5_parseDeclaration_101 rfl ?_
      refine ev_aload_0 (q := 103) dX5_parseDeclaration_102 rfl ?_
      refine ev_iconst (q := 104) dX5_parseDeclaration_103 rfl ?_
      refine ev_iconst (q := 105) dX5_parseDeclaration_104 rfl ?_
      refine ev_sipush (q := 108) dX5_parseDeclaration_105 rfl (by decide) ?_
      refine ev_callV3iR (q := 111) dX5_parseDeclaration_108 vs_RX5_69 (by first | assumption | rfl) (n_number (d := 3) rfl (show RB M0 t len M_40 (d3 t len P) from by rw [accS, if_neg h_43] at g2; exact g2) (by decide) (by decide) (by decide)) (by decide) (Nat.le_of_ble_eq_true rfl) rfl (fun x_108 M_108 hq_108 h_108 => ?_)
      obtain ⟨o1, o2, o3⟩ := hq_108
      refine ev_iconst (q := 112) dX5_parseDeclaration_111 rfl ?_
      refine ev_iconst (q := 113) dX5_parseDeclaration_112 rfl ?_
      refine ev_callV5v (q := 116) dX5_parseDeclaration_113 vs_RX5_90 (by first | assumption | rfl) (c_X3_setDeclarationD (by omega) (by constructor <;> omega) (by constructor <;> omega) (by constructor <;> omega)) (by decide) (Nat.le_of_ble_eq_true rfl) rfl ?_
      by_cases c36 : cur t len (d3 t len P) = 36
      · have e5 : d5 t len P = numS t len 2 8 15 (accS t len 36 (d3 t len P)) := by rw [d5, if_pos c36]
        by_cases c47 : cur t len (d5 t len P).2 = 47
        · have e6 : d6 t len P = numS t len 3 0 999 (accS t len 47 (d5 t len P).2) := by rw [d6, if_pos ⟨c36, c47⟩]
          rw [e5] at c47 e6
          first | exact absurd c47 (by assumption) | exact absurd c36 (by assumption) | (rw [← e6] at o1 o3; rw [← e5] at k1; exact J116 _ _ _ _ _ (L _ _ _ _ _ hx hxr.1 o3 (Or.inr ⟨c36, rfl, k1, by omega, o1, by omega⟩)))
        · have e6 : d6 t len P = (-1, (d5 t len P).2) := by rw [d6, if_neg (fun q => c47 q.2)]
          rw [e5] at c47
          first | exact absurd (by assumption) c47 | exact absurd c36 (by assumption) | (rw [accS, if_neg c47, ← e5] at m2; rw [← e5] at k1; exact J116 _ _ _ _ _ (L _ _ _ _ _ hx hxr.1 (by rw [e6]; exact m2) (Or.inr ⟨c36, rfl, k1, by omega, by rw [e6], by rw [e6]; exact ⟨Int.le_refl _, (by omega : (-1 : Int) ≤ 999)⟩⟩)))
      · have e5 : d5 t len P = numS t len 3 0 999 (d3 t len P) := by rw [d5, if_neg c36]
        have e6 : d6 t len P = (-1, (d5 t len P).2) := by rw [d6, if_neg (fun q => c36 q.1)]
        first | exact absurd (by assumption) c36 | (rw [← e5] at o1 o3; exact J116 _ _ _ _ _ (L _ _ _ _ _ hx hxr.1 (by rw [e6]; exact o3) (Or.inl ⟨c36, o1, by omega, rfl, rfl, by rw [e6]⟩)))
    · refine ev_aload_0 (q := 47) dX5_parseDeclaration_46 rfl ?_
      refine ev_iconst (q := 48) dX5_parseDeclaration_47 rfl ?_
      refine ev_bipush (q := 50) dX5_parseDeclaration_48 rfl (by decide) ?_
      refine ev_bipush (q := 52) dX5_parseDeclaration_50 rfl (by decide) ?_
      refine ev_callV3iR (q := 55) dX5_parseDeclaration_52 vs_RX5_69 (by first | assumption | rfl) (n_number (d := 2) rfl g2 (by decide) (by decide) (by decide)) (by decide) (Nat.le_of_ble_eq_true rfl) rfl (fun x_52 M_52 hq_52 h_52 => ?_)
      obtain ⟨k1, k2, k3⟩ := hq_52
      refine ev_istore_3 (q := 56) dX5_parseDeclaration_55 rfl (by decide) ?_
      refine ev_aload_0 (q := 57) dX5_parseDeclaration_56 rfl ?_
      refine ev_bipush (q := 59) dX5_parseDeclaration_57 rfl (by decide) ?_
      refine ev_callV1iR (q := 62) dX5_parseDeclaration_59 vs_RX5_61 (by first | assumption | rfl) (n_accepts k3 (by decide)) (by decide) (Nat.le_of_ble_eq_true rfl) rfl (fun x_59 M_59 hq_59 h_59 => ?_)
      obtain ⟨m1, m2⟩ := hq_59
      rw [m1]
      refine ev_b_eq (t := 77) (q := 65) dX5_parseDeclaration_62 (by decide) rfl (fun h_62 => ?_) (fun h_62 => ?_)
      · refine ev_iconst (q := 78) dX5_parseDeclaration_77 rfl ?_
        refine ev_istore_4 (q := 80) dX5_parseDeclaration_78 rfl (by decide) ?_
        refine ev_aload_0 (q := 81) dX5_parseDeclaration_80 rfl ?_
        refine ev_getR (q := 84) dX5_parseDeclaration_81 fl_RX5_23 (by first | assumption | rfl) (by rfl) rfl ?_
        refine ev_iconst (q := 85) dX5_parseDeclaration_84 rfl ?_
        refine ev_iload_2 (q := 86) dX5_parseDeclaration_85 rfl ?_
        refine ev_iconst (q := 87) dX5_parseDeclaration_86 rfl ?_
        refine ev_iload_3 (q := 88) dX5_parseDeclaration_87 rfl ?_
        refine ev_iload_4 (q := 90) dX5_parseDeclaration_88 rfl ?_
        refine ev_callV5v (q := 93) dX5_parseDeclaration_90 vs_RX5_90 (by first | assumption | rfl) (c_X3_setDeclarationD (by omega) (by constructor <;> omega) (by constructor <;> omega) (by constructor <;> omega)) (by decide) (Nat.le_of_ble_eq_true rfl) rfl ?_
        refine ev_goto (q := 116) dX5_parseDeclaration_93 (by decide) ?_
        by_cases c36 : cur t len (d3 t len P) = 36
        · have e5 : d5 t len P = numS t len 2 8 15 (accS t len 36 (d3 t len P)) := by rw [d5, if_pos c36]
          by_cases c47 : cur t len (d5 t len P).2 = 47
          · have e6 : d6 t len P = numS t len 3 0 999 (accS t len 47 (d5 t len P).2) := by rw [d6, if_pos ⟨c36, c47⟩]
            rw [e5] at c47 e6
            first | exact absurd c47 (by assumption) | exact absurd c36 (by assumption) | (rw [← e6] at o1 o3; rw [← e5] at k1; exact J116 _ _ _ _ _ (L _ _ _ _ _ hx hxr.1 o3 (Or.inr ⟨c36, rfl, k1, by omega, o1, by omega⟩)))
          · have e6 : d6 t len P = (-1, (d5 t len P).2) := by rw [d6, if_neg (fun q => c47 q.2)]
            rw [e5] at c47
            first | exact absurd (by assumption) c47 | exact absurd c36 (by assumption) | (rw [accS, if_neg c47, ← e5] at m2; rw [← e5] at k1; exact J116 _ _ _ _ _ (L _ _ _ _ _ hx hxr.1 (by rw [e6]; exact m2) (Or.inr ⟨c36, rfl, k1, by omega, by rw [e6], by rw [e6]; exact ⟨Int.le_refl _, (by omega : (-1 : Int) ≤ 999)⟩⟩)))
        · have e5 : d5 t len P = numS t len 3 0 999 (d3 t len P) := by rw [d5, if_neg c36]
          have e6 : d6 t len P = (-1, (d5 t len P).2) := by rw [d6, if_neg (fun q => c36 q.1)]
          first | exact absurd (by assumption) c36 | (rw [← e5] at o1 o3; exact J116 _ _ _ _ _ (L _ _ _ _ _ hx hxr.1 (by rw [e6]; exact o3) (Or.inl ⟨c36, o1, by omega, rfl, rfl, by rw [e6]⟩)))
      · refine ev_aload_0 (q := 66) dX5_parseDeclaration_65 rfl ?_
        refine ev_iconst (q := 67) dX5_parseDeclaration_66 rfl ?_
        refine ev_iconst (q := 68) dX5_parseDeclaration_67 rfl ?_
        refine ev_sipush (q := 71) dX5_parseDeclaration_68 rfl (by decide) ?_
        refine ev_callV3iR (q := 74) dX5_parseDeclaration_71 vs_RX5_69 (by first | assumption | rfl) (n_number (d := 3) rfl m2 (by decide) (by decide) (by decide)) (by decide) (Nat.le_of_ble_eq_true rfl) rfl (fun x_71 M_71 hq_71 h_71 => ?_)
        obtain ⟨o1, o2, o3⟩ := hq_71
        refine ev_goto (q := 78) dX5_parseDeclaration_74 (by decide) ?_
        refine ev_istore_4 (q := 80) dX5_parseDeclaration_78 rfl (by decide) ?_
        refine ev_aload_0 (q := 81) dX5_parseDeclaration_80 rfl ?_
        refine ev_getR (q := 84) dX5_parseDeclaration_81 fl_RX5_23 (by first | assumption | rfl) (by rfl) rfl ?_
        refine ev_iconst (q := 85) dX5_parseDeclaration_84 rfl ?_
        refine ev_iload_2 (q := 86) dX5_parseDeclaration_85 rfl ?_
        refine ev_iconst (q := 87) dX5_parseDeclaration_86 rfl ?_
        refine ev_iload_3 (q := 88) dX5_parseDeclaration_87 rfl ?_
        refine ev_iload_4 (q := 90) dX5_parseDeclaration_88 rfl ?_
        refine ev_callV5v (q := 93) dX5_parseDeclaration_90 vs_RX5_90 (by first | assumption | rfl) (c_X3_setDeclarationD (by omega) (by constructor <;> omega) (by constructor <;> omega) (by constructor <;> omega)) (by decide) (Nat.le_of_ble_eq_true rfl) rfl ?_
        refine ev_goto (q := 116) dX5_parseDeclaration_93 (by decide) ?_
        by_cases c36 : cur t len (d3 t len P) = 36
        · have e5 : d5 t len P = numS t len 2 8 15 (accS t len 36 (d3 t len P)) := by rw [d5, if_pos c36]
          by_cases c47 : cur t len (d5 t len P).2 = 47
          · have e6 : d6 t len P = numS t len 3 0 999 (accS t len 47 (d5 t len P).2) := by rw [d6, if_pos ⟨c36, c47⟩]
            rw [e5] at c47 e6
            first | exact absurd c47 (by assumption) | exact absurd c36 (by assumption) | (rw [← e6] at o1 o3; rw [← e5] at k1; exact J116 _ _ _ _ _ (L _ _ _ _ _ hx hxr.1 o3 (Or.inr ⟨c36, rfl, k1, by omega, o1, by omega⟩)))
          · have e6 : d6 t len P = (-1, (d5 t len P).2) := by rw [d6, if_neg (fun q => c47 q.2)]
            rw [e5] at c47
            first | exact absurd (by assumption) c47 | exact absurd c36 (by assumption) | (rw [accS, if_neg c47, ← e5] at m2; rw [← e5] at k1; exact J116 _ _ _ _ _ (L _ _ _ _ _ hx hxr.1 (by rw [e6]; exact m2) (Or.inr ⟨c36, rfl, k1, by omega, by rw [e6], by rw [e6]; exact ⟨Int.le_refl _, (by omega : (-1 : Int) ≤ 999)⟩⟩)))
        · have e5 : d5 t len P = numS t len 3 0 999 (d3 t len P) := by rw [d5, if_neg c36]
          have e6 : d6 t len P = (-1, (d5 t len P).2) := by rw [d6, if_neg (fun q => c36 q.1)]
          first | exact absurd (by assumption) c36 | (rw [← e5] at o1 o3; exact J116 _ _ _ _ _ (L _ _ _ _ _ hx hxr.1 (by rw [e6]; exact o3) (Or.inl ⟨c36, o1, by omega, rfl, rfl, by rw [e6]⟩)))
  have hdl : ∀ (M1 : ev_M) (x : Int), RB M0 t len M1 (d1 t len P).2 → 0 ≤ x ∧ x ≤ 99 → pwr (d1 t len P).2 = false → ((x < 16 ∧ (M1 99 (x * 3 + 0).toNat ≠ -1 ∨ M1 99 (x * 3 + 1).toNat ≠ -1)) ↔ (x < 16 ∧ psd (d1 t len P).2 (3 * x.toNat) > 0)) := by
    intro M1 x hB hxr hw
    have hE := (hB.1.2.2.2.2.1 hw).2.2 (by rw [d1, (numS_sd t len 2 0 15 P).1]; exact hz)
    rw [show (x * 3 + 0).toNat = 3 * x.toNat by omega, show (x * 3 + 1).toNat = 3 * x.toNat + 1 by omega]
    constructor
    · rintro ⟨a, b⟩
      have := hE x.toNat (by omega)
      exact ⟨a, by omega⟩
    · rintro ⟨a, b⟩
      have := hE x.toNat (by omega)
      exact ⟨a, by omega⟩
  refine Rv.of (by decide) rfl (by decide) (Nat.le_of_ble_eq_true rfl) ?_
  refine (show Ev _ none _ _ _ _ _ 0 [_, _, _, _, _] [] _ from ?_)
  refine ev_aload_0 (q := 1) dX5_parseDeclaration_0 rfl ?_
  refine ev_getI (q := 4) dX5_parseDeclaration_1 fl_RX5_35 (by first | assumption | rfl) (by rfl) rfl (fun h_1 => ?_)
  rw [hp1] at h_1 ⊢
  refine ev_istore_1 (q := 5) dX5_parseDeclaration_4 rfl (by decide) ?_
  refine ev_aload_0 (q := 6) dX5_parseDeclaration_5 rfl ?_
  refine ev_iconst (q := 7) dX5_parseDeclaration_6 rfl ?_
  refine ev_iconst (q := 8) dX5_parseDeclaration_7 rfl ?_
  refine ev_bipush (q := 10) dX5_parseDeclaration_8 rfl (by decide) ?_
  refine ev_callV3iR (q := 13) dX5_parseDeclaration_10 vs_RX5_69 (by first | assumption | rfl) (n_number (d := 2) rfl h (by decide) (by decide) (by decide)) (by decide) (Nat.le_of_ble_eq_true rfl) rfl (fun x_10 M_10 hq_10 h_10 => ?_)
  obtain ⟨g1, g2, g3⟩ := hq_10
  change x_10 = (d1 t len P).1 at g1
  change RB M0 t len M_10 (d1 t len P).2 at g3
  refine ev_istore_2 (q := 14) dX5_parseDeclaration_13 rfl (by decide) ?_
  refine ev_aload_0 (q := 15) dX5_parseDeclaration_14 rfl ?_
  refine ev_getR (q := 18) dX5_parseDeclaration_15 fl_RX5_23 (by first | assumption | rfl) (by rfl) rfl ?_
  refine ev_iconst (q := 19) dX5_parseDeclaration_18 rfl ?_
  refine ev_iload_2 (q := 20) dX5_parseDeclaration_19 rfl ?_
  refine ev_callV2i (q := 23) dX5_parseDeclaration_20 vs_RX5_83 (by first | assumption | rfl) (c_X3_declaresD (by omega)) (by decide) (Nat.le_of_ble_eq_true rfl) rfl (fun h_20 => ?_)
  refine ev_b_eq (t := 31) (q := 26) dX5_parseDeclaration_23 (by decide) rfl (fun h_23 => ?_) (fun h_23 => ?_)
  · have hdd := hdl M_10 x_10 g3 (by omega)
    have hbb := g3.1.2.2.2.2.2.2.2
    have hb9 : -1 ≤ pbd (d2 t len P) := by
      unfold d2
      split
      · show -1 ≤ pat P
        omega
      · exact hbb
    have hgr := g3.1.range (P' := d2 t len P) (s := pat P) (by omega) (by unfold d2; split <;> rfl) (by unfold d2; split <;> rfl) (by unfold d2; split <;> rfl) hb9
    cases hw : pwr (d1 t len P).2 with
    | true =>
      have e2 : d2 t len P = (d1 t len P).2 := by rw [d2, if_neg (fun q => by rw [hw] at q; cases q.1.1)]
      first | exact J31 _ _ _ _ _ g1 (by omega) (by rw [e2]; exact g3) | exact J31 _ _ _ _ _ g1 (by omega) (g3.go (hgr (fun q => by rw [hw] at q; cases q)).1 (hgr (fun q => by rw [hw] at q; cases q)).2)
    | false =>
      have hdw := hdd hw
      by_cases c2 : x_10 < 16 ∧ psd (d1 t len P).2 (3 * x_10.toNat) > 0
      · have c3 := hdw.mpr c2
        have hg5 : pwr (d1 t len P).2 = false → pbd (d2 t len P) = if pbd (d1 t len P).2 = -1 then pat P else pbd (d1 t len P).2 := fun _ => by
          by_cases c4 : pbd (d1 t len P).2 = -1
          · rw [d2, if_pos ⟨⟨hw, by rw [g1] at c2; exact c2.1, by rw [g1] at c2; exact c2.2⟩, c4⟩, if_pos c4]
          · rw [d2, if_neg (fun q => c4 q.2), if_neg c4]
        first | exact absurd c3 (by assumption) | exact J31 _ _ _ _ _ g1 (by omega) (g3.go (hgr hg5).1 (hgr hg5).2)
      · have c3 := fun q => c2 (hdw.mp q)
        have e2 : d2 t len P = (d1 t len P).2 := by rw [d2, if_neg (fun q => c2 ⟨by rw [g1]; exact q.1.2.1, by rw [g1]; exact q.1.2.2⟩)]
        first | exact absurd (by assumption) c3 | exact J31 _ _ _ _ _ g1 (by omega) (by rw [e2]; exact g3)
  · refine ev_aload_0 (q := 27) dX5_parseDeclaration_26 rfl ?_
    refine ev_iload_1 (q := 28) dX5_parseDeclaration_27 rfl ?_
    refine ev_callV1v (q := 31) dX5_parseDeclaration_28 vs_RX5_87 (by first | assumption | rfl) (c_X5_failRange (by constructor <;> omega)) (by decide) (Nat.le_of_ble_eq_true rfl) rfl ?_
    have hdd := hdl M_10 x_10 g3 (by omega)
    have hbb := g3.1.2.2.2.2.2.2.2
    have hb9 : -1 ≤ pbd (d2 t len P) := by
      unfold d2
      split
      · show -1 ≤ pat P
        omega
      · exact hbb
    have hgr := g3.1.range (P' := d2 t len P) (s := pat P) (by omega) (by unfold d2; split <;> rfl) (by unfold d2; split <;> rfl) (by unfold d2; split <;> rfl) hb9
    cases hw : pwr (d1 t len P).2 with
    | true =>
      have e2 : d2 t len P = (d1 t len P).2 := by rw [d2, if_neg (fun q => by rw [hw] at q; cases q.1.1)]
      first | exact J31 _ _ _ _ _ g1 (by omega) (by rw [e2]; exact g3) | exact J31 _ _ _ _ _ g1 (by omega) (g3.go (hgr (fun q => by rw [hw] at q; cases q)).1 (hgr (fun q => by rw [hw] at q; cases q)).2)
    | false =>
      have hdw := hdd hw
      by_cases c2 : x_10 < 16 ∧ psd (d1 t len P).2 (3 * x_10.toNat) > 0
      · have c3 := hdw.mpr c2
        have hg5 : pwr (d1 t len P).2 = false → pbd (d2 t len P) = if pbd (d1 t len P).2 = -1 then pat P else pbd (d1 t len P).2 := fun _ => by
          by_cases c4 : pbd (d1 t len P).2 = -1
          · rw [d2, if_pos ⟨⟨hw, by rw [g1] at c2; exact c2.1, by rw [g1] at c2; exact c2.2⟩, c4⟩, if_pos c4]
          · rw [d2, if_neg (fun q => c4 q.2), if_neg c4]
        first | exact absurd c3 (by assumption) | exact J31 _ _ _ _ _ g1 (by omega) (g3.go (hgr hg5).1 (hgr hg5).2)
      · have c3 := fun q => c2 (hdw.mp q)
        have e2 : d2 t len P = (d1 t len P).2 := by rw [d2, if_neg (fun q => c2 ⟨by rw [g1]; exact q.1.2.1, by rw [g1]; exact q.1.2.2⟩)]
        first | exact absurd (by assumption) c3 | exact J31 _ _ _ _ _ g1 (by omega) (by rw [e2]; exact g3)

