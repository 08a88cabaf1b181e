section Op7
variable {M M1 M2 : ev_M} {v v' : Vw} {f g : Nat → Int}
theorem ap_o {B : ev_M} {k c a y s i : Int} {j : Nat} (h9 : j ≠ 9) (h11 : j ≠ 11) (h13 : j ≠ 13) : apM B 9 11 13 k c a y s i j = B j := by
  funext x
  unfold apM
  rw [up_ne h9, fil_at, if_neg (fun q => h13 q.1), up_ne h11, up_ne h11, up_ne h11, up_ne h11, up_ne h11, up_ne h11]
theorem ap_9 {B : ev_M} {k c a y s i : Int} : apM B 9 11 13 k c a y s i 9 0 = B 9 0 + 1 := by
  unfold apM
  exact up_s
theorem ap_11 {B : ev_M} {k c a y s i : Int} {n x : Nat} (hn : B 9 0 = (n : Int)) : apM B 9 11 13 k c a y s i 11 x = if x = 6 * n + 5 then i else if x = 6 * n + 4 then s else if x = 6 * n + 3 then y else if x = 6 * n + 2 then a else if x = 6 * n + 1 then c else if x = 6 * n then k else B 11 x := by
  unfold apM
  rw [up_ne (by decide), fil_at, if_neg (fun q => absurd q.1 (by decide)), up_f, up_f, up_f, up_f, up_f, up_f, hn, show ((n : Int) * 6 + 5).toNat = 6 * n + 5 by omega, show ((n : Int) * 6 + 4).toNat = 6 * n + 4 by omega, show ((n : Int) * 6 + 3).toNat = 6 * n + 3 by omega, show ((n : Int) * 6 + 2).toNat = 6 * n + 2 by omega, show ((n : Int) * 6 + 1).toNat = 6 * n + 1 by omega, show ((n : Int) * 6 + 0).toNat = 6 * n by omega]
theorem ap_13 {B : ev_M} {k c a y s i : Int} {n x : Nat} (hn : B 9 0 = (n : Int)) : apM B 9 11 13 k c a y s i 13 x = if 48 * n ≤ x ∧ x < 48 * n + 48 then -1 else B 13 x := by
  unfold apM
  rw [up_ne (by decide), fil_at, hn, Int.toNat_natCast]
  by_cases q : 48 * n ≤ x ∧ x < 48 * n + 48
  · rw [if_pos ⟨rfl, q⟩, if_pos q]
  · rw [if_neg (fun z => q z.2), if_neg q, up_ne (by decide), up_ne (by decide), up_ne (by decide), up_ne (by decide), up_ne (by decide), up_ne (by decide)]
theorem rel_rule {k c a y s i : Int} (h : Rel M) (hg : okR M k c a y s i) (hn16 : M 9 0 < 16) (h1 : M1 = apM (begM M) 9 11 13 k c a y s i) (hD : Dm M1 (apF (M 101) (M 9 0).toNat k c a y s i) M2) : Rel M2 := by
  have ho := h.1.2.1
  have hk := h.1.2.2.1.1
  have b : ∀ i, i ≤ 13 → begM M i = M i := fun i hi => begM_o ho hk (Or.inl hi)
  have hn0 := h.1.1.2.1
  have hv0 : vrn (cV M 1) = M 9 0 := rfl
  have hv1 : vel (cV M 1) = M 2 0 := rfl
  have hve : 1 ≤ M 2 0 := h.1.1.1.1
  obtain ⟨n, hn⟩ : ∃ n : Nat, M 9 0 = (n : Int) := ⟨(M 9 0).toNat, by omega⟩
  have hbn : begM M 9 0 = (n : Int) := by rw [b 9 (by decide)]; exact hn
  rw [hn, Int.toNat_natCast] at hD
  obtain ⟨⟨g1, g2, g3⟩, g4, g5, g6⟩ := hg
  have o : ∀ j, j ≤ 13 → j ≠ 9 → j ≠ 11 → j ≠ 13 → M1 j = M j := fun j q b9 b11 b13 => by rw [h1, ap_o b9 b11 b13, b j q]
  have q11 : ∀ x, M1 11 x = if x = 6 * n + 5 then i else if x = 6 * n + 4 then s else if x = 6 * n + 3 then y else if x = 6 * n + 2 then a else if x = 6 * n + 1 then c else if x = 6 * n then k else M 11 x := fun x => by rw [h1, ap_11 hbn, b 11 (by decide)]
  have q13 : ∀ x, M1 13 x = if 48 * n ≤ x ∧ x < 48 * n + 48 then -1 else M 13 x := fun x => by rw [h1, ap_13 hbn, b 13 (by decide)]
  have p0 : vpt (cV M1 1) n 0 = k := by show M1 11 (6 * n + 0) = k; rw [q11, if_neg (by omega), if_neg (by omega), if_neg (by omega), if_neg (by omega), if_neg (by omega), if_pos (by omega)]
  have p1 : vpt (cV M1 1) n 1 = c := by show M1 11 (6 * n + 1) = c; rw [q11, if_neg (by omega), if_neg (by omega), if_neg (by omega), if_neg (by omega), if_pos (by omega)]
  have p2 : vpt (cV M1 1) n 2 = a := by show M1 11 (6 * n + 2) = a; rw [q11, if_neg (by omega), if_neg (by omega), if_neg (by omega), if_pos (by omega)]
  have p3 : vpt (cV M1 1) n 3 = y := by show M1 11 (6 * n + 3) = y; rw [q11, if_neg (by omega), if_neg (by omega), if_pos (by omega)]
  have p4 : vpt (cV M1 1) n 4 = s := by show M1 11 (6 * n + 4) = s; rw [q11, if_neg (by omega), if_pos (by omega)]
  have p5 : vpt (cV M1 1) n 5 = i := by show M1 11 (6 * n + 5) = i; rw [q11, if_pos (by omega)]
  have en : ∀ p w, p < 16 → w < 3 → ven (cV M1 1) n p w = -1 := fun p w hp hw => by show M1 13 (48 * n + 3 * p + w) = -1; rw [q13, if_pos (by omega)]
  have zf : ∀ x, ¬ (146 + 48 * n ≤ x ∧ x < 194 + 48 * n) → zF (paF (M 101) n k c a y s i) n 16 x = paF (M 101) n k c a y s i x := fun x hx => by unfold zF; rw [if_neg (by omega)]
  have := app_v (v := cV M 1) (v' := cV M1 1) (f := M 101) (g := apF (M 101) n k c a y s i) (n := n) h.1.1 h.2.1 hn (by omega) (if_pos rfl) (fun x x1 x2 x3 => by
      unfold apF
      rw [if_neg x1, zf x x3]
      unfold paF
      rw [if_neg (by omega), if_neg (by omega), if_neg (by omega), if_neg (by omega), if_neg (by omega), if_neg (by omega)])
    (congrFun (o 2 (by decide) (by decide) (by decide) (by decide)) 0) (by show M1 9 0 = M 9 0 + 1; rw [h1, ap_9, b 9 (by decide)]) ⟨o 4 (by decide) (by decide) (by decide) (by decide), o 6 (by decide) (by decide) (by decide) (by decide), o 8 (by decide) (by decide) (by decide) (by decide)⟩
    (fun j w hj hw => by
      show M1 11 (6 * j + w) = M 11 (6 * j + w)
      rw [q11, if_neg (by omega), if_neg (by omega), if_neg (by omega), if_neg (by omega), if_neg (by omega), if_neg (by omega)])
    (fun j p w hj hp hw => by
      show M1 13 (48 * j + 3 * p + w) = M 13 (48 * j + 3 * p + w)
      rw [q13, if_neg (by omega)])
    (by rw [p0, p1, p2, p3, p4, p5, hv1]; omega)
    (fun w hw => by
      unfold apF
      rw [if_neg (by omega), zf _ (by omega)]
      unfold paF
      rcases (show w = 0 ∨ w = 1 ∨ w = 2 ∨ w = 3 ∨ w = 4 ∨ w = 5 by omega) with rfl | rfl | rfl | rfl | rfl | rfl
      · rw [p0, if_neg (by omega), if_neg (by omega), if_neg (by omega), if_neg (by omega), if_neg (by omega), if_pos (by omega)]
      · rw [p1, if_neg (by omega), if_neg (by omega), if_neg (by omega), if_neg (by omega), if_pos (by omega)]
      · rw [p2, if_neg (by omega), if_neg (by omega), if_neg (by omega), if_pos (by omega)]
      · rw [p3, if_neg (by omega), if_neg (by omega), if_pos (by omega)]
      · rw [p4, if_neg (by omega), if_pos (by omega)]
      · rw [p5, if_pos (by omega)])
    (fun p hp => by
      rw [en p 0 hp (by decide), en p 1 hp (by decide), en p 2 hp (by decide)]
      refine ⟨by omega, Or.inl ⟨?_, en p 0 hp (by decide), en p 1 hp (by decide), en p 2 hp (by decide)⟩⟩
      unfold apF
      rw [if_neg (by omega)]
      unfold zF
      exact if_pos (by omega))
  refine rel_step h (fun j hj => ?_) this.1 hD this.2
  rw [h1, ap_o (by omega) (by omega) (by omega)]
end Op7

