section Rd
variable {t : Nat → Int} {len el : Int} {M Mc M1 Mm M2 : ev_M}
theorem bdy_48 : ∀ (n : Nat) (P : PS), psd P 48 = 0 → psd (bdy t len n P) 48 = 0
  | 0, _, h => h
  | n + 1, P, h => by
    unfold bdy
    split
    · exact h
    · exact bdy_48 n _ (decS_sd h).1
theorem enP_48 : psd (enP t len el) 48 = 0 := by
  unfold enP
  rw [demS_psd]
  refine bdy_48 81 _ ?_
  rw [demS_psd, hd_sd]
theorem fn_en (hp : 0 ≤ pat (enP t len el)) (h : fltV t len el = -1) : fnP t len el = enP t len el := by
  unfold fltV at h
  rw [show fnP t len el = trS len (enP t len el) from rfl] at h ⊢
  unfold trS at h ⊢
  by_cases q : pat (enP t len el) < len
  · rw [if_pos q, if_pos rfl] at h
    exact absurd (show pat (enP t len el) = -1 from h) (by omega)
  · rw [if_neg q]
theorem rel_read (h : Rel M) (hf : fltV (M 94) (M 92 1) (M 2 0) = -1) (hn16 : M 9 0 < 16) (hP : ParR M (M 2 0) Mc) (h1 : M1 = afM (begM Mc)) (hF : FrW M1 Mm) (hMP : MP (M 94) (M 92 1) Mm (enP (M 94) (M 92 1) (M 2 0))) (hD : Dm Mm (rdJ (apF (M 101) (M 9 0).toNat (hd1 (M 94) (M 92 1)).1 (hd2 (M 94) (M 92 1)).1 (hd3 (M 94) (M 92 1)).1 (hd5 (M 94) (M 92 1) (M 2 0)).1 (hd4 (M 94) (M 92 1) (M 2 0)).1 (hdI (M 94) (M 92 1) (M 2 0))) (M 9 0).toNat (Mm 105) 48) M2) : Rel M2 := by
  have hpat := hMP.2.2.2.2.1.1
  have hok := flt_ok (fun x hx => by rw [hx]; exact hpat) hf
  have hfe := fn_en hpat hf
  have hhd := hd_ok hok.2.1
  obtain ⟨r1, r2, r3, r4⟩ := id hP
  rw [hfe] at r1
  have hent := (r1.2.2.2.2.1 hok.1.1).2.2 enP_48
  obtain ⟨d0, d1', d2', d3', d4', d5', d6'⟩ := r2
  have hn0 := h.1.1.2.1
  have hv0 : vrn (cV M 1) = M 9 0 := rfl
  have hve : 1 ≤ M 2 0 := h.1.1.1.1
  obtain ⟨n, hn⟩ : ∃ n : Nat, M 9 0 = (n : Int) := ⟨(M 9 0).toNat, by omega⟩
  rw [hn, Int.toNat_natCast] at hD
  obtain ⟨X, hX⟩ : ∃ X : ev_M, X = fun i => if i = 100 ∨ i = 104 ∨ i = 105 then Mm i else Mc i := ⟨_, rfl⟩
  have x1 : ∀ i, i ≠ 100 → i ≠ 104 → i ≠ 105 → X i = Mc i := fun i a b c => by rw [hX]; exact if_neg (by omega)
  have x2 : ∀ i, i = 100 ∨ i = 104 ∨ i = 105 → X i = Mm i := fun i a => by rw [hX]; exact if_pos a
  have ic14 : Mc 14 = M 14 := r4 14 (by decide) (by decide) (by decide) (by decide)
  have ho : 0 ≤ Mc 14 1 ∧ Mc 14 1 < 5 := by rw [ic14]; exact h.1.2.1
  have hk : 0 ≤ Mc 14 2 := by rw [ic14]; exact h.1.2.2.1.1
  have bg : ∀ i, i ≤ 13 ∨ 82 ≤ i → begM Mc i = Mc i := fun i hi => begM_o ho hk hi
  have b9 : begM Mc 9 0 = (n : Int) := by rw [bg 9 (by decide), r4 9 (by decide) (by decide) (by decide) (by decide)]; exact hn
  have a1 : ∀ i, i ≠ 9 → i ≠ 11 → i ≠ 13 → M1 i = begM Mc i := fun i q9 q11 q13 => by
    rw [h1]; funext c; unfold afM
    rw [up_ne q9, blk_at, if_neg (fun q => q13 q.1), blk_at, if_neg (fun q => q11 q.1)]
  have hXr : Rel X := rel_fault h hP ⟨fun i a b c => x1 i a b c, by rw [x2 100 (by omega), hF.2.1, a1 100 (by decide) (by decide) (by decide), bg 100 (by decide)], by rw [x2 100 (by omega), hF.2.2, a1 100 (by decide) (by decide) (by decide), bg 100 (by decide)]⟩
  have hL : L1 X Mc := fun j hj => x1 j (by omega) (by omega) (by omega)
  have hbX := hL.beg
  have xo : 0 ≤ X 14 1 ∧ X 14 1 < 5 := by rw [x1 14 (by decide) (by decide) (by decide)]; exact ho
  have xk : 0 ≤ X 14 2 := by rw [x1 14 (by decide) (by decide) (by decide)]; exact hk
  have hstep : ∀ i, 14 ≤ i → Mm i = begM X i := fun i hi => by
    by_cases q : i < 100
    · rw [hF.1 i (by omega) (by omega) (by omega), a1 i (by omega) (by omega) (by omega), hbX i q]
    · rw [begM_o xo xk (by omega)]
      by_cases q2 : i = 100 ∨ i = 104 ∨ i = 105
      · rw [x2 i q2]
      · rw [x1 i (by omega) (by omega) (by omega), hF.1 i (by omega) (by omega) (by omega), a1 i (by omega) (by omega) (by omega), bg i (by omega)]
  have mo : ∀ i, i ≤ 13 → i ≠ 9 → i ≠ 11 → i ≠ 13 → Mm i = M i := fun i hi q9 q11 q13 => by
    rw [hF.1 i (by omega) (by omega) (by omega), a1 i q9 q11 q13, bg i (by omega), r4 i (by omega) (by omega) (by omega) (by omega)]
  have m9 : Mm 9 0 = (n : Int) + 1 := by
    rw [hF.1 9 (by decide) (by decide) (by decide), h1]
    unfold afM
    rw [b9]; exact up_s
  have m11 : ∀ x, Mm 11 x = if 6 * n ≤ x ∧ x < 6 * n + 6 then Mc 97 (x - 6 * n) else M 11 x := fun x => by
    rw [hF.1 11 (by decide) (by decide) (by decide), h1]
    unfold afM
    rw [up_ne (by decide), blk_at, if_neg (fun q => absurd q.1 (by decide)), blk_at, b9, Int.toNat_natCast, bg 97 (by decide), bg 11 (by decide), r4 11 (by decide) (by decide) (by decide) (by decide)]
    by_cases q : 6 * n ≤ x ∧ x < 6 * n + 6
    · rw [if_pos ⟨rfl, q⟩, if_pos q]
    · rw [if_neg (fun z => q z.2), if_neg q]
  have m13 : ∀ x, Mm 13 x = if 48 * n ≤ x ∧ x < 48 * n + 48 then Mc 99 (x - 48 * n) else M 13 x := fun x => by
    rw [hF.1 13 (by decide) (by decide) (by decide), h1]
    unfold afM
    have e99 : ∀ c, blk (begM Mc) 11 (6 * (begM Mc 9 0).toNat) 6 97 99 c = Mc 99 c := fun c => by rw [blk_at, if_neg (fun q => absurd q.1 (by decide)), bg 99 (by decide)]
    have e13 : ∀ c, blk (begM Mc) 11 (6 * (begM Mc 9 0).toNat) 6 97 13 c = M 13 c := fun c => by rw [blk_at, if_neg (fun q => absurd q.1 (by decide)), bg 13 (by decide), r4 13 (by decide) (by decide) (by decide) (by decide)]
    rw [up_ne (by decide), blk_at, e99, e13, b9, Int.toNat_natCast]
    by_cases q : 48 * n ≤ x ∧ x < 48 * n + 48
    · rw [if_pos ⟨rfl, q⟩, if_pos q]
    · rw [if_neg (fun z => q z.2), if_neg q]
  have eX : cV X 1 = cV M 1 := cV_eq (fun i hi => by rw [x1 i (by omega) (by omega) (by omega), r4 i (by omega) (by omega) (by omega) (by omega)])
  have pp : ∀ w, w < 6 → vpt (cV Mm 1) n w = Mc 97 w := fun w hw => by
    show Mm 11 (6 * n + w) = _
    rw [m11, if_pos (by omega), show 6 * n + w - 6 * n = w by omega]
  have en : ∀ p w, p < 16 → w < 3 → ven (cV Mm 1) n p w = Mc 99 (3 * p + w) := fun p w hp hw => by
    show Mm 13 (48 * n + 3 * p + w) = _
    rw [m13, if_pos (by omega), show 48 * n + 3 * p + w - 48 * n = 3 * p + w by omega]
  have zf : ∀ (f : Nat → Int) x, ¬ (146 + 48 * n ≤ x ∧ x < 194 + 48 * n) → zF f n 16 x = f x := fun f x hx => by unfold zF; rw [if_neg (by omega)]
  have gx : ∀ (f : Nat → Int) (k c a y s i : Int) x, ¬ (146 + 48 * n ≤ x ∧ x < 194 + 48 * n) → x ≠ 1 → rdJ (apF f n k c a y s i) n (Mm 105) 48 x = paF f n k c a y s i x := fun f k c a y s i x hx hx1 => by
    unfold rdJ apF
    rw [if_neg (by omega), if_neg hx1, zf _ x hx]
  have gy : ∀ (f : Nat → Int) (k c a y s i : Int) q, q < 48 → rdJ (apF f n k c a y s i) n (Mm 105) 48 (146 + 48 * n + q) = psd (enP (M 94) (M 92 1) (M 2 0)) q := fun f k c a y s i q hq => by
    unfold rdJ
    rw [if_pos (by omega), show 146 + 48 * n + q - (146 + 48 * n) = q by omega]
    exact hMP.2.2.2.1 q hq
  have hXv : vrn (cV X 1) = (n : Int) := by rw [eX]; exact hn
  have hA0 : X 101 = M 101 := by rw [x1 101 (by decide) (by decide) (by decide), r4 101 (by decide) (by decide) (by decide) (by decide)]
  have hAg : Ag (M 101) (cV X 1) := by rw [← hA0]; exact hXr.2.1
  have hfin := app_v (v := cV X 1) (v' := cV Mm 1) (f := M 101) (g := rdJ (apF (M 101) n (hd1 (M 94) (M 92 1)).1 (hd2 (M 94) (M 92 1)).1 (hd3 (M 94) (M 92 1)).1 (hd5 (M 94) (M 92 1) (M 2 0)).1 (hd4 (M 94) (M 92 1) (M 2 0)).1 (hdI (M 94) (M 92 1) (M 2 0))) n (Mm 105) 48) (n := n) hXr.1.1 hAg hXv (by omega) (by unfold rdJ apF; rw [if_neg (by omega), if_pos rfl]) (fun x q1 q2 q3 => by
      rw [gx _ _ _ _ _ _ _ x q3 q1]
      unfold paF
      rw [if_neg (by omega), if_neg (by omega), if_neg (by omega), if_neg (by omega), if_neg (by omega), if_neg (by omega)])
    (by rw [eX]; exact congrFun (mo 2 (by decide) (by decide) (by decide) (by decide)) 0) (by rw [hXv]; exact m9) (by rw [eX]; exact ⟨mo 4 (by decide) (by decide) (by decide) (by decide), mo 6 (by decide) (by decide) (by decide) (by decide), mo 8 (by decide) (by decide) (by decide) (by decide)⟩)
    (fun j w hj hw => by
      rw [eX]
      show Mm 11 (6 * j + w) = M 11 (6 * j + w)
      rw [m11, if_neg (by omega)])
    (fun j p w hj hp hw => by
      rw [eX]
      show Mm 13 (48 * j + 3 * p + w) = M 13 (48 * j + 3 * p + w)
      rw [m13, if_neg (by omega)])
    (by
      rw [pp 0 (by decide), pp 1 (by decide), pp 2 (by decide), pp 3 (by decide), pp 4 (by decide), pp 5 (by decide), d0, d1', d2', d3', d4', d5', eX]
      have : vel (cV M 1) = M 2 0 := rfl
      omega)
    (fun w hw => by
      rw [gx _ _ _ _ _ _ _ _ (by omega) (by omega), pp w hw]
      unfold paF
      rcases (show w = 0 ∨ w = 1 ∨ w = 2 ∨ w = 3 ∨ w = 4 ∨ w = 5 by omega) with rfl | rfl | rfl | rfl | rfl | rfl
      · rw [d0, if_neg (by omega), if_neg (by omega), if_neg (by omega), if_neg (by omega), if_neg (by omega), if_pos (by omega)]
      · rw [d1', if_neg (by omega), if_neg (by omega), if_neg (by omega), if_neg (by omega), if_pos (by omega)]
      · rw [d2', if_neg (by omega), if_neg (by omega), if_neg (by omega), if_pos (by omega)]
      · rw [d3', if_neg (by omega), if_neg (by omega), if_pos (by omega)]
      · rw [d4', if_neg (by omega), if_pos (by omega)]
      · rw [d5', if_pos (by omega)])
    (fun p hp => by
      have e0 := gy (M 101) (hd1 (M 94) (M 92 1)).1 (hd2 (M 94) (M 92 1)).1 (hd3 (M 94) (M 92 1)).1 (hd5 (M 94) (M 92 1) (M 2 0)).1 (hd4 (M 94) (M 92 1) (M 2 0)).1 (hdI (M 94) (M 92 1) (M 2 0)) (3 * p) (by omega)
      have e1 := gy (M 101) (hd1 (M 94) (M 92 1)).1 (hd2 (M 94) (M 92 1)).1 (hd3 (M 94) (M 92 1)).1 (hd5 (M 94) (M 92 1) (M 2 0)).1 (hd4 (M 94) (M 92 1) (M 2 0)).1 (hdI (M 94) (M 92 1) (M 2 0)) (3 * p + 1) (by omega)
      have e2 := gy (M 101) (hd1 (M 94) (M 92 1)).1 (hd2 (M 94) (M 92 1)).1 (hd3 (M 94) (M 92 1)).1 (hd5 (M 94) (M 92 1) (M 2 0)).1 (hd4 (M 94) (M 92 1) (M 2 0)).1 (hdI (M 94) (M 92 1) (M 2 0)) (3 * p + 2) (by omega)
      rw [show 147 + 48 * n + 3 * p = 146 + 48 * n + (3 * p + 1) by omega, show 148 + 48 * n + 3 * p = 146 + 48 * n + (3 * p + 2) by omega, e0, e1, e2, en p 0 hp (by decide), en p 1 hp (by decide), en p 2 hp (by decide)]
      have k1 := hent p hp
      have k2 := hok.2.2 p hp
      unfold AgE
      rw [en p 0 hp (by decide), en p 1 hp (by decide), en p 2 hp (by decide), Nat.add_zero]
      rcases k1 with ⟨u1, u2, u3, u4⟩ | ⟨u1, u2, u3, u4, u5, u6⟩ | ⟨u1, u2, u3, u4, u5, u6⟩
      · exact ⟨by omega, Or.inl ⟨u1, u2, u3, u4⟩⟩
      · exact ⟨by omega, Or.inr (Or.inl ⟨u1, u2, u3.1, u4, u5⟩)⟩
      · have : 8 ≤ psd (enP (M 94) (M 92 1) (M 2 0)) (3 * p + 1) ∧ psd (enP (M 94) (M 92 1) (M 2 0)) (3 * p + 1) ≤ 15 := by omega
        exact ⟨by omega, Or.inr (Or.inr ⟨u1, u2, u3, this.1, u5⟩)⟩)
  exact rel_step hXr hstep hfin.1 hD hfin.2
end Rd

