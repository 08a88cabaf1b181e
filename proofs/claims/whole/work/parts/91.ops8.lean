section Op8
variable {M M1 M2 : ev_M}
theorem rel_keep2 (h : Rel M) (hc : ∀ i, i < 92 ∨ 101 ≤ i ∧ i ≤ 102 → M2 i = M i) (h100 : M2 100 2 = M 100 2) (ht : TxtOK M2) (hx : TxM (M2 94) (M2 92 1) M2) : Rel M2 := by
  obtain ⟨⟨i1, i2, i3, i4, i5, i6, i7⟩, a1, a2, a3, a4⟩ := h
  have e14 : M2 14 = M 14 := hc 14 (by omega)
  have e1 : cV M2 1 = cV M 1 := cV_eq (fun i hi => hc i (by omega))
  have esl : ∀ k : Int, slo M2 k = slo M k := fun k => by unfold slo; rw [e14]
  have ev : ∀ k : Nat, cV M2 (slo M2 k) = cV M (slo M k) := fun k => by
    have hr := slo_rng (M := M) (k := (k : Int)) i2 (by omega)
    rw [esl]
    exact cV_at (fun i a b => hc i (by omega))
  have ho : OutOK (cV M 1) M → OutOK (cV M 1) M2 := fun q => by
    unfold OutOK RowOK ValOK at q ⊢
    rw [hc 81 (by omega), hc 83 (by omega), hc 85 (by omega), hc 87 (by omega), hc 89 (by omega), hc 91 (by omega)]
    exact q
  refine ⟨⟨by rw [e1]; exact i1, by rw [e14]; exact i2, by rw [e14]; exact i3, fun k hk => by rw [ev]; rw [e14] at hk; exact i4 k hk, ht, by rw [hc 81 (by omega)]; exact i6, fun q => by rw [hc 81 (by omega)] at q; rw [e1]; exact ho (i7 q)⟩, ?_, ?_, fun k hk => ?_, hx⟩
  · rw [e1, hc 101 (by omega)]; exact a1
  · rw [h100, e14]; exact a2
  · rw [ev, hc 102 (by omega)]
    rw [e14] at hk
    exact a3 k hk
theorem rel_type {c : Int} (h : Rel M) (hc : 32 ≤ c ∧ c ≤ 126) (hl : M 92 1 < 80) (h1 : M1 = up (up M 94 (M 92 1).toNat c) 92 1 (M 92 1 + 1)) (h2 : M2 = up (up M1 103 (M 92 1).toNat c) 100 4 (M 92 1 + 1)) : Rel M2 := by
  obtain ⟨t1, t2⟩ := h.1.2.2.2.2.1
  obtain ⟨x1, x2, x3⟩ := h.2.2.2.2
  have e92 : M2 92 1 = M 92 1 + 1 := by rw [h2, up_ne (by decide), up_ne (by decide), h1]; exact up_s
  have e94 : M2 94 = fun i => if i = (M 92 1).toNat then c else M 94 i := by rw [h2, up_ne (by decide), up_ne (by decide), h1, up_ne (by decide), up_f]
  have e103 : M2 103 = fun i => if i = (M 92 1).toNat then c else M 103 i := by rw [h2, up_ne (by decide), up_f, h1, up_ne (by decide), up_ne (by decide)]
  refine rel_keep2 h (fun i hi => by rw [h2, up_ne (by omega), up_ne (by omega), h1, up_ne (by omega), up_ne (by omega)]) (by rw [h2, up_o (by decide), up_ne (by decide), h1, up_ne (by decide), up_ne (by decide)]) ⟨by rw [e92]; omega, fun k hk => ?_⟩ ⟨by rw [e92, h2]; exact up_s, by rw [e92]; omega, fun k hk => ?_⟩
  · rw [e92] at hk
    rw [e94]
    show 32 ≤ (if k = (M 92 1).toNat then c else M 94 k) ∧ (if k = (M 92 1).toNat then c else M 94 k) ≤ 126
    by_cases q : k = (M 92 1).toNat
    · rw [if_pos q]; exact hc
    · rw [if_neg q]; exact t2 k (by omega)
  · rw [e92] at hk
    rw [e94, e103]
    show (if k = (M 92 1).toNat then c else M 103 k) = (if k = (M 92 1).toNat then c else M 94 k) ∧ 32 ≤ (if k = (M 92 1).toNat then c else M 94 k) ∧ (if k = (M 92 1).toNat then c else M 94 k) ≤ 126
    by_cases q : k = (M 92 1).toNat
    · rw [if_pos q, if_pos q]; exact ⟨rfl, hc⟩
    · rw [if_neg q, if_neg q]; exact x3 k (by omega)
theorem rel_clear (h : Rel M) (h1 : M1 = up M 92 1 0) (h2 : M2 = up M1 100 4 0) : Rel M2 := by
  have e92 : M2 92 1 = 0 := by rw [h2, up_ne (by decide), h1]; exact up_s
  refine rel_keep2 h (fun i hi => by rw [h2, up_ne (by omega), h1, up_ne (by omega)]) (by rw [h2, up_o (by decide), h1, up_ne (by decide)]) ⟨by rw [e92]; decide, fun k hk => by rw [e92] at hk; omega⟩ ⟨by rw [e92, h2]; exact up_s, by rw [e92]; decide, fun k hk => by rw [e92] at hk; omega⟩
theorem rel_fault {el : Int} (h : Rel M) (h1 : ParR M el M1) (h2 : FrW M1 M2) : Rel M2 := by
  obtain ⟨p1, p2, p3, p4⟩ := h1
  obtain ⟨f1, f2, f3⟩ := h2
  have hx := h.2.2.2.2
  have ht := h.1.2.2.2.2.1
  have e : ∀ i, i ≠ 92 → i ≠ 95 → i ≠ 97 → i ≠ 99 → i ≠ 100 → i ≠ 104 → i ≠ 105 → M2 i = M i := fun i a b c d e f g => (f1 i e f g).trans (p4 i a b c d)
  have e92 : M2 92 1 = M 92 1 := by rw [f1 92 (by decide) (by decide) (by decide)]; exact p3
  have e94 : M2 94 = M 94 := e 94 (by decide) (by decide) (by decide) (by decide) (by decide) (by decide) (by decide)
  refine rel_keep2 h (fun i hi => e i (by omega) (by omega) (by omega) (by omega) (by omega) (by omega) (by omega)) (by rw [f2, p4 100 (by decide) (by decide) (by decide) (by decide)]) ?_ ?_
  · unfold TxtOK at ht ⊢
    rw [e92, e94]; exact ht
  · unfold TxM at hx ⊢
    rw [e92, e94, f3, p4 100 (by decide) (by decide) (by decide) (by decide), e 103 (by decide) (by decide) (by decide) (by decide) (by decide) (by decide) (by decide)]
    exact hx
end Op8

