theorem up_f (Z : ev_M) (a k : Nat) (x : Int) : up Z a k x a = fun i => if i = k then x else Z a i := by
  funext i
  rw [up_at]
  by_cases h : i = k
  · rw [if_pos ⟨rfl, h⟩, if_pos h]
  · rw [if_neg (fun z => h z.2), if_neg h]
theorem up_o {M : ev_M} {a k j : Nat} {x : Int} (h : j ≠ k) (i : Nat) : up M a k x i j = M i j := if_neg (fun q => h q.2)
theorem up_s {M : ev_M} {a k : Nat} {x : Int} : up M a k x a k = x := if_pos ⟨rfl, rfl⟩
theorem cV_at {M M' : ev_M} {s : Nat} (h : ∀ i, s + 1 ≤ i → i ≤ s + 12 → M' i = M i) : cV M' s = cV M s := by
  unfold cV
  rw [h (s + 1) (by omega) (by omega), h (s + 3) (by omega) (by omega), h (s + 5) (by omega) (by omega), h (s + 7) (by omega) (by omega), h (s + 8) (by omega) (by omega), h (s + 10) (by omega) (by omega), h (s + 12) (by omega) (by omega)]
/-- a state's place -/
def gaS (s : Nat) : Prop := s = 1 ∨ (16 ≤ s ∧ s ≤ 68 ∧ (s + 10) % 13 = 0)
/-- places of the states' rows that lie behind the rows' ends -/
def gaB (i c : Nat) : Prop := ∃ s, gaS s ∧ ((i = s + 3 ∨ i = s + 5 ∨ i = s + 7) ∧ 16 ≤ c ∨ i = s + 10 ∧ 96 ≤ c ∨ i = s + 12 ∧ 768 ≤ c)
/-- behind the rows' ends all is 0 -/
def Ga (M : ev_M) : Prop := ∀ i c, gaB i c → M i c = 0
theorem Ga.of {M M' : ev_M} (h : Ga M) (h2 : ∀ i c, gaB i c → M' i c = M i c) : Ga M' := fun i c q => (h2 i c q).trans (h i c q)
theorem gaS1 : gaS 1 := Or.inl rfl
theorem gaS_slo {M : ev_M} (k : Int) : gaS (slo M k) := Or.inr (by unfold slo; omega)
theorem scM_ga {M : ev_M} {s s2 : Nat} (hs : gaS s) (i c : Nat) (q : gaB i c) : scM M s s2 i c = M i c := by
  obtain ⟨t, ht, hq⟩ := q
  unfold gaS at hs ht
  unfold scM rcM tcM
  have a1 : ¬ (i = s + 12 ∧ c < 768) := by omega
  have a2 : ¬ (i = s + 10 ∧ c < 96) := by omega
  have a3 : ¬ (i = s + 8 ∧ c = 0) := by omega
  have a4 : ¬ (i = s + 7 ∧ c < 16) := by omega
  have a5 : ¬ (i = s + 5 ∧ c < 16) := by omega
  have a6 : ¬ (i = s + 3 ∧ c < 16) := by omega
  have a7 : ¬ (i = s + 1 ∧ c = 0) := by omega
  rw [cp_at, if_neg a1, cp_at, if_neg a2, up_at, if_neg a3, cp_at, if_neg a4, cp_at, if_neg a5, cp_at, if_neg a6, up_at, if_neg a7]
/-- a copied state shows just what it was copied from -/
theorem scM_eq {M : ev_M} {s s2 : Nat} (hG : Ga M) (hs : gaS s) (hs2 : gaS s2) (hd : s + 12 < s2 ∨ s2 + 12 < s) : cV (scM M s s2) s = cV M s2 := by
  have g : ∀ i c, gaB i c → scM M s s2 i c = 0 := fun i c q => (scM_ga hs i c q).trans (hG i c q)
  have r3 : scM M s s2 (s + 3) = M (s2 + 3) := by
    funext c
    by_cases q : c < 16
    · unfold scM rcM tcM
      rw [cp_at, if_neg (by omega), cp_at, if_neg (by omega), up_at, if_neg (by omega), cp_at, if_neg (by omega), cp_at, if_neg (by omega), cp_at, if_pos ⟨rfl, q⟩, up_at, if_neg (by omega)]
    · rw [g _ _ ⟨s, hs, by omega⟩, hG _ _ ⟨s2, hs2, by omega⟩]
  have r5 : scM M s s2 (s + 5) = M (s2 + 5) := by
    funext c
    by_cases q : c < 16
    · unfold scM rcM tcM
      rw [cp_at, if_neg (by omega), cp_at, if_neg (by omega), up_at, if_neg (by omega), cp_at, if_neg (by omega), cp_at, if_pos ⟨rfl, q⟩, cp_at, if_neg (by omega), up_at, if_neg (by omega)]
    · rw [g _ _ ⟨s, hs, by omega⟩, hG _ _ ⟨s2, hs2, by omega⟩]
  have r7 : scM M s s2 (s + 7) = M (s2 + 7) := by
    funext c
    by_cases q : c < 16
    · unfold scM rcM tcM
      rw [cp_at, if_neg (by omega), cp_at, if_neg (by omega), up_at, if_neg (by omega), cp_at, if_pos ⟨rfl, q⟩, cp_at, if_neg (by omega), cp_at, if_neg (by omega), up_at, if_neg (by omega)]
    · rw [g _ _ ⟨s, hs, by omega⟩, hG _ _ ⟨s2, hs2, by omega⟩]
  have r10 : scM M s s2 (s + 10) = M (s2 + 10) := by
    funext c
    by_cases q : c < 96
    · unfold scM rcM tcM
      rw [cp_at, if_neg (by omega), cp_at, if_pos ⟨rfl, q⟩, up_at, if_neg (by omega), cp_at, if_neg (by omega), cp_at, if_neg (by omega), cp_at, if_neg (by omega), up_at, if_neg (by omega)]
    · rw [g _ _ ⟨s, hs, by omega⟩, hG _ _ ⟨s2, hs2, by omega⟩]
  have r12 : scM M s s2 (s + 12) = M (s2 + 12) := by
    funext c
    by_cases q : c < 768
    · unfold scM rcM tcM
      rw [cp_at, if_pos ⟨rfl, q⟩, cp_at, if_neg (by omega), up_at, if_neg (by omega), cp_at, if_neg (by omega), cp_at, if_neg (by omega), cp_at, if_neg (by omega), up_at, if_neg (by omega)]
    · rw [g _ _ ⟨s, hs, by omega⟩, hG _ _ ⟨s2, hs2, by omega⟩]
  have e1 : scM M s s2 (s + 1) 0 = M (s2 + 1) 0 := by
    unfold scM rcM tcM
    rw [cp_ne (by omega), cp_ne (by omega), up_ne (by omega), cp_ne (by omega), cp_ne (by omega), cp_ne (by omega)]
    exact up_s
  have e8 : scM M s s2 (s + 8) 0 = M (s2 + 8) 0 := by
    unfold scM rcM tcM
    rw [cp_ne (by omega), cp_ne (by omega), up_s, cp_ne (by omega), cp_ne (by omega), cp_ne (by omega), up_ne (by omega)]
  unfold cV
  rw [r3, r5, r7, r10, r12, e1, e8]
section Hi
variable {M M1 M2 : ev_M} {v u : Vw} {us : List Vw}
theorem slo_ne {o j k : Int} (ho : 0 ≤ o ∧ o < 5) (hj : 0 ≤ j ∧ j < 5) (hk : 0 ≤ k ∧ k < 5) (hne : j ≠ k) : 16 + 13 * ((o + j) % 5).toNat + 12 < 16 + 13 * ((o + k) % 5).toNat ∨ 16 + 13 * ((o + k) % 5).toNat + 12 < 16 + 13 * ((o + j) % 5).toNat := by omega
/-- the history's latest states, the latest first -/
def Tp (us : List Vw) (M : ev_M) : Prop := (us.length : Int) ≤ M 14 2 ∧ ∀ (j : Nat) (w : Vw), us[j]? = some w → cV M (slo M (M 14 2 - 1 - (j : Int))) = w
/-- the class stands, shows v, and us lie in its history -/
def J (v : Vw) (us : List Vw) (M : ev_M) : Prop := IC M ∧ Ga M ∧ cV M 1 = v ∧ Tp us M
theorem recM_ga (hG : Ga M) : Ga (recM M) := by
  refine hG.of (fun i c q => ?_)
  have q2 := q
  obtain ⟨t, ht, hq⟩ := q
  unfold gaS at ht
  unfold recM
  split
  · rw [up_ne (by omega)]; exact scM_ga (gaS_slo _) i c q2
  · rw [up_ne (by omega)]; exact scM_ga (gaS_slo _) i c q2
theorem begM_ga (hG : Ga M) : Ga (begM M) := by
  refine (recM_ga hG).of (fun i c q => ?_)
  obtain ⟨t, ht, hq⟩ := q
  unfold gaS at ht
  unfold begM
  rw [up_ne (by omega)]
/-- the history behind a record: one more, or the oldest fallen out -/
theorem recM_H (hG : Ga M) (ho : 0 ≤ M 14 1 ∧ M 14 1 < 5) (hk : 0 ≤ M 14 2 ∧ M 14 2 ≤ 5) : (recM M 14 2 = M 14 2 + 1 ∧ M 14 2 < 5 ∨ recM M 14 2 = 5 ∧ M 14 2 = 5) ∧ (0 ≤ recM M 14 1 ∧ recM M 14 1 < 5) ∧ (∀ k : Int, 0 ≤ k → k < M 14 2 → 0 ≤ recM M 14 2 - 1 - (M 14 2 - k) → cV (recM M) (slo (recM M) (recM M 14 2 - 1 - (M 14 2 - k))) = cV M (slo M k)) ∧ cV (recM M) (slo (recM M) (recM M 14 2 - 1)) = cV M 1 := by
  have hr := slo_rng (M := M) (k := M 14 2) ho hk.1
  have h14 : ∀ i, scM M (slo M (M 14 2)) 1 14 i = M 14 i := fun i => by rw [scM_o (by omega)]
  have hve := scM_eq (M := M) (s := slo M (M 14 2)) (s2 := 1) hG (gaS_slo _) gaS1 (by omega)
  have hup : ∀ (Z : ev_M) (c : Nat) (x : Int) (s : Nat), 16 ≤ s → cV (up Z 14 c x) s = cV Z s := fun Z c x s hs => cV_at (fun i a b => up_ne (by omega))
  by_cases h5 : M 14 2 = 5
  · have er : recM M = up (scM M (slo M (M 14 2)) 1) 14 1 ((M 14 1 + 1) % 5) := by rw [recM, if_neg (by omega)]
    have e1 : recM M 14 1 = (M 14 1 + 1) % 5 := by rw [er]; exact up_s
    have e2 : recM M 14 2 = 5 := by rw [er, up_o (by decide)]; rw [h14 2]; exact h5
    refine ⟨Or.inr ⟨e2, h5⟩, by rw [e1]; omega, fun k k0 k1 k2 => ?_, ?_⟩
    · rw [e2, h5] at k2 ⊢
      have e3 : slo (recM M) (5 - 1 - (5 - k)) = slo M k := by unfold slo; rw [e1]; omega
      have hb := slo_rng (M := M) (k := k) ho k0
      rw [e3, er, hup _ _ _ _ hb.1]
      refine cV_at (fun i a b => scM_o ?_)
      have hne := slo_ne (o := M 14 1) (j := k) (k := 0) ho (by omega) (by omega) (by omega)
      unfold slo at a b ⊢
      rw [h5]
      omega
    · have e3 : slo (recM M) (recM M 14 2 - 1) = slo M (M 14 2) := by unfold slo; rw [e1, e2, h5]; omega
      rw [e3, er, hup _ _ _ _ hr.1]
      exact hve
  · have er : recM M = up (scM M (slo M (M 14 2)) 1) 14 2 (M 14 2 + 1) := by rw [recM, if_pos (by omega)]
    have e1 : recM M 14 1 = M 14 1 := by rw [er, up_o (by decide)]; exact h14 1
    have e2 : recM M 14 2 = M 14 2 + 1 := by rw [er]; exact up_s
    refine ⟨Or.inl ⟨e2, by omega⟩, by rw [e1]; exact ho, fun k k0 k1 k2 => ?_, ?_⟩
    · have e3 : slo (recM M) (recM M 14 2 - 1 - (M 14 2 - k)) = slo M k := by unfold slo; rw [e1, e2, show M 14 2 + 1 - 1 - (M 14 2 - k) = k by omega]
      have hb := slo_rng (M := M) (k := k) ho k0
      rw [e3, er, hup _ _ _ _ hb.1]
      refine cV_at (fun i a b => scM_o ?_)
      have hne := slo_ne (o := M 14 1) (j := k) (k := M 14 2) ho (by omega) (by omega) (by omega)
      unfold slo at a b ⊢
      omega
    · have e3 : slo (recM M) (recM M 14 2 - 1) = slo M (M 14 2) := by unfold slo; rw [e1, e2, show M 14 2 + 1 - 1 = M 14 2 by omega]
      rw [e3, er, hup _ _ _ _ hr.1]
      exact hve
/-- a change -/
theorem J_step (h : J v us M) (hl : us.length ≤ 4) (h1 : ∀ i, 14 ≤ i → M1 i = begM M i) (hW : Wf (cV M1 1)) (hG1 : Ga M1) : J (cV M1 1) (v :: us) M1 := by
  obtain ⟨⟨i1, i2, i3, i4, i5, i6, i7⟩, hG, hv, t1, t2⟩ := h
  obtain ⟨c1, c2, c3, c4⟩ := recM_H hG i2 i3
  have bg : ∀ i, i ≠ 81 → begM M i = recM M i := fun i hi => by unfold begM; exact up_ne hi
  have e14 : M1 14 = recM M 14 := by rw [h1 14 (by decide), bg 14 (by decide)]
  have esl : ∀ k : Int, slo M1 k = slo (recM M) k := fun k => by unfold slo; rw [e14]
  have ev : ∀ k : Int, 0 ≤ k → cV M1 (slo M1 k) = cV (recM M) (slo (recM M) k) := fun k hk => by
    have hr := slo_rng (M := recM M) (k := k) c2 hk
    rw [esl]
    exact cV_at (fun i a b => by rw [h1 i (by omega), bg i (by omega)])
  have e92 : ∀ i, 82 ≤ i → M1 i = M i := fun i a => by rw [h1 i (by omega), begM_o i2 i3.1 (by omega)]
  have e81 : M1 81 0 = 0 := by rw [h1 81 (by decide)]; exact up_s
  have top : cV M1 (slo M1 (M1 14 2 - 1)) = v := by
    rw [e14, ev _ (by omega), c4, hv]
  have low : ∀ k : Int, 0 ≤ k → k < M 14 2 → 0 ≤ M1 14 2 - 1 - (M 14 2 - k) → cV M1 (slo M1 (M1 14 2 - 1 - (M 14 2 - k))) = cV M (slo M k) := fun k k0 k1 k2 => by
    rw [e14] at k2 ⊢
    rw [ev _ k2, c3 k k0 k1 k2]
  have n2 : M1 14 2 = M 14 2 + 1 ∧ M 14 2 < 5 ∨ M1 14 2 = 5 ∧ M 14 2 = 5 := by rw [e14]; exact c1
  refine ⟨⟨hW, by rw [e14]; exact c2, by omega, fun k hk => ?_, ?_, Or.inl e81, fun q => by omega⟩, hG1, rfl, ?_, fun j w hj => ?_⟩
  · by_cases q : (k : Int) = M1 14 2 - 1
    · rw [q, top, ← hv]; exact i1
    · have := low ((k : Int) - (M1 14 2 - 1 - M 14 2)) (by omega) (by omega) (by omega)
      rw [show M1 14 2 - 1 - (M 14 2 - ((k : Int) - (M1 14 2 - 1 - M 14 2))) = (k : Int) by omega] at this
      rw [this]
      have := i4 ((k : Int) - (M1 14 2 - 1 - M 14 2)).toNat (by omega)
      rw [Int.toNat_of_nonneg (by omega)] at this
      exact this
  · unfold TxtOK at i5 ⊢
    rw [e92 92 (by decide), e92 94 (by decide)]
    exact i5
  · rw [List.length_cons]; omega
  · match j, hj with
    | 0, hj =>
      cases hj
      rw [show M1 14 2 - 1 - ((0 : Nat) : Int) = M1 14 2 - 1 by omega]
      exact top
    | j + 1, hj =>
      rw [List.getElem?_cons_succ] at hj
      have hjl : j < us.length := (List.getElem?_eq_some_iff.mp hj).1
      have := low (M 14 2 - 1 - (j : Int)) (by omega) (by omega) (by omega)
      rw [show M1 14 2 - 1 - (M 14 2 - (M 14 2 - 1 - (j : Int))) = M1 14 2 - 1 - ((j + 1 : Nat) : Int) by omega] at this
      rw [this]
      exact t2 j w hj
theorem J_undo (h : J v (u :: us) M) (h1 : M1 = up (resM M) 81 0 0) : J u us M1 := by
  obtain ⟨⟨i1, i2, i3, i4, i5, i6, i7⟩, hG, hv, t1, t2⟩ := h
  rw [List.length_cons] at t1
  obtain ⟨s, hss⟩ : ∃ s : Nat, M 14 2 - 1 = (s : Int) := ⟨(M 14 2 - 1).toNat, by omega⟩
  have hr := slo_rng (M := M) (k := (s : Int)) i2 (by omega)
  have hve := scM_eq (M := M) (s := 1) (s2 := slo M (s : Int)) hG gaS1 (gaS_slo _) (by omega)
  have o1 : ∀ i, i = 0 ∨ 14 ≤ i → i ≠ 14 → i ≠ 81 → M1 i = M i := fun i a b c => by rw [h1, up_ne c]; unfold resM; rw [up_ne b, hss, scM_o (by omega)]
  have e14a : M1 14 1 = M 14 1 := by rw [h1, up_ne (by decide)]; unfold resM; rw [up_o (by decide), hss, scM_o (by omega)]
  have e14b : M1 14 2 = (s : Int) := by rw [h1, up_ne (by decide)]; unfold resM; rw [up_s, hss]
  have e1v : cV M1 1 = cV (scM M 1 (slo M (s : Int))) 1 := cV_at (fun i a b => by rw [h1, up_ne (by omega)]; unfold resM; rw [up_ne (by omega), hss])
  have hu : cV M (slo M (s : Int)) = u := by
    have := t2 0 u rfl
    rw [show M 14 2 - 1 - ((0 : Nat) : Int) = (s : Int) by omega] at this
    exact this
  have e1 : cV M1 1 = u := by rw [e1v, hve, hu]
  have esl : ∀ k : Int, slo M1 k = slo M k := fun k => by unfold slo; rw [e14a]
  have ev : ∀ k : Int, 0 ≤ k → cV M1 (slo M1 k) = cV M (slo M k) := fun k hk => by
    have hr := slo_rng (M := M) (k := k) i2 hk
    rw [esl]
    exact cV_at (fun i a b => o1 i (by omega) (by omega) (by omega))
  have e81 : M1 81 0 = 0 := by rw [h1]; exact up_s
  have hwo := i4 s (by omega)
  refine ⟨⟨by rw [e1, ← hu]; exact hwo, by rw [e14a]; exact i2, by rw [e14b]; omega, fun k hk => by rw [ev _ (by omega)]; rw [e14b] at hk; exact i4 k (by omega), ?_, Or.inl e81, fun q => by omega⟩, ?_, e1, by rw [e14b]; omega, fun j w hj => ?_⟩
  · unfold TxtOK at i5 ⊢
    rw [o1 92 (by omega) (by decide) (by decide), o1 94 (by omega) (by decide) (by decide)]
    exact i5
  · refine hG.of (fun i c q => ?_)
    have q2 := q
    obtain ⟨t, ht, hq⟩ := q
    unfold gaS at ht
    rw [h1, up_ne (by omega)]
    unfold resM
    rw [up_ne (by omega)]
    exact scM_ga gaS1 i c q2
  · have hjl : j < us.length := (List.getElem?_eq_some_iff.mp hj).1
    rw [e14b, ev _ (by omega)]
    have := t2 (j + 1) w (by rw [List.getElem?_cons_succ]; exact hj)
    rw [show M 14 2 - 1 - ((j + 1 : Nat) : Int) = (s : Int) - 1 - (j : Int) by omega] at this
    exact this
/-- a query -/
theorem J_query (h : J v us M) (hq : Qy M M2) : J v us M2 := by
  rcases hq with rfl | ⟨f1, f2, f3⟩
  · exact h
  · obtain ⟨⟨i1, i2, i3, i4, i5, i6, i7⟩, hG, hv, t1, t2⟩ := h
    have k : ∀ i, i < 81 ∨ 92 ≤ i → M2 i = M i := fun i hi => f1 i (by omega) (by omega) (by omega) (by omega) (by omega) (by omega)
    have e1 : cV M2 1 = cV M 1 := cV_eq (fun i hi => k i (by omega))
    have e14 : M2 14 = M 14 := k 14 (by omega)
    have esl : ∀ k : Int, slo M2 k = slo M k := fun k => by unfold slo; rw [e14]
    have ev : ∀ j : Int, 0 ≤ j → cV M2 (slo M2 j) = cV M (slo M j) := fun j hj => by
      have hr := slo_rng (M := M) (k := j) i2 hj
      rw [esl]
      exact cV_at (fun i a b => k i (by omega))
    refine ⟨⟨by rw [e1]; exact i1, by rw [e14]; exact i2, by rw [e14]; exact i3, fun j hj => by rw [ev _ (by omega)]; rw [e14] at hj; exact i4 j hj, ?_, Or.inr f3, fun _ => by rw [e1]; exact f2⟩, ?_, e1.trans hv, by rw [e14]; exact t1, fun j w hj => ?_⟩
    · unfold TxtOK at i5 ⊢
      rw [k 92 (by omega), k 94 (by omega)]; exact i5
    · refine hG.of (fun i c q => ?_)
      obtain ⟨t, ht, hq⟩ := q
      unfold gaS at ht
      rw [k i (by omega)]
    · have hjl : j < us.length := (List.getElem?_eq_some_iff.mp hj).1
      rw [e14, ev _ (by omega)]
      exact t2 j w hj
theorem J.nil (h : J v us M) : J v [] M := ⟨h.1, h.2.1, h.2.2.1, by
  have := h.1.2.2.1
  show ((0 : Nat) : Int) ≤ _
  omega, fun j w hj => by cases hj⟩
end Hi

