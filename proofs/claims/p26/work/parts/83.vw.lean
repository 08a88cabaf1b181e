section Vws
variable {v v' : Vw}
theorem add_w {n : Nat} {p k c : Int} (hW : Wf v) (hn : vel v = (n : Int)) (hn2 : n < 16) (hp : 0 ≤ p ∧ p < n) (hk : 0 ≤ k ∧ k ≤ 5) (hc : 0 ≤ c ∧ c ≤ 15) (e1 : vel v' = vel v + 1) (e2 : vrn v' = vrn v) (e3 : ∀ i, vpar v' i = (if i = n then p else vpar v i) ∧ vknd v' i = (if i = n then k else vknd v i) ∧ vcls v' i = (if i = n then c else vcls v i)) (e4 : vpt v' = vpt v) (e5 : ven v' = ven v) : Wf v' := by
  obtain ⟨h1, h2, h3, h4, h5⟩ := hW
  refine ⟨by omega, by rw [e2]; exact h2, fun i hi => ?_, fun r hr => ?_, fun r q hr hq => ?_⟩
  · obtain ⟨u1, u2, u3⟩ := e3 i
    rw [u1, u2, u3]
    by_cases q : i = n
    · rw [if_pos q, if_pos q, if_pos q]; omega
    · rw [if_neg q, if_neg q, if_neg q]; exact h3 i (by omega)
  · rw [e2] at hr
    rw [e1, e4]
    have := h4 r hr
    omega
  · rw [e2] at hr
    rw [e5]
    exact h5 r q hr hq
theorem dress_w {e : Nat} {k c : Int} (hW : Wf v) (hk : 0 ≤ k ∧ k ≤ 5) (hc : 0 ≤ c ∧ c ≤ 15) (e1 : vel v' = vel v) (e2 : vrn v' = vrn v) (e3 : ∀ i, vpar v' i = vpar v i ∧ vknd v' i = (if i = e then k else vknd v i) ∧ vcls v' i = (if i = e then c else vcls v i)) (e4 : vpt v' = vpt v) (e5 : ven v' = ven v) : Wf v' := by
  obtain ⟨h1, h2, h3, h4, h5⟩ := hW
  refine ⟨by omega, by rw [e2]; exact h2, fun i hi => ?_, fun r hr => ?_, fun r q hr hq => ?_⟩
  · obtain ⟨u1, u2, u3⟩ := e3 i
    rw [u1, u2, u3]
    have := h3 i (by omega)
    by_cases q : i = e
    · rw [if_pos q, if_pos q]; exact ⟨this.1, hk, hc⟩
    · rw [if_neg q, if_neg q]; exact this
  · rw [e2] at hr
    rw [e1, e4]
    exact h4 r hr
  · rw [e2] at hr
    rw [e5]
    exact h5 r q hr hq
theorem lay_w {r p : Nat} (hW : Wf v) (hN : (-1 ≤ ven v' r p 0 ∧ ven v' r p 0 ≤ 999) ∧ (ven v' r p 1 = -1 ∨ 8 ≤ ven v' r p 1 ∧ ven v' r p 1 ≤ 15) ∧ (-1 ≤ ven v' r p 2 ∧ ven v' r p 2 ≤ 999) ∧ (ven v' r p 0 ≠ -1 → ven v' r p 1 = -1) ∧ (ven v' r p 1 = -1 → ven v' r p 2 = -1)) (e1 : vel v' = vel v) (e2 : vrn v' = vrn v) (e3 : vpar v' = vpar v ∧ vknd v' = vknd v ∧ vcls v' = vcls v) (e4 : vpt v' = vpt v) (e5 : ∀ r' p' w, w < 3 → p' < 16 → ¬ (r' = r ∧ p' = p) → ven v' r' p' w = ven v r' p' w) : Wf v' := by
  obtain ⟨h1, h2, h3, h4, h5⟩ := hW
  refine ⟨by omega, by rw [e2]; exact h2, fun i hi => ?_, fun r' hr' => ?_, fun r' q hr' hq => ?_⟩
  · rw [e3.1, e3.2.1, e3.2.2]
    exact h3 i (by omega)
  · rw [e2] at hr'
    rw [e1, e4]
    exact h4 r' hr'
  · rw [e2] at hr'
    by_cases z : r' = r ∧ q = p
    · rw [z.1, z.2]; exact hN
    · rw [e5 r' q 0 (by decide) hq z, e5 r' q 1 (by decide) hq z, e5 r' q 2 (by decide) hq z]
      exact h5 r' q hr' hq
def sh (r i : Nat) : Nat := if r ≤ i then i + 1 else i
theorem drop_w {r m : Nat} (hW : Wf v) (hm : vrn v = (m : Int) + 1) (hr : r ≤ m) (e1 : vel v' = vel v) (e2 : vrn v' = vrn v - 1) (e3 : vpar v' = vpar v ∧ vknd v' = vknd v ∧ vcls v' = vcls v) (e4 : ∀ i w, i < m → w < 6 → vpt v' i w = vpt v (sh r i) w) (e5 : ∀ i p w, i < m → p < 16 → w < 3 → ven v' i p w = ven v (sh r i) p w) : Wf v' := by
  obtain ⟨h1, h2, h3, h4, h5⟩ := hW
  have hsh : ∀ i, i < m → ((sh r i : Nat) : Int) < vrn v := fun i hi => by unfold sh; split <;> omega
  refine ⟨by omega, by omega, fun i hi => ?_, fun i hi => ?_, fun i q hi hq => ?_⟩
  · rw [e3.1, e3.2.1, e3.2.2]
    exact h3 i (by omega)
  · rw [e1, e4 i 0 (by omega) (by decide), e4 i 1 (by omega) (by decide), e4 i 2 (by omega) (by decide), e4 i 3 (by omega) (by decide), e4 i 4 (by omega) (by decide), e4 i 5 (by omega) (by decide)]
    exact h4 _ (hsh i (by omega))
  · rw [e5 i q 0 (by omega) hq (by decide), e5 i q 1 (by omega) hq (by decide), e5 i q 2 (by omega) hq (by decide)]
    exact h5 _ q (hsh i (by omega)) hq
theorem app_w {n : Nat} (hW : Wf v) (hn : vrn v = (n : Int)) (hn2 : n < 16) (e1 : vel v' = vel v) (e2 : vrn v' = vrn v + 1) (e3 : vpar v' = vpar v ∧ vknd v' = vknd v ∧ vcls v' = vcls v) (e4 : ∀ i w, i < n → w < 6 → vpt v' i w = vpt v i w) (e5 : ∀ i p w, i < n → p < 16 → w < 3 → ven v' i p w = ven v i p w) (hp : (-1 ≤ vpt v' n 0 ∧ vpt v' n 0 ≤ 5) ∧ (0 ≤ vpt v' n 1 ∧ vpt v' n 1 ≤ 15) ∧ (-1 ≤ vpt v' n 2 ∧ vpt v' n 2 ≤ 5) ∧ (0 ≤ vpt v' n 3 ∧ vpt v' n 3 ≤ 3) ∧ (-1 ≤ vpt v' n 4 ∧ vpt v' n 4 < vel v) ∧ (0 ≤ vpt v' n 5 ∧ vpt v' n 5 ≤ 1)) (hN : ∀ p, p < 16 → ((-1 ≤ ven v' n p 0 ∧ ven v' n p 0 ≤ 999) ∧ (ven v' n p 1 = -1 ∨ 8 ≤ ven v' n p 1 ∧ ven v' n p 1 ≤ 15) ∧ (-1 ≤ ven v' n p 2 ∧ ven v' n p 2 ≤ 999) ∧ (ven v' n p 0 ≠ -1 → ven v' n p 1 = -1) ∧ (ven v' n p 1 = -1 → ven v' n p 2 = -1))) : Wf v' := by
  obtain ⟨h1, h2, h3, h4, h5⟩ := hW
  refine ⟨by omega, by omega, fun i hi => ?_, fun i hi => ?_, fun i q hi hq => ?_⟩
  · rw [e3.1, e3.2.1, e3.2.2]
    exact h3 i (by omega)
  · by_cases z : i = n
    · rw [z, e1]; exact hp
    · rw [e1, e4 i 0 (by omega) (by decide), e4 i 1 (by omega) (by decide), e4 i 2 (by omega) (by decide), e4 i 3 (by omega) (by decide), e4 i 4 (by omega) (by decide), e4 i 5 (by omega) (by decide)]
      exact h4 _ (by omega)
  · by_cases z : i = n
    · rw [z]; exact hN q hq
    · rw [e5 i q 0 (by omega) hq (by decide), e5 i q 1 (by omega) hq (by decide), e5 i q 2 (by omega) hq (by decide)]
      exact h5 _ q (by omega) hq
end Vws
section Chg
variable {M M1 : ev_M} {v : Vw} {us : List Vw}
theorem Ga.up {a k : Nat} {x : Int} (h : Ga M) (hn : ¬ gaB a k) : Ga (up M a k x) := h.of (fun i c q => by
  rw [up_at]
  by_cases z : i = a ∧ c = k
  · rw [z.1, z.2] at q; exact absurd q hn
  · rw [if_neg z])
theorem J_add {p k c : Int} (h : J v us M) (hl : us.length ≤ 4) (hg : (0 ≤ p ∧ p < M 2 0) ∧ (0 ≤ k ∧ k ≤ 5) ∧ (0 ≤ c ∧ c ≤ 15)) (hn : M 2 0 < 16) (h1 : M1 = adM (begM M) p k c) : ∃ v', J v' (v :: us) M1 := by
  have ho := h.1.2.1
  have hk := h.1.2.2.1.1
  have b : ∀ i, i ≤ 13 → begM M i = M i := fun i hi => begM_o ho hk (Or.inl hi)
  have hv := h.1.1.1
  have hv0 : vel (cV M 1) = M 2 0 := rfl
  have hW := add_w (v := cV M 1) (v' := cV M1 1) (n := (M 2 0).toNat) (p := p) (k := k) (c := c) h.1.1 (by rw [hv0]; omega) (by omega) (by omega) hg.2.1 hg.2.2 (by subst h1; show adM (begM M) p k c 2 0 = M 2 0 + 1; unfold adM; rw [b 2 (by decide)]; exact up_s) (by subst h1; show adM (begM M) p k c 9 0 = M 9 0; unfold adM; rw [up_ne (by decide), up_ne (by decide), up_ne (by decide), up_ne (by decide), b 9 (by decide)]) (fun i => by
    subst h1
    refine ⟨?_, ?_, ?_⟩
    · show adM (begM M) p k c 4 i = _
      unfold adM
      rw [up_ne (by decide), up_ne (by decide), up_ne (by decide), up_f, b 2 (by decide), b 4 (by decide)]
      rfl
    · show adM (begM M) p k c 6 i = _
      unfold adM
      rw [up_ne (by decide), up_ne (by decide), up_f, up_ne (by decide), b 2 (by decide), b 6 (by decide)]
      rfl
    · show adM (begM M) p k c 8 i = _
      unfold adM
      rw [up_ne (by decide), up_f, up_ne (by decide), up_ne (by decide), b 2 (by decide), b 8 (by decide)]
      rfl) (by subst h1; funext r w; show adM (begM M) p k c 11 _ = M 11 _; unfold adM; rw [up_ne (by decide), up_ne (by decide), up_ne (by decide), up_ne (by decide), b 11 (by decide)]) (by subst h1; funext r q w; show adM (begM M) p k c 13 _ = M 13 _; unfold adM; rw [up_ne (by decide), up_ne (by decide), up_ne (by decide), up_ne (by decide), b 13 (by decide)])
  refine ⟨_, J_step h hl (fun i hi => ?_) hW ?_⟩
  · subst h1
    unfold adM
    rw [up_ne (by omega), up_ne (by omega), up_ne (by omega), up_ne (by omega)]
  · subst h1
    unfold adM
    rw [b 2 (by decide)]
    exact (((((begM_ga h.2.1).up (fun ⟨t, ht, hq⟩ => by unfold gaS at ht; omega)).up (fun ⟨t, ht, hq⟩ => by unfold gaS at ht; omega)).up (fun ⟨t, ht, hq⟩ => by unfold gaS at ht; omega)).up (fun ⟨t, ht, hq⟩ => by unfold gaS at ht; omega))
theorem J_dress {e k c : Int} (h : J v us M) (hl : us.length ≤ 4) (hg : (0 ≤ e ∧ e < M 2 0) ∧ (0 ≤ k ∧ k ≤ 5) ∧ (0 ≤ c ∧ c ≤ 15)) (h1 : M1 = up (up (begM M) 6 e.toNat k) 8 e.toNat c) : ∃ v', J v' (v :: us) M1 := by
  have ho := h.1.2.1
  have hk := h.1.2.2.1.1
  have b : ∀ i, i ≤ 13 → begM M i = M i := fun i hi => begM_o ho hk (Or.inl hi)
  have hv := h.1.1.1
  have hv0 : vel (cV M 1) = M 2 0 := rfl
  have o : ∀ i, i ≤ 13 → i ≠ 6 → i ≠ 8 → M1 i = M i := fun i a b6 b8 => by rw [h1, up_ne b8, up_ne b6, b i a]
  have hW := dress_w (v := cV M 1) (v' := cV M1 1) (e := e.toNat) (k := k) (c := c) h.1.1 hg.2.1 hg.2.2 (congrFun (o 2 (by decide) (by decide) (by decide)) 0) (congrFun (o 9 (by decide) (by decide) (by decide)) 0) (fun i => by
    refine ⟨congrFun (o 4 (by decide) (by decide) (by decide)) i, ?_, ?_⟩
    · show M1 6 i = _
      rw [h1, up_ne (by decide), up_f, b 6 (by decide)]
      rfl
    · show M1 8 i = _
      rw [h1, up_f, up_ne (by decide), b 8 (by decide)]
      rfl) (by funext r w; exact congrFun (o 11 (by decide) (by decide) (by decide)) _) (by funext r q w; exact congrFun (o 13 (by decide) (by decide) (by decide)) _)
  refine ⟨_, J_step h hl (fun i hi => ?_) hW ?_⟩
  · rw [h1, up_ne (by omega), up_ne (by omega)]
  · rw [h1]
    exact (((begM_ga h.2.1).up (fun ⟨t, ht, hq⟩ => by unfold gaS at ht; omega)).up (fun ⟨t, ht, hq⟩ => by unfold gaS at ht; omega))
theorem ly_ven {r p : Nat} {n c b : Int} (ho : 0 ≤ M 14 1 ∧ M 14 1 < 5) (hk : 0 ≤ M 14 2) (hp : p < 16) (h1 : M1 = lyM (begM M) r p n c b) : ∀ r' p' w, w < 3 → p' < 16 → ven (cV M1 1) r' p' w = if r' = r ∧ p' = p then (if w = 0 then n else if w = 1 then c else b) else ven (cV M 1) r' p' w := fun r' p' w hw hp' => by
  have b13 : begM M 13 = M 13 := begM_o ho hk (Or.inl (by decide))
  show M1 13 (48 * r' + 3 * p' + w) = if r' = r ∧ p' = p then _ else M 13 (48 * r' + 3 * p' + w)
  rw [h1]
  unfold lyM
  rw [up_at, up_at, up_at, b13]
  by_cases z : r' = r ∧ p' = p
  · rw [if_pos z, z.1, z.2]
    rcases (show w = 0 ∨ w = 1 ∨ w = 2 by omega) with rfl | rfl | rfl
    · rw [if_neg (by omega), if_neg (by omega), if_pos (by omega)]; rfl
    · rw [if_neg (by omega), if_pos (by omega)]; rfl
    · rw [if_pos (by omega)]; rfl
  · have hne : ¬ (48 * r' + 3 * p' = 48 * r + 3 * p) := fun q => z (by omega)
    rw [if_neg z, if_neg (by omega), if_neg (by omega), if_neg (by omega)]
theorem J_lay {r p : Nat} {n c b : Int} (h : J v us M) (hl : us.length ≤ 4) (hr : (r : Int) < M 9 0) (hp : p < 16) (hN : (-1 ≤ n ∧ n ≤ 999) ∧ (c = -1 ∨ 8 ≤ c ∧ c ≤ 15) ∧ (-1 ≤ b ∧ b ≤ 999) ∧ (n ≠ -1 → c = -1) ∧ (c = -1 → b = -1)) (h1 : M1 = lyM (begM M) r p n c b) : J (cV M1 1) (v :: us) M1 ∧ (∀ i, i ≤ 12 → M1 i = M i) := by
  have ho := h.1.2.1
  have hk := h.1.2.2.1.1
  have hrn := h.1.1.2.1
  have hrn0 : vrn (cV M 1) = M 9 0 := rfl
  have b13 : ∀ i, i ≤ 13 → begM M i = M i := fun i hi => begM_o ho hk (Or.inl hi)
  have o : ∀ i, i ≤ 12 → M1 i = M i := fun i a => by rw [h1]; unfold lyM; rw [up_ne (by omega), up_ne (by omega), up_ne (by omega), b13 i (by omega)]
  have ov := ly_ven ho hk hp h1
  have own : ∀ w, w < 3 → ven (cV M1 1) r p w = (if w = 0 then n else if w = 1 then c else b) := fun w hw => by rw [ov r p w hw hp, if_pos ⟨rfl, rfl⟩]
  have hW := lay_w (v := cV M 1) (v' := cV M1 1) (r := r) (p := p) h.1.1 (by rw [own 0 (by decide), own 1 (by decide), own 2 (by decide)]; exact hN) (congrFun (o 2 (by decide)) 0) (congrFun (o 9 (by decide)) 0) ⟨o 4 (by decide), o 6 (by decide), o 8 (by decide)⟩ (by funext r w; exact congrFun (o 11 (by decide)) _) (fun r' p' w hw hp' z => by rw [ov r' p' w hw hp', if_neg z])
  refine ⟨J_step h hl (fun i hi => ?_) hW ?_, o⟩
  · rw [h1]; unfold lyM; rw [up_ne (by omega), up_ne (by omega), up_ne (by omega)]
  · rw [h1]
    exact ((((begM_ga h.2.1).up (fun ⟨t, ht, hq⟩ => by unfold gaS at ht; omega)).up (fun ⟨t, ht, hq⟩ => by unfold gaS at ht; omega)).up (fun ⟨t, ht, hq⟩ => by unfold gaS at ht; omega))
theorem J_drop {r : Nat} (h : J v us M) (hl : us.length ≤ 4) (hr : (r : Int) < M 9 0) (h1 : M1 = toM (begM M) r) : ∃ v', J v' (v :: us) M1 := by
  have ho := h.1.2.1
  have hk := h.1.2.2.1.1
  have b : ∀ i, i ≤ 13 → begM M i = M i := fun i hi => begM_o ho hk (Or.inl hi)
  have hn := h.1.1.2.1
  have hn0 : vrn (cV M 1) = M 9 0 := rfl
  obtain ⟨m, hm⟩ : ∃ m : Nat, M 9 0 = (m : Int) + 1 := ⟨(M 9 0 - 1).toNat, by omega⟩
  have hm2 : (M 9 0 - 1).toNat = m := by omega
  have o : ∀ i, i ≤ 13 → i ≠ 9 → i ≠ 11 → i ≠ 13 → M1 i = M i := fun i a b9 b11 b13 => by
    rw [h1]; funext c; unfold toM
    rw [shf_at, if_neg (fun q => b13 q.1), shf_at, if_neg (fun q => b11 q.1), up_ne b9, b i a]
  have o9 : M1 9 0 = M 9 0 - 1 := by
    rw [h1]; unfold toM
    rw [shf_at, if_neg (fun q => absurd q.1 (by decide)), shf_at, if_neg (fun q => absurd q.1 (by decide)), up_s, b 9 (by decide)]
  have hW := drop_w (v := cV M 1) (v' := cV M1 1) (r := r) (m := m) h.1.1 hm (by omega) (congrFun (o 2 (by decide) (by decide) (by decide) (by decide)) 0) o9 ⟨o 4 (by decide) (by decide) (by decide) (by decide), o 6 (by decide) (by decide) (by decide) (by decide), o 8 (by decide) (by decide) (by decide) (by decide)⟩ (fun i w hi hw => by
    show M1 11 (6 * i + w) = M 11 (6 * sh r i + w)
    rw [h1]; unfold toM
    rw [shf_at, if_neg (fun q => absurd q.1 (by decide)), shf_at, b 9 (by decide), hm2, up_ne (by decide), b 11 (by decide)]
    unfold sh
    by_cases z : r ≤ i
    · rw [if_pos z, if_pos (by omega)]
      congr 1
      omega
    · rw [if_neg z, if_neg (by omega)]) (fun i p w hi hp hw => by
    show M1 13 (48 * i + 3 * p + w) = M 13 (48 * sh r i + 3 * p + w)
    rw [h1]; unfold toM
    have e13 : ∀ c, shf (up (begM M) 9 0 (begM M 9 0 - 1)) 11 (6 * r) (6 * (begM M 9 0 - 1).toNat) 6 13 c = M 13 c := fun c => by
      rw [shf_at, if_neg (fun q => absurd q.1 (by decide)), up_ne (by decide), b 13 (by decide)]
    rw [shf_at, e13, e13, b 9 (by decide), hm2]
    unfold sh
    by_cases z : r ≤ i
    · rw [if_pos z, if_pos (by omega)]
      congr 1
      omega
    · rw [if_neg z, if_neg (by omega)])
  refine ⟨_, J_step h hl (fun i hi => ?_) hW ?_⟩
  · rw [h1]; funext c; unfold toM
    rw [shf_at, if_neg (fun q => by omega), shf_at, if_neg (fun q => by omega), up_ne (by omega)]
  · refine (begM_ga h.2.1).of (fun i c q => ?_)
    obtain ⟨t, ht, hq⟩ := q
    unfold gaS at ht
    rw [h1]; unfold toM
    rw [shf_at, b 9 (by decide), hm2, if_neg (by omega), shf_at, if_neg (by omega), up_at, if_neg (by omega)]
theorem ap_o {B : ev_M} {k c a y s i : Int} {j : Nat} (h9 : j ≠ 9) (h11 : j ≠ 11) (h13 : j ≠ 13) : apM B 9 11 13 k c a y s i j = B j := by
  funext x
  unfold apM
  rw [up_ne h9, fil_at, if_neg (fun q => h13 q.1), up_ne h11, up_ne h11, up_ne h11, up_ne h11, up_ne h11, up_ne h11]
theorem ap_9 {B : ev_M} {k c a y s i : Int} : apM B 9 11 13 k c a y s i 9 0 = B 9 0 + 1 := by
  unfold apM
  exact up_s
theorem ap_11 {B : ev_M} {k c a y s i : Int} {n x : Nat} (hn : B 9 0 = (n : Int)) : apM B 9 11 13 k c a y s i 11 x = if x = 6 * n + 5 then i else if x = 6 * n + 4 then s else if x = 6 * n + 3 then y else if x = 6 * n + 2 then a else if x = 6 * n + 1 then c else if x = 6 * n then k else B 11 x := by
  unfold apM
  rw [up_ne (by decide), fil_at, if_neg (fun q => absurd q.1 (by decide)), up_f, up_f, up_f, up_f, up_f, up_f, hn, show ((n : Int) * 6 + 5).toNat = 6 * n + 5 by omega, show ((n : Int) * 6 + 4).toNat = 6 * n + 4 by omega, show ((n : Int) * 6 + 3).toNat = 6 * n + 3 by omega, show ((n : Int) * 6 + 2).toNat = 6 * n + 2 by omega, show ((n : Int) * 6 + 1).toNat = 6 * n + 1 by omega, show ((n : Int) * 6 + 0).toNat = 6 * n by omega]
theorem ap_13 {B : ev_M} {k c a y s i : Int} {n x : Nat} (hn : B 9 0 = (n : Int)) : apM B 9 11 13 k c a y s i 13 x = if 48 * n ≤ x ∧ x < 48 * n + 48 then -1 else B 13 x := by
  unfold apM
  rw [up_ne (by decide), fil_at, hn, Int.toNat_natCast]
  by_cases q : 48 * n ≤ x ∧ x < 48 * n + 48
  · rw [if_pos ⟨rfl, q⟩, if_pos q]
  · rw [if_neg (fun z => q z.2), if_neg q, up_ne (by decide), up_ne (by decide), up_ne (by decide), up_ne (by decide), up_ne (by decide), up_ne (by decide)]
/-- the view behind a new rule -/
def ApV (v v' : Vw) (n : Nat) (k c a y s i : Int) : Prop := vel v' = vel v ∧ vrn v' = vrn v + 1 ∧ (vpar v' = vpar v ∧ vknd v' = vknd v ∧ vcls v' = vcls v) ∧ (∀ j w, j < n → w < 6 → vpt v' j w = vpt v j w) ∧ (∀ j p w, j < n → p < 16 → w < 3 → ven v' j p w = ven v j p w) ∧ (vpt v' n 0 = k ∧ vpt v' n 1 = c ∧ vpt v' n 2 = a ∧ vpt v' n 3 = y ∧ vpt v' n 4 = s ∧ vpt v' n 5 = i) ∧ ∀ p w, p < 16 → w < 3 → ven v' n p w = -1
theorem J_rule {k c a y s i : Int} (h : J v us M) (hl : us.length ≤ 4) (hg : okR M k c a y s i) (hn16 : M 9 0 < 16) (h1 : M1 = apM (begM M) 9 11 13 k c a y s i) : J (cV M1 1) (v :: us) M1 ∧ ApV v (cV M1 1) (M 9 0).toNat k c a y s i := by
  have ho := h.1.2.1
  have hk := h.1.2.2.1.1
  have b : ∀ i, i ≤ 13 → begM M i = M i := fun i hi => begM_o ho hk (Or.inl hi)
  have hn0 := h.1.1.2.1
  have hv0 : vrn (cV M 1) = M 9 0 := rfl
  have hv1 : vel (cV M 1) = M 2 0 := rfl
  have hve : 1 ≤ M 2 0 := h.1.1.1.1
  have hvv := h.2.2.1
  obtain ⟨n, hn⟩ : ∃ n : Nat, M 9 0 = (n : Int) := ⟨(M 9 0).toNat, by omega⟩
  have hbn : begM M 9 0 = (n : Int) := by rw [b 9 (by decide)]; exact hn
  rw [hn, Int.toNat_natCast]
  obtain ⟨⟨g1, g2, g3⟩, g4, g5, g6⟩ := hg
  have o : ∀ j, j ≤ 13 → j ≠ 9 → j ≠ 11 → j ≠ 13 → M1 j = M j := fun j q b9 b11 b13 => by rw [h1, ap_o b9 b11 b13, b j q]
  have q11 : ∀ x, M1 11 x = if x = 6 * n + 5 then i else if x = 6 * n + 4 then s else if x = 6 * n + 3 then y else if x = 6 * n + 2 then a else if x = 6 * n + 1 then c else if x = 6 * n then k else M 11 x := fun x => by rw [h1, ap_11 hbn, b 11 (by decide)]
  have q13 : ∀ x, M1 13 x = if 48 * n ≤ x ∧ x < 48 * n + 48 then -1 else M 13 x := fun x => by rw [h1, ap_13 hbn, b 13 (by decide)]
  have p0 : vpt (cV M1 1) n 0 = k := by show M1 11 (6 * n + 0) = k; rw [q11, if_neg (by omega), if_neg (by omega), if_neg (by omega), if_neg (by omega), if_neg (by omega), if_pos (by omega)]
  have p1 : vpt (cV M1 1) n 1 = c := by show M1 11 (6 * n + 1) = c; rw [q11, if_neg (by omega), if_neg (by omega), if_neg (by omega), if_neg (by omega), if_pos (by omega)]
  have p2 : vpt (cV M1 1) n 2 = a := by show M1 11 (6 * n + 2) = a; rw [q11, if_neg (by omega), if_neg (by omega), if_neg (by omega), if_pos (by omega)]
  have p3 : vpt (cV M1 1) n 3 = y := by show M1 11 (6 * n + 3) = y; rw [q11, if_neg (by omega), if_neg (by omega), if_pos (by omega)]
  have p4 : vpt (cV M1 1) n 4 = s := by show M1 11 (6 * n + 4) = s; rw [q11, if_neg (by omega), if_pos (by omega)]
  have p5 : vpt (cV M1 1) n 5 = i := by show M1 11 (6 * n + 5) = i; rw [q11, if_pos (by omega)]
  have en : ∀ p w, p < 16 → w < 3 → ven (cV M1 1) n p w = -1 := fun p w hp hw => by show M1 13 (48 * n + 3 * p + w) = -1; rw [q13, if_pos (by omega)]
  have hA : ApV (cV M 1) (cV M1 1) n k c a y s i := ⟨congrFun (o 2 (by decide) (by decide) (by decide) (by decide)) 0, by show M1 9 0 = M 9 0 + 1; rw [h1, ap_9, b 9 (by decide)], ⟨o 4 (by decide) (by decide) (by decide) (by decide), o 6 (by decide) (by decide) (by decide) (by decide), o 8 (by decide) (by decide) (by decide) (by decide)⟩,
    (fun j w hj hw => by
      show M1 11 (6 * j + w) = M 11 (6 * j + w)
      rw [q11, if_neg (by omega), if_neg (by omega), if_neg (by omega), if_neg (by omega), if_neg (by omega), if_neg (by omega)]),
    (fun j p w hj hp hw => by
      show M1 13 (48 * j + 3 * p + w) = M 13 (48 * j + 3 * p + w)
      rw [q13, if_neg (by omega)]), ⟨p0, p1, p2, p3, p4, p5⟩, en⟩
  obtain ⟨a1, a2, a3, a4, a5, a6, a7⟩ := id hA
  have hW := app_w (v := cV M 1) (v' := cV M1 1) (n := n) h.1.1 hn (by omega) a1 a2 a3 a4 a5 (by rw [p0, p1, p2, p3, p4, p5, hv1]; omega) (fun p hp => by
      rw [en p 0 hp (by decide), en p 1 hp (by decide), en p 2 hp (by decide)]
      omega)
  refine ⟨J_step h hl (fun j hj => ?_) hW ?_, by rw [← hvv]; exact hA⟩
  · rw [h1, ap_o (by omega) (by omega) (by omega)]
  · refine (begM_ga h.2.1).of (fun j x q => ?_)
    obtain ⟨t, ht, hq⟩ := q
    unfold gaS at ht
    by_cases z9 : j = 9
    · omega
    · by_cases z11 : j = 11
      · subst z11
        rw [h1, ap_11 hbn, if_neg (by omega), if_neg (by omega), if_neg (by omega), if_neg (by omega), if_neg (by omega), if_neg (by omega)]
      · by_cases z13 : j = 13
        · subst z13
          rw [h1, ap_13 hbn, if_neg (by omega)]
        · rw [h1, ap_o z9 z11 z13]
end Chg

