section Chg2
variable {l : Launch} {M : ev_M} {v : Vw} {us : List Vw} {e p r k c a y s i n f : Int}
/-- the view behind a laid entry -/
def LyV (v v' : Vw) (r p : Nat) (n c b : Int) : Prop := vel v' = vel v ∧ vrn v' = vrn v ∧ (vpar v' = vpar v ∧ vknd v' = vknd v ∧ vcls v' = vcls v) ∧ vpt v' = vpt v ∧ ∀ r' p' w, w < 3 → p' < 16 → ven v' r' p' w = if r' = r ∧ p' = p then (if w = 0 then n else if w = 1 then c else b) else ven v r' p' w
theorem lay_all {M1 : ev_M} {r p : Nat} {n c b : Int} (h : J v us M) (hl : us.length ≤ 4) (hr : (r : Int) < M 9 0) (hp : p < 16) (hN : (-1 ≤ n ∧ n ≤ 999) ∧ (c = -1 ∨ 8 ≤ c ∧ c ≤ 15) ∧ (-1 ≤ b ∧ b ≤ 999) ∧ (n ≠ -1 → c = -1) ∧ (c = -1 → b = -1)) (h1 : M1 = lyM (begM M) r p n c b) : J (cV M1 1) (v :: us) M1 ∧ LyV v (cV M1 1) r p n c b := by
  obtain ⟨q1, o⟩ := J_lay h hl hr hp hN h1
  have ov := ly_ven h.1.2.1 h.1.2.2.1.1 hp h1
  refine ⟨q1, ?_⟩
  rw [← h.2.2.1]
  exact ⟨congrFun (o 2 (by decide)) 0, congrFun (o 9 (by decide)) 0, ⟨o 4 (by decide), o 6 (by decide), o 8 (by decide)⟩, by funext r w; exact congrFun (o 11 (by decide)) _, ov⟩
theorem cnt_ex {P : Nat → Bool} {j : Nat} (hj : P j = true) : ∀ n, j < n → 1 ≤ cnt P n
  | 0, h => by omega
  | n + 1, h => by
    have h0 := cnt_rng P n
    unfold cnt
    by_cases q : j = n
    · subst q
      rw [if_pos hj]; omega
    · have := cnt_ex hj n (by omega)
      split <;> omega
theorem cnt_not {P : Nat → Bool} : ∀ n, (∀ i, i < n → P i = false) → cnt P n = 0
  | 0, _ => rfl
  | n + 1, h => by
    have h0 := cnt_not n (fun i hi => h i (by omega))
    unfold cnt
    rw [h0, h n (by omega), if_neg (by decide)]
    rfl
theorem cnt_one {P : Nat → Bool} {j : Nat} (hj : P j = true) : ∀ n, j < n → (∀ i, i < n → i ≠ j → P i = false) → cnt P n = 1
  | 0, h, _ => by omega
  | n + 1, h, hn => by
    unfold cnt
    by_cases q : j = n
    · subst q
      rw [if_pos hj, cnt_not j (fun i hi => hn i (by omega) (by omega))]
      rfl
    · rw [cnt_one hj n (by omega) (fun i hi => hn i (by omega)), hn n (by omega) (Ne.symm q), if_neg (by decide)]
      rfl
theorem w_drop (h : J v us M) (hl : us.length ≤ 4) (hr : 0 ≤ r ∧ r < vrn v) : Ri l 6 kX7_drop yX7_drop S0 M [vr 0, vi r] (fun x M2 => x = vrn v - 1 ∧ ∃ v', J v' (v :: us) M2) := by
  have h1 := h.rn; have hW := h.wf; have hb := hW.2.1
  refine (p_drop (by constructor <;> omega) h.1).mono (fun x m q => ?_)
  rcases q with q | q
  · exact absurd ⟨hr.1, by omega⟩ q.1
  · exact ⟨by omega, J_drop h hl (by omega) q.2.2⟩
theorem w_add (h : J v us M) (hl : us.length ≤ 4) (hn : vel v < 16) (hp : 0 ≤ p ∧ p < vel v) (hk : 0 ≤ k ∧ k ≤ 5) (hc : 0 ≤ c ∧ c ≤ 15) : Ri l 6 kX7_add yX7_add S0 M [vr 0, vi p, vi k, vi c] (fun x M2 => x = vel v ∧ ∃ v', J v' (v :: us) M2) := by
  have h1 := h.el; have hW := h.wf; have hb := hW.1
  have hg : (0 ≤ p ∧ p < M 2 0) ∧ (0 ≤ k ∧ k ≤ 5) ∧ (0 ≤ c ∧ c ≤ 15) := ⟨by omega, hk, hc⟩
  refine (p_add (by constructor <;> omega) (by constructor <;> omega) (by constructor <;> omega) h.1).mono (fun x m q => ?_)
  rcases q with q | q | q
  · exact absurd hg q.1
  · exact absurd q.2.1 (by omega)
  · exact ⟨by omega, J_add h hl hg q.2.1 q.2.2.2⟩
theorem w_dress (h : J v us M) (hl : us.length ≤ 4) (he : 0 ≤ e ∧ e < vel v) (hk : 0 ≤ k ∧ k ≤ 5) (hc : 0 ≤ c ∧ c ≤ 15) : Ri l 6 kX7_dress yX7_dress S0 M [vr 0, vi e, vi k, vi c] (fun x M2 => x = 16 * vknd v e.toNat + vcls v e.toNat ∧ ∃ v', J v' (v :: us) M2) := by
  have h1 := h.el; have hW := h.wf; have hb := hW.1
  have hg : (0 ≤ e ∧ e < M 2 0) ∧ (0 ≤ k ∧ k ≤ 5) ∧ (0 ≤ c ∧ c ≤ 15) := ⟨by omega, hk, hc⟩
  refine (p_dress (by constructor <;> omega) (by constructor <;> omega) (by constructor <;> omega) h.1).mono (fun x m q => ?_)
  rcases q with q | q
  · exact absurd hg q.1
  · refine ⟨?_, J_dress h hl hg q.2.2⟩
    rw [q.2.1, ← h.2.2.1]
    rfl
theorem w_rule (h : J v us M) (hl : us.length ≤ 4) (hg : okR M k c a y s i) (hk : inR k) (hc : inR c) (ha : inR a) (hy : inR y) (hs : inR s) (hi : inR i) : Ri l 6 kX7_rule yX7_rule S0 M [vr 0, vi k, vi c, vi a, vi y, vi s, vi i] (fun x M2 => (vrn v = 16 ∧ x = -13 ∧ J v us M2) ∨ (vrn v < 16 ∧ x = vrn v ∧ ∃ v', J v' (v :: us) M2 ∧ ApV v v' (vrn v).toNat k c a y s i)) := by
  have h1 := h.rn; have hW := h.wf; have hb := hW.2.1
  refine (p_rule hk hc ha hy hs hi h.1).mono (fun x m q => ?_)
  rcases q with q | q | q
  · exact absurd hg q.1
  · exact Or.inl ⟨by omega, q.2.2.1, by rw [q.2.2.2]; exact h⟩
  · refine Or.inr ⟨by omega, by omega, ?_⟩
    have hj := J_rule h hl hg q.2.1 q.2.2.2
    rw [h1] at hj
    exact ⟨_, hj⟩
theorem w_declare (h : J v us M) (hl : us.length ≤ 4) (hr : 0 ≤ r ∧ r < vrn v) (hp : 0 ≤ p ∧ p ≤ 15) (hn : 0 ≤ n ∧ n ≤ 999) : Ri l 6 kX7_declare yX7_declare S0 M [vr 0, vi r, vi p, vi n] (fun x M2 => 1 ≤ x ∧ ∃ v', J v' (v :: us) M2 ∧ LyV v v' r.toNat p.toNat n (-1) (-1) ∧ x = dsV v' r.toNat) := by
  have h1 := h.rn; have hW := h.wf; have hb := hW.2.1
  have hg : (0 ≤ r ∧ r < M 9 0) ∧ (0 ≤ p ∧ p ≤ 15) ∧ (0 ≤ n ∧ n ≤ 999) := ⟨by omega, hp, hn⟩
  refine (p_declare (by constructor <;> omega) (by constructor <;> omega) (by constructor <;> omega) h.1).mono (fun x m q => ?_)
  rcases q with q | q
  · exact absurd hg q.1
  · obtain ⟨j1, j2⟩ := lay_all h hl (r := r.toNat) (p := p.toNat) (by omega) (by omega) (by omega) q.2.1
    have e1 := q.2.2
    rw [dsV_M (r := r.toNat) (by omega)] at e1
    refine ⟨?_, _, j1, j2, e1⟩
    rw [e1]
    refine cnt_ex (j := p.toNat) (decide_eq_true (Or.inl ?_)) 16 (by omega)
    rw [j2.2.2.2.2 _ _ _ (by decide) (by omega), if_pos ⟨rfl, rfl⟩, if_pos rfl]
    omega
theorem w_refer (h : J v us M) (hl : us.length ≤ 4) (hr : 0 ≤ r ∧ r < vrn v) (hp : 0 ≤ p ∧ p ≤ 15) (hc : 8 ≤ c ∧ c ≤ 15) (hf : -1 ≤ f ∧ f ≤ 999) : Ri l 6 kX7_refer yX7_refer S0 M [vr 0, vi r, vi p, vi c, vi f] (fun x M2 => 1 ≤ x ∧ ∃ v', J v' (v :: us) M2) := by
  have h1 := h.rn; have hW := h.wf; have hb := hW.2.1
  have hg : (0 ≤ r ∧ r < M 9 0) ∧ (0 ≤ p ∧ p ≤ 15) ∧ (8 ≤ c ∧ c ≤ 15) ∧ (-1 ≤ f ∧ f ≤ 999) := ⟨by omega, hp, hc, hf⟩
  refine (p_refer (by constructor <;> omega) (by constructor <;> omega) (by constructor <;> omega) (by constructor <;> omega) h.1).mono (fun x m q => ?_)
  rcases q with q | q
  · exact absurd hg q.1
  · obtain ⟨j1, j2⟩ := lay_all h hl (r := r.toNat) (p := p.toNat) (by omega) (by omega) (by omega) q.2.1
    have e1 := q.2.2
    rw [dsV_M (r := r.toNat) (by omega)] at e1
    refine ⟨?_, _, j1⟩
    rw [e1]
    refine cnt_ex (j := p.toNat) (decide_eq_true (Or.inr ?_)) 16 (by omega)
    rw [j2.2.2.2.2 _ _ _ (by decide) (by omega), if_pos ⟨rfl, rfl⟩, if_neg (by decide), if_pos rfl]
    omega
end Chg2

