def it {α : Type} (f : α → α) : Nat → α → α
  | 0, x => x
  | n + 1, x => f (it f n x)
theorem it_s {α : Type} (f : α → α) : ∀ (n : Nat) (x : α), it f (n + 1) x = it f n (f x)
  | 0, _ => rfl
  | n + 1, x => by
    have := it_s f n x
    show f (it f (n + 1) x) = f (it f n (f x))
    rw [this]
theorem it_add {α : Type} (f : α → α) (m : Nat) (x : α) : ∀ n : Nat, it f (n + m) x = it f n (it f m x)
  | 0 => by rw [Nat.zero_add]; rfl
  | n + 1 => by
    rw [show n + 1 + m = (n + m) + 1 by omega]
    show f (it f (n + m) x) = f (it f n (it f m x))
    rw [it_add f m x n]
/-- of n + 1 numbers below n two are alike -/
theorem pig : ∀ (n : Nat) (f : Nat → Nat), (∀ i, i ≤ n → f i < n) → ∃ i j, i < j ∧ j ≤ n ∧ f i = f j
  | 0, f, h => absurd (h 0 (Nat.le_refl _)) (Nat.not_lt_zero _)
  | n + 1, f, h => by
    by_cases hx : ∃ i, i ≤ n ∧ f i = f (n + 1)
    · obtain ⟨i, h1, h2⟩ := hx
      exact ⟨i, n + 1, by omega, Nat.le_refl _, h2⟩
    · have hno : ∀ i, i ≤ n → f i ≠ f (n + 1) := fun i hi he => hx ⟨i, hi, he⟩
      have hl := h (n + 1) (Nat.le_refl _)
      obtain ⟨i, j, h1, h2, h3⟩ := pig n (fun i => if f i = n then f (n + 1) else f i) (fun i hi => by
        have h4 := h i (by omega)
        have h5 := hno i hi
        try dsimp only
        split <;> omega)
      refine ⟨i, j, h1, by omega, ?_⟩
      have h6 := hno i (by omega)
      have h7 := hno j h2
      try dsimp only at h3
      split at h3 <;> split at h3 <;> omega
theorem cyL_pos (f : Int → Int) (c : Int) : ∀ (n m : Nat) (pl s : Int), 1 ≤ s → 1 ≤ m → m ≤ n → it f m pl = c → (∀ i, i < m → it f i pl ≠ -1) → 0 < cyL f c n pl s
  | 0, m, _, _, _, h1, h2, _, _ => by omega
  | n + 1, m, pl, s, hs, h1, h2, hm, hi => by
    have h0 : pl ≠ -1 := hi 0 (by omega)
    unfold cyL
    rw [if_neg h0]
    by_cases hc : f pl = c
    · rw [if_pos hc]; omega
    · rw [if_neg hc]
      obtain ⟨k, rfl⟩ : ∃ k, m = k + 1 := ⟨m - 1, by omega⟩
      have hk : k ≠ 0 := fun q => by subst q; exact hc hm
      refine cyL_pos f c n k (f pl) (s + 1) (by omega) (by omega) (by omega) ?_ (fun i h => ?_)
      · rw [← it_s]; exact hm
      · rw [← it_s]; exact hi (i + 1) (by omega)
section Fix
variable {v : Vw} {e : Nat}
/-- where p's winner refers, as a number -/
def rf (v : Vw) (e p : Nat) : Nat := (ven v (winV v e p).toNat p 1).toNat
def bs (v : Vw) (e p : Nat) : Prop := cyB v e p ∨ winV v e p = -1 ∨ ven v (winV v e p).toNat p 0 ≠ -1
def Dn (v : Vw) (e : Nat) : Nat → Nat → Prop
  | 0, _ => False
  | n + 1, p => bs v e p ∨ Dn v e n (rf v e p)
theorem rf_rng (h : Wf v) {p : Nat} (hp : p < 16) (hb : ¬ bs v e p) : 8 ≤ rf v e p ∧ rf v e p < 16 := by
  have hw : winV v e p ≠ -1 := fun q => hb (Or.inr (Or.inl q))
  have h0 : ven v (winV v e p).toNat p 0 = -1 := Classical.byContradiction fun q => hb (Or.inr (Or.inr q))
  have := (winV_ent h (e := e) hp hw).2.1 h0
  unfold rf
  omega
theorem gpr_congr {V V' pv pv' ps ps' : Nat → Int} {p : Nat} (h : bs v e p ∨ V (rf v e p) = V' (rf v e p)) (hpv : e ≠ 0 → pv p = pv' p ∧ ps p = ps' p) : gpr v e V pv ps p = gpr v e V' pv' ps' p := by
  have hx : gx v e V p = gx v e V' p := by
    unfold gx
    by_cases hc : cyB v e p
    · rw [if_pos hc, if_pos hc]
    · rw [if_neg hc, if_neg hc]
      unfold gvn
      by_cases hw : winV v e p = -1
      · rw [if_pos hw, if_pos hw]
      · rw [if_neg hw, if_neg hw]
        by_cases h0 : ven v (winV v e p).toNat p 0 ≠ -1
        · rw [if_pos h0, if_pos h0]
        · rw [if_neg h0, if_neg h0]
          rcases h with h | h
          · rcases h with h | h | h
            · exact absurd h hc
            · exact absurd h hw
            · exact absurd h h0
          · unfold rf at h
            rw [h]
  unfold gpr
  rw [hx]
  by_cases hc : gx v e V' p = -1 ∧ ¬ cyB v e p ∧ inB p ∧ e ≠ 0
  · rw [if_pos hc, if_pos hc, (hpv hc.2.2.2).1, (hpv hc.2.2.2).2]
  · rw [if_neg hc, if_neg hc]
def VAn (v : Vw) (e : Nat) (pv ps : Nat → Int) : Nat → Nat → Int × Int
  | 0, _ => (-1, -1)
  | n + 1, p => gpr v e (fun q => (VAn v e pv ps n q).1) pv ps p
theorem Dn_mono : ∀ (n : Nat) (p : Nat), Dn v e n p → Dn v e (n + 1) p
  | 0, _, h => h.elim
  | n + 1, p, h => h.imp id (Dn_mono n _)
theorem Dn_le {n m p : Nat} (h : n ≤ m) (hd : Dn v e n p) : Dn v e m p := by
  induction h with
  | refl => exact hd
  | step _ ih => exact Dn_mono _ _ ih
theorem VAn_st {pv ps : Nat → Int} : ∀ (n m p : Nat), n ≤ m → Dn v e n p → VAn v e pv ps m p = VAn v e pv ps n p
  | 0, _, _, _, h => h.elim
  | n + 1, m, p, hm, h => by
    obtain ⟨k, rfl⟩ : ∃ k, m = k + 1 := ⟨m - 1, by omega⟩
    unfold VAn
    refine gpr_congr ?_ (fun _ => ⟨rfl, rfl⟩)
    rcases h with h | h
    · exact Or.inl h
    · exact Or.inr (by rw [VAn_st n k _ (by omega) h])
theorem VAn_fix {pv ps : Nat → Int} {p : Nat} (h : Dn v e 8 p) : gpr v e (fun q => (VAn v e pv ps 9 q).1) pv ps p = VAn v e pv ps 9 p := by
  show _ = gpr v e (fun q => (VAn v e pv ps 8 q).1) pv ps p
  refine gpr_congr ?_ (fun _ => ⟨rfl, rfl⟩)
  rcases h with h | h
  · exact Or.inl h
  · exact Or.inr (by rw [VAn_st 7 9 _ (by omega) h, VAn_st 7 8 _ (by omega) h])
theorem Dn_all (h : Wf v) {p : Nat} (hp : 8 ≤ p ∧ p < 16) : Dn v e 8 p := by
  apply Classical.byContradiction
  intro hn
  have hd : ∀ i, i ≤ 8 → ¬ Dn v e (8 - i) (it (rf v e) i p) ∧ 8 ≤ it (rf v e) i p ∧ it (rf v e) i p < 16 := by
    intro i
    induction i with
    | zero => intro _; exact ⟨hn, hp⟩
    | succ i ih =>
      intro hi
      obtain ⟨h1, h2, h3⟩ := ih (by omega)
      rw [show 8 - i = (8 - (i + 1)) + 1 by omega] at h1
      have hb : ¬ bs v e (it (rf v e) i p) := fun q => h1 (Or.inl q)
      exact ⟨fun q => h1 (Or.inr q), rf_rng h h3 hb⟩
  have hb : ∀ i, i ≤ 7 → ¬ bs v e (it (rf v e) i p) := fun i hi q => by
    have h1 := (hd i (by omega)).1
    rw [show 8 - i = (7 - i) + 1 by omega] at h1
    exact h1 (Or.inl q)
  obtain ⟨i, j, h1, h2, h3⟩ := pig 8 (fun i => it (rf v e) i p - 8) (fun i hi => by have := (hd i hi).2; omega)
  try dsimp only at h3
  have hi := (hd i (by omega)).2
  have hj := (hd j h2).2
  have he : it (rf v e) i p = it (rf v e) j p := by omega
  have hl : ∀ m, m ≤ j - i → it (ldV v e) m ((it (rf v e) i p : Nat) : Int) = ((it (rf v e) (m + i) p : Nat) : Int) := by
    intro m
    induction m with
    | zero => intro _; rw [Nat.zero_add]; rfl
    | succ m ih =>
      intro hm
      have hbm := hb (m + i) (by omega)
      have hdm := (hd (m + i) (by omega)).2
      have hr := rf_rng h (e := e) hdm.2 hbm
      show ldV v e (it (ldV v e) m _) = _
      rw [ih (by omega), show m + 1 + i = (m + i) + 1 by omega]
      show _ = ((rf v e (it (rf v e) (m + i) p) : Nat) : Int)
      unfold ldV
      rw [Int.toNat_natCast, if_neg (fun q => hbm (Or.inr (Or.inl q)))]
      unfold rf at hr ⊢
      omega
  refine hb i (by omega) (Or.inl ⟨hi.1, ?_⟩)
  unfold cycV
  refine cyL_pos _ _ 8 (j - i) _ 1 (by omega) (by omega) (by omega) ?_ (fun m hm => ?_)
  · rw [hl (j - i) (Nat.le_refl _), show j - i + i = j by omega, ← he]
  · rw [hl m (by omega)]
    omega
end Fix
section Rows
variable {v : Vw} {e : Nat} {pv ps : Nat → Int}
def goodP (M : ev_M) (v : Vw) (e : Nat) (pv ps : Nat → Int) (q : Nat) : Prop := M 89 (16 * e + q) = (VAn v e pv ps 9 q).1 ∧ M 91 (16 * e + q) = (VAn v e pv ps 9 q).2
/-- the parent's row, as far as it counts -/
def Prow (M : ev_M) (v : Vw) (e : Nat) (pv ps : Nat → Int) : Prop := e ≠ 0 → ∀ q, q < 16 → M 89 (16 * (vpar v e).toNat + q) = pv q ∧ M 91 (16 * (vpar v e).toNat + q) = ps q
theorem gvM_v {M : ev_M} {p q : Nat} (hq : q < 16) (hp : p < 16) : gvM v e p M 89 (16 * e + q) = (if q = p then (gpr v e (fun q => M 89 (16 * e + q)) (fun q => M 89 (16 * (vpar v e).toNat + q)) (fun q => M 91 (16 * (vpar v e).toNat + q)) p).1 else M 89 (16 * e + q)) := by
  unfold gvM
  rw [up_ne (by decide), up_at]
  by_cases h : q = p
  · rw [if_pos ⟨rfl, by omega⟩, if_pos h]
  · rw [if_neg (fun z => h (by omega)), if_neg h]
theorem gvM_s {M : ev_M} {p q : Nat} (hq : q < 16) (hp : p < 16) : gvM v e p M 91 (16 * e + q) = (if q = p then (gpr v e (fun q => M 89 (16 * e + q)) (fun q => M 89 (16 * (vpar v e).toNat + q)) (fun q => M 91 (16 * (vpar v e).toNat + q)) p).2 else M 91 (16 * e + q)) := by
  unfold gvM
  rw [up_at]
  by_cases h : q = p
  · rw [if_pos ⟨rfl, by omega⟩, if_pos h]
  · rw [if_neg (fun z => h (by omega)), if_neg h, up_ne (by decide)]
theorem gvM_o {M : ev_M} {p k : Nat} (hp : p < 16) (hk : k < 16 * e ∨ 16 * e + 16 ≤ k) (i : Nat) : gvM v e p M i k = M i k := by
  unfold gvM
  rw [up_at, if_neg (by omega), up_at, if_neg (by omega)]
theorem gvM_P {M : ev_M} {p : Nat} (h : Wf v) (he : (e : Int) < vel v) (hp : p < 16) (hP : Prow M v e pv ps) : Prow (gvM v e p M) v e pv ps := by
  intro he0 q hq
  have := (h.2.2.1 e he).1
  have hpar : (vpar v e).toNat < e := by omega
  rw [gvM_o hp (by omega), gvM_o hp (by omega)]
  exact hP he0 q hq
theorem step_good {M : ev_M} {k p : Nat} (h : Wf v) (hk : k ≤ 7) (hp : p < 16) (hP : Prow M v e pv ps) (hI : ∀ q, 8 ≤ q → q < 16 → Dn v e k q → goodP M v e pv ps q) (hd : Dn v e (k + 1) p) : gpr v e (fun q => M 89 (16 * e + q)) (fun q => M 89 (16 * (vpar v e).toNat + q)) (fun q => M 91 (16 * (vpar v e).toNat + q)) p = VAn v e pv ps 9 p := by
  rw [← VAn_fix (Dn_le (by omega) hd)]
  refine gpr_congr ?_ (fun he0 => hP he0 p hp)
  by_cases hb : bs v e p
  · exact Or.inl hb
  · refine Or.inr ?_
    have hr := rf_rng h hp hb
    rcases hd with hd | hd
    · exact absurd hd hb
    · exact (hI _ hr.1 hr.2 hd).1
theorem gvC_good {M : ev_M} {k : Nat} (h : Wf v) (he : (e : Int) < vel v) (hk : k ≤ 7) (hP : Prow M v e pv ps) (hI : ∀ q, 8 ≤ q → q < 16 → Dn v e k q → goodP M v e pv ps q) : ∀ j, j ≤ 8 → Prow (gvC v e j M) v e pv ps ∧ (∀ q, 8 ≤ q → q < 16 → Dn v e k q → goodP (gvC v e j M) v e pv ps q) ∧ (∀ q, 8 ≤ q → q < 8 + j → Dn v e (k + 1) q → goodP (gvC v e j M) v e pv ps q) := by
  intro j
  induction j with
  | zero => intro _; exact ⟨hP, hI, fun q h1 h2 => by omega⟩
  | succ j ih =>
    intro hj
    obtain ⟨a1, a2, a3⟩ := ih (by omega)
    refine ⟨gvM_P h he (by omega) a1, fun q h1 h2 h3 => ?_, fun q h1 h2 h3 => ?_⟩
    · unfold goodP
      show gvM v e (8 + j) (gvC v e j M) 89 _ = _ ∧ gvM v e (8 + j) (gvC v e j M) 91 _ = _
      rw [gvM_v h2 (by omega), gvM_s h2 (by omega)]
      by_cases hq : q = 8 + j
      · rw [if_pos hq, if_pos hq]
        subst hq
        rw [step_good h hk (by omega) a1 a2 (Dn_mono _ _ h3)]
        exact ⟨rfl, rfl⟩
      · rw [if_neg hq, if_neg hq]
        exact a2 q h1 h2 h3
    · unfold goodP
      show gvM v e (8 + j) (gvC v e j M) 89 _ = _ ∧ gvM v e (8 + j) (gvC v e j M) 91 _ = _
      rw [gvM_v (by omega) (by omega), gvM_s (by omega) (by omega)]
      by_cases hq : q = 8 + j
      · rw [if_pos hq, if_pos hq]
        subst hq
        rw [step_good h hk (by omega) a1 a2 h3]
        exact ⟨rfl, rfl⟩
      · rw [if_neg hq, if_neg hq]
        exact a3 q h1 (by omega) h3
theorem gvR_good {M : ev_M} (h : Wf v) (he : (e : Int) < vel v) (hP : Prow M v e pv ps) : ∀ k, k ≤ 8 → Prow (gvR v e k M) v e pv ps ∧ (∀ q, 8 ≤ q → q < 16 → Dn v e k q → goodP (gvR v e k M) v e pv ps q) := by
  intro k
  induction k with
  | zero => intro _; exact ⟨hP, fun q _ _ hd => hd.elim⟩
  | succ k ih =>
    intro hk
    obtain ⟨a1, a2⟩ := ih (by omega)
    obtain ⟨b1, b2, b3⟩ := gvC_good h he (by omega) a1 a2 8 (Nat.le_refl _)
    exact ⟨b1, fun q h1 h2 h3 => b3 q h1 (by omega) h3⟩
theorem gvP_good {M : ev_M} (h : Wf v) (he : (e : Int) < vel v) (hP : Prow M v e pv ps) (hI : ∀ q, 8 ≤ q → q < 16 → goodP M v e pv ps q) : ∀ j, j ≤ 8 → Prow (gvP v e j M) v e pv ps ∧ (∀ q, 8 ≤ q → q < 16 → goodP (gvP v e j M) v e pv ps q) ∧ (∀ q, q < j → (gvP v e j M 89 (16 * e + q), gvP v e j M 91 (16 * e + q)) = gpr v e (fun q => (VAn v e pv ps 9 q).1) pv ps q) := by
  intro j
  induction j with
  | zero => intro _; exact ⟨hP, hI, fun q hq => by omega⟩
  | succ j ih =>
    intro hj
    obtain ⟨a1, a2, a3⟩ := ih (by omega)
    refine ⟨gvM_P h he (by omega) a1, fun q h1 h2 => ?_, fun q hq => ?_⟩
    · unfold goodP
      show gvM v e j (gvP v e j M) 89 _ = _ ∧ gvM v e j (gvP v e j M) 91 _ = _
      rw [gvM_v h2 (by omega), gvM_s h2 (by omega), if_neg (by omega), if_neg (by omega)]
      exact a2 q h1 h2
    · show (gvM v e j (gvP v e j M) 89 _, gvM v e j (gvP v e j M) 91 _) = _
      rw [gvM_v (by omega) (by omega), gvM_s (by omega) (by omega)]
      by_cases hqj : q = j
      · rw [if_pos hqj, if_pos hqj]
        subst hqj
        refine (Prod.eta _).trans (gpr_congr ?_ (fun he0 => a1 he0 q (by omega)))
        by_cases hb : bs v e q
        · exact Or.inl hb
        · have hr := rf_rng h (e := e) (p := q) (by omega) hb
          exact Or.inr (a2 _ hr.1 hr.2).1
      · rw [if_neg hqj, if_neg hqj]
        exact a3 q (by omega)
/-- an element's values and sources hold their equations -/
def ValOK (M : ev_M) (v : Vw) (e : Nat) : Prop := ∀ p, p < 16 → (M 89 (16 * e + p), M 91 (16 * e + p)) = gpr v e (fun q => M 89 (16 * e + q)) (fun q => M 89 (16 * (vpar v e).toNat + q)) (fun q => M 91 (16 * (vpar v e).toNat + q)) p
theorem give_OK {M : ev_M} (h : Wf v) (he : (e : Int) < vel v) : ValOK (gvP v e 8 (gvR v e 8 M)) v e := by
  have hP : Prow M v e (fun q => M 89 (16 * (vpar v e).toNat + q)) (fun q => M 91 (16 * (vpar v e).toNat + q)) := fun _ q _ => ⟨rfl, rfl⟩
  obtain ⟨a1, a2⟩ := gvR_good h he hP 8 (Nat.le_refl _)
  obtain ⟨b1, b2, b3⟩ := gvP_good h he a1 (fun q h1 h2 => a2 q h1 h2 (Dn_all h ⟨h1, h2⟩)) 8 (Nat.le_refl _)
  intro p hp
  have hq : gpr v e (fun q => (VAn v e (fun q => M 89 (16 * (vpar v e).toNat + q)) (fun q => M 91 (16 * (vpar v e).toNat + q)) 9 q).1) (fun q => M 89 (16 * (vpar v e).toNat + q)) (fun q => M 91 (16 * (vpar v e).toNat + q)) p = gpr v e (fun q => gvP v e 8 (gvR v e 8 M) 89 (16 * e + q)) (fun q => gvP v e 8 (gvR v e 8 M) 89 (16 * (vpar v e).toNat + q)) (fun q => gvP v e 8 (gvR v e 8 M) 91 (16 * (vpar v e).toNat + q)) p := by
    refine gpr_congr ?_ (fun he0 => ⟨((b1 he0 p hp).1).symm, ((b1 he0 p hp).2).symm⟩)
    by_cases hb : bs v e p
    · exact Or.inl hb
    · have hr := rf_rng h (e := e) hp hb
      exact Or.inr ((b2 _ hr.1 hr.2).1).symm
  rw [← hq]
  by_cases h8 : p < 8
  · exact b3 p h8
  · have := b2 p (by omega) hp
    rw [VAn_fix (Dn_all h ⟨by omega, hp⟩), this.1, this.2]
end Rows

