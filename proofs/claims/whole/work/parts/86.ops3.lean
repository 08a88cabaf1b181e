section Op3
variable {M M1 M2 : ev_M} {v v' : Vw} {f g : Nat → Int}
theorem lay_v {r p : Nat} (hW : Wf v) (hA : Ag f v) (hr : (r : Int) < vrn v) (hp : p < 16) (hg : ∀ i, i ≠ 146 + 48 * r + 3 * p → i ≠ 147 + 48 * r + 3 * p → i ≠ 148 + 48 * r + 3 * p → g i = f i) (hE : AgE (g (146 + 48 * r + 3 * p)) (g (147 + 48 * r + 3 * p)) (g (148 + 48 * r + 3 * p)) (ven v' r p)) (hN : (-1 ≤ ven v' r p 0 ∧ ven v' r p 0 ≤ 999) ∧ (ven v' r p 1 = -1 ∨ 8 ≤ ven v' r p 1 ∧ ven v' r p 1 ≤ 15) ∧ (-1 ≤ ven v' r p 2 ∧ ven v' r p 2 ≤ 999) ∧ (ven v' r p 0 ≠ -1 → ven v' r p 1 = -1) ∧ (ven v' r p 1 = -1 → ven v' r p 2 = -1)) (e1 : vel v' = vel v) (e2 : vrn v' = vrn v) (e3 : vpar v' = vpar v ∧ vknd v' = vknd v ∧ vcls v' = vcls v) (e4 : vpt v' = vpt v) (e5 : ∀ r' p' w, w < 3 → p' < 16 → ¬ (r' = r ∧ p' = p) → ven v' r' p' w = ven v r' p' w) : Wf v' ∧ Ag g v' := by
  obtain ⟨h1, h2, h3, h4, h5⟩ := hW
  obtain ⟨a1, a2, a3, a4, a5⟩ := hA
  refine ⟨⟨by omega, by rw [e2]; exact h2, fun i hi => ?_, fun r' hr' => ?_, fun r' q hr' hq => ?_⟩, ?_, ?_, fun x hx hx2 => ?_, fun r' w hr' hw => ?_, fun r' q hr' hq => ?_⟩
  · rw [e3.1, e3.2.1, e3.2.2]
    exact h3 i (by omega)
  · rw [e2] at hr'
    rw [e1, e4]
    exact h4 r' hr'
  · rw [e2] at hr'
    by_cases z : r' = r ∧ q = p
    · rw [z.1, z.2]; exact hN
    · rw [e5 r' q 0 (by decide) hq z, e5 r' q 1 (by decide) hq z, e5 r' q 2 (by decide) hq z]
      exact h5 r' q hr' hq
  · rw [e1, ← a1]; exact hg 0 (by omega) (by omega) (by omega)
  · rw [e2, ← a2]; exact hg 1 (by omega) (by omega) (by omega)
  · rw [e3.1, e3.2.1, e3.2.2]
    have := a3 x hx (by omega)
    rw [hg _ (by omega) (by omega) (by omega), hg _ (by omega) (by omega) (by omega), hg _ (by omega) (by omega) (by omega)]
    exact this
  · rw [e2] at hr'
    rw [e4, ← a4 r' w hr' hw]
    exact hg _ (by omega) (by omega) (by omega)
  · rw [e2] at hr'
    by_cases z : r' = r ∧ q = p
    · rw [z.1, z.2]; exact hE
    · have hne : ¬ (48 * r' + 3 * q = 48 * r + 3 * p) := fun w => z (by omega)
      exact (a5 r' q hr' hq).cg (hg _ (by omega) (by omega) (by omega)) (hg _ (by omega) (by omega) (by omega)) (hg _ (by omega) (by omega) (by omega)) (fun w hw => e5 r' q w hw hq z)
theorem rel_lay {r p : Nat} {n c b : Int} (h : Rel M) (hr : (r : Int) < M 9 0) (hp : p < 16) (hN : (-1 ≤ n ∧ n ≤ 999) ∧ (c = -1 ∨ 8 ≤ c ∧ c ≤ 15) ∧ (-1 ≤ b ∧ b ≤ 999) ∧ (n ≠ -1 → c = -1) ∧ (c = -1 → b = -1)) (hg : ∀ i, i ≠ 146 + 48 * r + 3 * p → i ≠ 147 + 48 * r + 3 * p → i ≠ 148 + 48 * r + 3 * p → g i = M 101 i) (hE : AgE (g (146 + 48 * r + 3 * p)) (g (147 + 48 * r + 3 * p)) (g (148 + 48 * r + 3 * p)) (fun w => if w = 0 then n else if w = 1 then c else b)) (h1 : M1 = lyM (begM M) r p n c b) (hD : Dm M1 g M2) : Rel M2 ∧ Wf (cV M1 1) ∧ Ag g (cV M1 1) := by
  have ho := h.1.2.1
  have hk := h.1.2.2.1.1
  have b13 : ∀ i, i ≤ 13 → begM M i = M i := fun i hi => begM_o ho hk (Or.inl hi)
  have o : ∀ i, i ≤ 12 → M1 i = M i := fun i a => by rw [h1]; unfold lyM; rw [up_ne (by omega), up_ne (by omega), up_ne (by omega), b13 i (by omega)]
  have ov : ∀ r' p' w, w < 3 → p' < 16 → ven (cV M1 1) r' p' w = if r' = r ∧ p' = p then (if w = 0 then n else if w = 1 then c else b) else ven (cV M 1) r' p' w := fun r' p' w hw hp' => by
    show M1 13 (48 * r' + 3 * p' + w) = if r' = r ∧ p' = p then _ else M 13 (48 * r' + 3 * p' + w)
    rw [h1]
    unfold lyM
    rw [up_at, up_at, up_at, b13 13 (by decide)]
    by_cases z : r' = r ∧ p' = p
    · rw [if_pos z, z.1, z.2]
      rcases (show w = 0 ∨ w = 1 ∨ w = 2 by omega) with rfl | rfl | rfl
      · rw [if_neg (by omega), if_neg (by omega), if_pos (by omega)]; rfl
      · rw [if_neg (by omega), if_pos (by omega)]; rfl
      · rw [if_pos (by omega)]; rfl
    · have hne : ¬ (48 * r' + 3 * p' = 48 * r + 3 * p) := fun q => z (by omega)
      rw [if_neg z, if_neg (by omega), if_neg (by omega), if_neg (by omega)]
  have own : ∀ w, w < 3 → ven (cV M1 1) r p w = (if w = 0 then n else if w = 1 then c else b) := fun w hw => by rw [ov r p w hw hp, if_pos ⟨rfl, rfl⟩]
  have := lay_v (v := cV M 1) (v' := cV M1 1) (f := M 101) (g := g) h.1.1 h.2.1 hr hp hg (hE.cg rfl rfl rfl own) (by rw [own 0 (by decide), own 1 (by decide), own 2 (by decide)]; exact hN) (congrFun (o 2 (by decide)) 0) (congrFun (o 9 (by decide)) 0) ⟨o 4 (by decide), o 6 (by decide), o 8 (by decide)⟩ (by funext r w; exact congrFun (o 11 (by decide)) _) (fun r' p' w hw hp' z => by rw [ov r' p' w hw hp', if_neg z])
  exact ⟨rel_step h (fun i hi => by rw [h1]; unfold lyM; rw [up_ne (by omega), up_ne (by omega), up_ne (by omega)]) this.1 hD this.2, this⟩
end Op3

