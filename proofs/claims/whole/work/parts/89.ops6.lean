section Op6
variable {M M1 M2 : ev_M} {v v' : Vw} {f g : Nat → Int}
/-- a rule behind the others: parts and entries are told for the new one, the others stay -/
theorem app_v {n : Nat} (hW : Wf v) (hA : Ag f v) (hn : vrn v = (n : Int)) (hn2 : n < 16) (hg1 : g 1 = (n : Int) + 1) (hgo : ∀ i, i ≠ 1 → ¬ (50 + 6 * n ≤ i ∧ i < 56 + 6 * n) → ¬ (146 + 48 * n ≤ i ∧ i < 194 + 48 * n) → g i = f i) (e1 : vel v' = vel v) (e2 : vrn v' = vrn v + 1) (e3 : vpar v' = vpar v ∧ vknd v' = vknd v ∧ vcls v' = vcls v) (e4 : ∀ i w, i < n → w < 6 → vpt v' i w = vpt v i w) (e5 : ∀ i p w, i < n → p < 16 → w < 3 → ven v' i p w = ven v i p w) (hp : (-1 ≤ vpt v' n 0 ∧ vpt v' n 0 ≤ 5) ∧ (0 ≤ vpt v' n 1 ∧ vpt v' n 1 ≤ 15) ∧ (-1 ≤ vpt v' n 2 ∧ vpt v' n 2 ≤ 5) ∧ (0 ≤ vpt v' n 3 ∧ vpt v' n 3 ≤ 3) ∧ (-1 ≤ vpt v' n 4 ∧ vpt v' n 4 < vel v) ∧ (0 ≤ vpt v' n 5 ∧ vpt v' n 5 ≤ 1)) (hgp : ∀ w, w < 6 → g (50 + 6 * n + w) = vpt v' n w) (hN : ∀ p, p < 16 → ((-1 ≤ ven v' n p 0 ∧ ven v' n p 0 ≤ 999) ∧ (ven v' n p 1 = -1 ∨ 8 ≤ ven v' n p 1 ∧ ven v' n p 1 ≤ 15) ∧ (-1 ≤ ven v' n p 2 ∧ ven v' n p 2 ≤ 999) ∧ (ven v' n p 0 ≠ -1 → ven v' n p 1 = -1) ∧ (ven v' n p 1 = -1 → ven v' n p 2 = -1)) ∧ AgE (g (146 + 48 * n + 3 * p)) (g (147 + 48 * n + 3 * p)) (g (148 + 48 * n + 3 * p)) (ven v' n p)) : Wf v' ∧ Ag g v' := by
  obtain ⟨h1, h2, h3, h4, h5⟩ := hW
  obtain ⟨a1, a2, a3, a4, a5⟩ := hA
  refine ⟨⟨by omega, by omega, fun i hi => ?_, fun i hi => ?_, fun i q hi hq => ?_⟩, ?_, ?_, fun x hx hx2 => ?_, fun i w hi hw => ?_, fun i q hi hq => ?_⟩
  · rw [e3.1, e3.2.1, e3.2.2]
    exact h3 i (by omega)
  · by_cases z : i = n
    · rw [z, e1]; exact hp
    · rw [e1, e4 i 0 (by omega) (by decide), e4 i 1 (by omega) (by decide), e4 i 2 (by omega) (by decide), e4 i 3 (by omega) (by decide), e4 i 4 (by omega) (by decide), e4 i 5 (by omega) (by decide)]
      exact h4 _ (by omega)
  · by_cases z : i = n
    · rw [z]; exact (hN q hq).1
    · rw [e5 i q 0 (by omega) hq (by decide), e5 i q 1 (by omega) hq (by decide), e5 i q 2 (by omega) hq (by decide)]
      exact h5 _ q (by omega) hq
  · rw [e1, ← a1]; exact hgo 0 (by omega) (by omega) (by omega)
  · rw [e2, hg1, hn]
  · rw [e3.1, e3.2.1, e3.2.2]
    have := a3 x hx (by omega)
    rw [hgo _ (by omega) (by omega) (by omega), hgo _ (by omega) (by omega) (by omega), hgo _ (by omega) (by omega) (by omega)]
    exact this
  · by_cases z : i = n
    · rw [z]; exact hgp w hw
    · rw [e4 i w (by omega) hw, ← a4 i w (by omega) hw]
      exact hgo _ (by omega) (by omega) (by omega)
  · by_cases z : i = n
    · rw [z]; exact (hN q hq).2
    · exact (a5 i q (by omega) hq).cg (hgo _ (by omega) (by omega) (by omega)) (hgo _ (by omega) (by omega) (by omega)) (hgo _ (by omega) (by omega) (by omega)) (fun w hw => e5 i q w (by omega) hq hw)
end Op6

