section Op5
variable {M M1 M2 : ev_M} {v v' : Vw} {f g : Nat → Int}
def sh (r i : Nat) : Nat := if r ≤ i then i + 1 else i
theorem dp_at {m r i : Nat} (hm : m ≤ 15) (h1 : i ≠ 1) : dpF f r (50 + 6 * m) (146 + 48 * m) i = if 50 + 6 * r ≤ i ∧ i < 50 + 6 * m then f (i + 6) else if 146 + 48 * r ≤ i ∧ i < 146 + 48 * m then f (i + 48) else f i := by
  unfold dpF
  rw [if_neg h1]
theorem drop_v {r m : Nat} (hW : Wf v) (hA : Ag f v) (hm : vrn v = (m : Int) + 1) (hr : r ≤ m) (e1 : vel v' = vel v) (e2 : vrn v' = vrn v - 1) (e3 : vpar v' = vpar v ∧ vknd v' = vknd v ∧ vcls v' = vcls v) (e4 : ∀ i w, i < m → w < 6 → vpt v' i w = vpt v (sh r i) w) (e5 : ∀ i p w, i < m → p < 16 → w < 3 → ven v' i p w = ven v (sh r i) p w) : Wf v' ∧ Ag (dpF f r (50 + 6 * m) (146 + 48 * m)) v' := by
  obtain ⟨h1, h2, h3, h4, h5⟩ := hW
  obtain ⟨a1, a2, a3, a4, a5⟩ := hA
  have hm15 : m ≤ 15 := by omega
  have hsh : ∀ i, i < m → ((sh r i : Nat) : Int) < vrn v := fun i hi => by unfold sh; split <;> omega
  refine ⟨⟨by omega, by omega, fun i hi => ?_, fun i hi => ?_, fun i q hi hq => ?_⟩, ?_, ?_, fun x hx hx2 => ?_, fun i w hi hw => ?_, fun i q hi hq => ?_⟩
  · rw [e3.1, e3.2.1, e3.2.2]
    exact h3 i (by omega)
  · rw [e1, e4 i 0 (by omega) (by decide), e4 i 1 (by omega) (by decide), e4 i 2 (by omega) (by decide), e4 i 3 (by omega) (by decide), e4 i 4 (by omega) (by decide), e4 i 5 (by omega) (by decide)]
    exact h4 _ (hsh i (by omega))
  · rw [e5 i q 0 (by omega) hq (by decide), e5 i q 1 (by omega) hq (by decide), e5 i q 2 (by omega) hq (by decide)]
    exact h5 _ q (hsh i (by omega)) hq
  · rw [e1, ← a1, dp_at hm15 (by decide), if_neg (by omega), if_neg (by omega)]
  · rw [e2, ← a2]; exact if_pos rfl
  · rw [e3.1, e3.2.1, e3.2.2]
    have := a3 x hx (by omega)
    refine ⟨?_, ?_, ?_⟩
    · rw [← this.1, dp_at hm15 (by omega), if_neg (by omega), if_neg (by omega)]
    · rw [← this.2.1, dp_at hm15 (by omega), if_neg (by omega), if_neg (by omega)]
    · rw [← this.2.2, dp_at hm15 (by omega), if_neg (by omega), if_neg (by omega)]
  · have him : i < m := by omega
    rw [e4 i w him hw, ← a4 _ w (hsh i him) hw, dp_at hm15 (by omega)]
    unfold sh
    by_cases z : r ≤ i
    · rw [if_pos z, if_pos (by omega)]
      congr 1
      omega
    · rw [if_neg z, if_neg (by omega), if_neg (by omega)]
  · have him : i < m := by omega
    have hd : ∀ c : Nat, c < 3 → dpF f r (50 + 6 * m) (146 + 48 * m) (146 + c + 48 * i + 3 * q) = f (146 + c + 48 * sh r i + 3 * q) := fun c hc => by
      rw [dp_at hm15 (by omega), if_neg (by omega)]
      unfold sh
      by_cases z : r ≤ i
      · rw [if_pos z, if_pos (by omega)]
        congr 1
        omega
      · rw [if_neg z, if_neg (by omega)]
    exact (a5 _ q (hsh i him) hq).cg (hd 0 (by decide)) (hd 1 (by decide)) (hd 2 (by decide)) (fun w hw => e5 i q w him hq hw)
theorem rel_drop {r : Nat} (h : Rel M) (hr : (r : Int) < M 9 0) (h1 : M1 = toM (begM M) r) (hD : Dm M1 (dpF (M 101) r (50 + 6 * (M 9 0 - 1).toNat) (146 + 48 * (M 9 0 - 1).toNat)) M2) : Rel M2 := by
  have ho := h.1.2.1
  have hk := h.1.2.2.1.1
  have b : ∀ i, i ≤ 13 → begM M i = M i := fun i hi => begM_o ho hk (Or.inl hi)
  have hn := h.1.1.2.1
  have hn0 : vrn (cV M 1) = M 9 0 := rfl
  obtain ⟨m, hm⟩ : ∃ m : Nat, M 9 0 = (m : Int) + 1 := ⟨(M 9 0 - 1).toNat, by omega⟩
  have hm2 : (M 9 0 - 1).toNat = m := by omega
  rw [hm2] at hD
  have o : ∀ i, i ≤ 13 → i ≠ 9 → i ≠ 11 → i ≠ 13 → M1 i = M i := fun i a b9 b11 b13 => by
    rw [h1]; funext c; unfold toM
    rw [shf_at, if_neg (fun q => b13 q.1), shf_at, if_neg (fun q => b11 q.1), up_ne b9, b i a]
  have o9 : M1 9 0 = M 9 0 - 1 := by
    rw [h1]; unfold toM
    rw [shf_at, if_neg (fun q => absurd q.1 (by decide)), shf_at, if_neg (fun q => absurd q.1 (by decide)), up_s, b 9 (by decide)]
  have := drop_v (v := cV M 1) (v' := cV M1 1) (f := M 101) (r := r) (m := m) h.1.1 h.2.1 hm (by omega) (congrFun (o 2 (by decide) (by decide) (by decide) (by decide)) 0) o9 ⟨o 4 (by decide) (by decide) (by decide) (by decide), o 6 (by decide) (by decide) (by decide) (by decide), o 8 (by decide) (by decide) (by decide) (by decide)⟩ (fun i w hi hw => by
    show M1 11 (6 * i + w) = M 11 (6 * sh r i + w)
    rw [h1]; unfold toM
    rw [shf_at, if_neg (fun q => absurd q.1 (by decide)), shf_at, b 9 (by decide), hm2, up_ne (by decide), b 11 (by decide)]
    unfold sh
    by_cases z : r ≤ i
    · rw [if_pos z, if_pos (by omega)]
      congr 1
      omega
    · rw [if_neg z, if_neg (by omega)]) (fun i p w hi hp hw => by
    show M1 13 (48 * i + 3 * p + w) = M 13 (48 * sh r i + 3 * p + w)
    rw [h1]; unfold toM
    have e13 : ∀ c, shf (up (begM M) 9 0 (begM M 9 0 - 1)) 11 (6 * r) (6 * (begM M 9 0 - 1).toNat) 6 13 c = M 13 c := fun c => by
      rw [shf_at, if_neg (fun q => absurd q.1 (by decide)), up_ne (by decide), b 13 (by decide)]
    rw [shf_at, e13, e13, b 9 (by decide), hm2]
    unfold sh
    by_cases z : r ≤ i
    · rw [if_pos z, if_pos (by omega)]
      congr 1
      omega
    · rw [if_neg z, if_neg (by omega)])
  refine rel_step h (fun i hi => ?_) this.1 hD this.2
  rw [h1]; funext c; unfold toM
  rw [shf_at, if_neg (fun q => by omega), shf_at, if_neg (fun q => by omega), up_ne (by omega)]
end Op5

