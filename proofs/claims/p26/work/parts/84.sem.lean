section Sem
variable {v : Vw}
theorem VAn_cg (h : Wf v) {e : Nat} {pv ps pv' ps' : Nat → Int} (hpv : e ≠ 0 → ∀ q, q < 16 → pv q = pv' q ∧ ps q = ps' q) : ∀ (k q : Nat), q < 16 → VAn v e pv ps k q = VAn v e pv' ps' k q := by
  intro k
  induction k with
  | zero => intro q _; rfl
  | succ k ih =>
    intro q hq
    show gpr v e (fun q => (VAn v e pv ps k q).1) pv ps q = gpr v e (fun q => (VAn v e pv' ps' k q).1) pv' ps' q
    refine gpr_congr ?_ (fun he0 => hpv he0 q hq)
    by_cases hb : bs v e q
    · exact Or.inl hb
    · exact Or.inr (congrArg Prod.fst (ih (rf v e q) (rf_rng h hq hb).2))
/-- going up far enough is going up for good -/
theorem slv_st (h : Wf v) : ∀ (n m e : Nat), e < n → e < m → (e : Int) < vel v → ∀ p, p < 16 → slv v n e p = slv v m e p := by
  intro n
  induction n with
  | zero => intro m e h1; omega
  | succ n ih =>
    intro m e h1 h2 he p hp
    obtain ⟨m', rfl⟩ : ∃ m', m = m' + 1 := ⟨m - 1, by omega⟩
    have hpar := (h.2.2.1 e he).1
    have hpv : e ≠ 0 → ∀ q, q < 16 → (slv v n (vpar v e).toNat q).1 = (slv v m' (vpar v e).toNat q).1 ∧ (slv v n (vpar v e).toNat q).2 = (slv v m' (vpar v e).toNat q).2 := fun he0 q hq => by
      rw [ih m' (vpar v e).toNat (by omega) (by omega) (by omega) q hq]
      exact ⟨rfl, rfl⟩
    show gpr v e _ _ _ p = gpr v e _ _ _ p
    refine gpr_congr ?_ (fun he0 => hpv he0 p hp)
    by_cases hb : bs v e p
    · exact Or.inl hb
    · exact Or.inr (congrArg Prod.fst (VAn_cg h hpv 9 (rf v e p) (rf_rng h hp hb).2))
/-- values and sources hold their equation -/
theorem slv_eqn (h : Wf v) {e p : Nat} (he : (e : Int) < vel v) (hp : p < 16) : slv v 17 e p = gpr v e (fun q => (slv v 17 e q).1) (fun q => (slv v 17 (vpar v e).toNat q).1) (fun q => (slv v 17 (vpar v e).toNat q).2) p := by
  have h1 := h.1
  have hpar := (h.2.2.1 e he).1
  have hd : ∀ q, slv v 17 e q = gpr v e (fun q => (VAn v e (fun q => (slv v 16 (vpar v e).toNat q).1) (fun q => (slv v 16 (vpar v e).toNat q).2) 9 q).1) (fun q => (slv v 16 (vpar v e).toNat q).1) (fun q => (slv v 16 (vpar v e).toNat q).2) q := fun q => rfl
  refine (hd p).trans (gpr_congr ?_ (fun he0 => ?_))
  · by_cases hb : bs v e p
    · exact Or.inl hb
    · have hr := rf_rng h hp hb
      refine Or.inr ?_
      have := (hd (rf v e p)).trans (VAn_fix (Dn_all h hr))
      exact (congrArg Prod.fst this).symm
  · rw [slv_st h 16 17 (vpar v e).toNat (by omega) (by omega) (by omega) p hp]
    exact ⟨rfl, rfl⟩
/-- where a value comes from: nowhere, or from the element or one above, where it is the same -/
theorem slv_src (h : Wf v) {p : Nat} (hp : p < 16) : ∀ (n e : Nat), e < n → (e : Int) < vel v → ((slv v 17 e p).1 = -1 ∧ (slv v 17 e p).2 = -1) ∨ ∃ s : Nat, s ≤ e ∧ (slv v 17 e p).2 = (s : Int) ∧ (slv v 17 e p).1 ≠ -1 ∧ slv v 17 s p = slv v 17 e p ∧ winV v s p ≠ -1 := by
  intro n
  induction n with
  | zero => intro e h1; omega
  | succ n ih =>
    intro e h1 he
    have hpar := (h.2.2.1 e he).1
    have heq := slv_eqn h he hp
    by_cases hc : gx v e (fun q => (slv v 17 e q).1) p = -1 ∧ ¬ cyB v e p ∧ inB p ∧ e ≠ 0
    · rw [gpr, if_pos hc] at heq
      have he0 := hc.2.2.2
      have e2 : slv v 17 e p = slv v 17 (vpar v e).toNat p := heq
      rw [e2]
      rcases ih (vpar v e).toNat (by omega) (by omega) with q | ⟨s, q1, q2⟩
      · exact Or.inl q
      · exact Or.inr ⟨s, by omega, q2⟩
    · rw [gpr, if_neg hc] at heq
      by_cases hg : gx v e (fun q => (slv v 17 e q).1) p = -1
      · rw [if_pos hg, hg] at heq
        rw [heq]
        exact Or.inl ⟨rfl, rfl⟩
      · rw [if_neg hg] at heq
        refine Or.inr ⟨e, Nat.le_refl _, by rw [heq], by rw [heq]; exact hg, rfl, fun hw => hg ?_⟩
        unfold gx
        by_cases hy : cyB v e p
        · rw [if_pos hy]
        · rw [if_neg hy]
          unfold gvn
          rw [if_pos hw]
/-- what is in a cycle has no value -/
theorem slv_cyc (h : Wf v) {e p : Nat} (he : (e : Int) < vel v) (hp : p < 16) (hc : cyB v e p) : (slv v 17 e p).1 = -1 := by
  rw [slv_eqn h he hp, gpr, if_neg (fun q => q.2.1 hc)]
  show gx v e _ p = -1
  unfold gx
  rw [if_pos hc]
theorem comes_v (h : Wf v) {e p : Nat} (he : (e : Int) < vel v) (hp : p < 16) : (frV v e p = -14 ∧ vaV v e p = (if 8 ≤ p then -14 else 0)) ∨ ∃ s : Nat, s ≤ e ∧ frV v e p = (s : Int) ∧ vaV v s p = vaV v e p ∧ frV v s p = (s : Int) ∧ winV v s p ≠ -1 := by
  rcases slv_src h hp (e + 1) e (Nat.lt_succ_self _) he with ⟨q1, q2⟩ | ⟨s, q1, q2, q3, q4, q5⟩
  · refine Or.inl ⟨?_, ?_⟩
    · unfold frV; rw [if_pos q2]
    · unfold vaV; rw [if_pos q1]
  · refine Or.inr ⟨s, q1, ?_, ?_, ?_, q5⟩
    · unfold frV; rw [q2, if_neg (by omega)]
    · unfold vaV; rw [q4]
    · unfold frV; rw [q4, q2, if_neg (by omega)]
theorem cyc_v (h : Wf v) {e p : Nat} (he : (e : Int) < vel v) (hp : p < 16) (h8 : 8 ≤ p) (hc : cycV v e p ≠ 0) : vaV v e p = -14 := by
  have := cycV_rng v e p
  unfold vaV
  rw [if_pos (slv_cyc h he hp ⟨h8, by omega⟩), if_pos h8]
theorem win_fit (h : Wf v) {e p : Nat} (hw : winV v e p ≠ -1) : fitB v (winV v e p).toNat e = true ∧ 0 ≤ winV v e p ∧ winV v e p < vrn v := by
  rcases winV_spec h e p with ⟨q, -⟩ | ⟨i, q1, q2, q3, q4, -⟩
  · exact absurd q hw
  · rw [q2, Int.toNat_natCast]
    exact ⟨q4, by omega, q1⟩
theorem sumN_add (f g : Nat → Int) : ∀ n, sumN (fun i => f i + g i) n = sumN f n + sumN g n
  | 0 => rfl
  | n + 1 => by
    have := sumN_add f g n
    show sumN (fun i => f i + g i) n + (f n + g n) = (sumN f n + f n) + (sumN g n + g n)
    omega
theorem sumN_bit (P : Nat → Bool) : ∀ n, sumN (fun i => if P i = true then 1 else 0) n = cnt P n
  | 0 => rfl
  | n + 1 => by
    have := sumN_bit P n
    show sumN (fun i => if P i = true then 1 else 0) n + (if P n = true then 1 else 0) = cnt P n + (if P n = true then 1 else 0)
    omega
theorem sumN_0 : ∀ n, sumN (fun _ => 0) n = 0
  | 0 => rfl
  | n + 1 => by
    have := sumN_0 n
    show sumN (fun _ => 0) n + 0 = 0
    omega
/-- counted by rows or by columns -/
theorem cnt_swap (F : Nat → Nat → Bool) (m : Nat) : ∀ n, sumN (fun e => cnt (fun r => F r e) n) m = sumN (fun r => cnt (fun e => F r e) m) n
  | 0 => sumN_0 m
  | n + 1 => by
    have h1 := cnt_swap F m n
    have h2 := sumN_add (fun e => cnt (fun r => F r e) n) (fun e => if F n e = true then 1 else 0) m
    have h3 := sumN_bit (fun e => F n e) m
    show sumN (fun e => cnt (fun r => F r e) n + (if F n e = true then 1 else 0)) m = sumN (fun r => cnt (fun e => F r e) m) n + cnt (fun e => F n e) m
    rw [h2, h1, h3]
theorem match_swap : sumN (mtV v) (vel v).toNat = sumN (emV v) (vrn v).toNat := cnt_swap (fitB v) (vel v).toNat (vrn v).toNat
/-- steps up to the root -/
theorem stp_0 (h : Wf v) : ∀ (n m x : Nat), x < n → x < m → (x : Int) < vel v → stp (vpar v) n x 0 = stp (vpar v) m x 0 ∧ 0 ≤ stp (vpar v) n x 0 := by
  intro n
  induction n with
  | zero => intro m x h1; omega
  | succ n ih =>
    intro m x h1 h2 hx
    obtain ⟨m', rfl⟩ : ∃ m', m = m' + 1 := ⟨m - 1, by omega⟩
    have hpar := (h.2.2.1 x hx).1
    unfold stp
    rw [if_neg (show ¬ (x : Int) < 0 by omega), if_neg (show ¬ (x : Int) < 0 by omega)]
    by_cases h0 : (x : Int) = 0
    · rw [if_pos h0, if_pos h0]; exact ⟨rfl, Int.le_refl _⟩
    · rw [if_neg h0, if_neg h0, Int.toNat_natCast]
      have hi := ih m' (vpar v x).toNat (by omega) (by omega) (by omega)
      rw [Int.toNat_of_nonneg (hpar.2.2 (by omega))] at hi
      rw [← hi.1, if_neg (by omega)]
      exact ⟨rfl, by omega⟩
theorem stp_up (h : Wf v) {e : Nat} (he : (e : Int) < vel v) (h0 : e ≠ 0) : stp (vpar v) 16 e 0 = stp (vpar v) 16 (vpar v e) 0 + 1 := by
  have h1 := h.1
  have hpar := (h.2.2.1 e he).1
  have hi := stp_0 h 15 16 (vpar v e).toNat (by omega) (by omega) (by omega)
  rw [Int.toNat_of_nonneg (hpar.2.2 (by omega))] at hi
  show (if (e : Int) < 0 then -1 else if (e : Int) = 0 then 0 else if stp (vpar v) 15 (vpar v (e : Int).toNat) 0 < 0 then -1 else stp (vpar v) 15 (vpar v (e : Int).toNat) 0 + 1) = _
  rw [Int.toNat_natCast, if_neg (by omega), if_neg (by omega), if_neg (by omega), hi.1]
end Sem

