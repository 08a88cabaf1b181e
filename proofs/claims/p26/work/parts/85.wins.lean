section Wins
variable {v : Vw}
theorem sub_self {c : Int} (h : 0 ≤ c ∧ c ≤ 15) : subB c c = true := by
  unfold subB
  rw [Int32.and_self, oi_toInt (by constructor <;> omega)]
  exact decide_eq_true rfl
theorem sub_pop {c d : Int} (hc : 0 ≤ c ∧ c ≤ 15) (hd : 0 ≤ d ∧ d ≤ 15) (h : subB c d = true) : pop4 c ≤ pop4 d := by
  have key : ∀ a b : Fin 16, subB ((a.val : Nat) : Int) ((b.val : Nat) : Int) = true → pop4 ((a.val : Nat) : Int) ≤ pop4 ((b.val : Nat) : Int) := by decide +kernel
  have := key ⟨c.toNat, by omega⟩ ⟨d.toNat, by omega⟩
  rw [show ((c.toNat : Nat) : Int) = c by omega, show ((d.toNat : Nat) : Int) = d by omega] at this
  exact this h
theorem acc_6 (r e : Nat) : accV v r e 6 = (((rkV v r e 1 * 64 + rkV v r e 2) * 64 + rkV v r e 3) * 64 + rkV v r e 4) * 64 + rkV v r e 5 := by
  simp [accV]
theorem rk1 (r e : Nat) : rkV v r e 1 = if vpt v r 5 = 1 then 1 else 0 := rfl
theorem rk2 (r e : Nat) : rkV v r e 2 = if vpt v r 5 = 1 then 3 - vpt v r 3 else vpt v r 3 := rfl
theorem rk3 (r e : Nat) : rkV v r e 3 = if vpt v r 4 = -1 then 0 else 16 - stp (vpar v) 16 e (vpt v r 4) := rfl
theorem rk4 (r e : Nat) : rkV v r e 4 = spc (vpt v r 0) (vpt v r 1) (vpt v r 2) := rfl
theorem rk5 (r e : Nat) : rkV v r e 5 = (r : Int) := rfl
/-- the rule that has all that the element has -/
def Full (v : Vw) (n e : Nat) : Prop := vrn v = (n : Int) + 1 ∧ vpt v n 0 = vknd v e ∧ vpt v n 1 = vcls v e ∧ vpt v n 2 = (if e = 0 then -1 else vknd v (vpar v e).toNat) ∧ vpt v n 3 = 0 ∧ vpt v n 4 = (e : Int) ∧ vpt v n 5 = 1
theorem full_fit (h : Wf v) {n e : Nat} (he : (e : Int) < vel v) (hF : Full v n e) : fitB v n e = true := by
  obtain ⟨f0, f1, f2, f3, f4, f5, f6⟩ := hF
  have h3 := h.2.2.1 e he
  unfold fitB
  rw [f1, f2, f3, f5, sub_self h3.2.2, decide_eq_true (rfl : vknd v e = vknd v e), Bool.or_true, Bool.true_and, Bool.true_and]
  have hs : stp (vpar v) 16 e e ≠ -1 := by
    show (if (e : Int) < 0 then -1 else if (e : Int) = (e : Int) then 0 else _) ≠ -1
    rw [if_neg (by omega), if_pos rfl]
    decide
  rw [decide_eq_true hs, Bool.or_true, Bool.and_true]
  by_cases h0 : e = 0
  · rw [if_pos h0]; rfl
  · rw [if_neg h0]
    have hk : hka (vpar v) (vknd v) 16 (vpar v e) (vknd v (vpar v e).toNat) = true := by
      show (if vpar v e < 0 then false else if vknd v (vpar v e).toNat = vknd v (vpar v e).toNat then true else _) = true
      have := h3.1.2.2 (by omega)
      rw [if_neg (by omega), if_pos rfl]
    rw [hk, Bool.or_true]
/-- it is stronger than any other that matches -/
theorem full_str (h : Wf v) {n e r : Nat} (he : (e : Int) < vel v) (hF : Full v n e) (hr : r < n) (hf : fitB v r e = true) : strV v r e < strV v n e := by
  have hfn := full_fit h he hF
  obtain ⟨f0, f1, f2, f3, f4, f5, f6⟩ := hF
  have h3 := h.2.2.1 e he
  have h4 := h.2.2.2.1 r (by omega)
  unfold strV
  rw [if_pos hf, if_pos hfn, acc_6, acc_6]
  unfold fitB at hf
  simp only [Bool.and_eq_true, Bool.or_eq_true, decide_eq_true_eq] at hf
  obtain ⟨⟨⟨g1, g2⟩, g3⟩, g4⟩ := hf
  have r1 : rkV v r e 1 ≤ rkV v n e 1 := by
    rw [rk1, rk1, if_pos f6]
    split <;> omega
  have r2 : rkV v r e 2 ≤ rkV v n e 2 := by
    rw [rk2, rk2, if_pos f6, f4]
    split <;> omega
  have r3 : rkV v r e 3 ≤ rkV v n e 3 := by
    rw [rk3, rk3, f5, if_neg (show ¬ ((e : Int) = -1) by omega)]
    have hs : stp (vpar v) 16 e e = 0 := by
      show (if (e : Int) < 0 then -1 else if (e : Int) = (e : Int) then 0 else _) = 0
      rw [if_neg (by omega), if_pos rfl]
    have hs2 := stp_rng (vpar v) 16 e (vpt v r 4)
    rw [hs]
    split <;> omega
  have r4 : rkV v r e 4 ≤ rkV v n e 4 := by
    rw [rk4, rk4, f1, f2, f3]
    have hp := sub_pop h4.2.1 h3.2.2 g2
    unfold spc
    have a1 : (if vpt v r 0 = -1 then (0 : Int) else 1) ≤ (if vknd v e = -1 then (0 : Int) else 1) := by
      rw [if_neg (show ¬ vknd v e = -1 by omega)]
      split <;> omega
    have a2 : (if vpt v r 2 = -1 then (0 : Int) else 1) ≤ (if (if e = 0 then -1 else vknd v (vpar v e).toNat) = -1 then (0 : Int) else 1) := by
      by_cases h0 : e = 0
      · rw [if_pos h0, if_pos rfl]
        rcases g3 with g3 | g3
        · rw [if_pos g3]; exact Int.le_refl _
        · exfalso
          have hpe : vpar v e = -1 := by omega
          rw [hpe] at g3
          exact absurd (show false = true from g3) (by decide)
      · rw [if_neg h0]
        have hpp := h3.1.2.2 (by omega)
        have h5 := h.2.2.1 (vpar v e).toNat (by omega)
        rw [if_neg (show ¬ vknd v (vpar v e).toNat = -1 by omega)]
        split <;> omega
    omega
  have r5 : rkV v r e 5 + 1 ≤ rkV v n e 5 := by
    rw [rk5, rk5]
    omega
  omega
/-- so its declaration wins, and gives the value -/
theorem full_win (h : Wf v) {n e p : Nat} {x : Int} (he : (e : Int) < vel v) (hp : p < 16) (hF : Full v n e) (hx : x ≠ -1) (e0 : ven v n p 0 = x) (e1 : ven v n p 1 = -1) : winV v e p = (n : Int) ∧ vaV v e p = x ∧ frV v e p = (e : Int) ∧ (8 ≤ p → cycV v e p = 0) := by
  have hfn := full_fit h he hF
  have hw : winV v e p = (n : Int) := by
    have hd : dclV v p n = true := decide_eq_true (Or.inl (by rw [e0]; exact hx))
    have hn : (n : Int) < vrn v := by have := hF.1; omega
    rcases winV_spec h e p with ⟨-, q⟩ | ⟨i, q1, q2, q3, q4, q5⟩
    · rw [q n hn hd] at hfn; exact absurd hfn (by decide)
    · have a := q5 n hn hd hfn
      by_cases hi : i = n
      · rw [q2, hi]
      · have hlt : i < n := by have := hF.1; omega
        have b := full_str h he hF hlt q4
        omega
  have hl : ldV v e p = -1 := by
    unfold ldV
    rw [Int.toNat_natCast, hw, if_neg (by omega), Int.toNat_natCast]
    exact e1
  have hc : 8 ≤ p → cycV v e p = 0 := fun h8 => by
    show (if (p : Int) = -1 then 0 else if ldV v e p = (p : Int) then 1 else cyL (ldV v e) p 7 (ldV v e p) (1 + 1)) = 0
    rw [if_neg (by omega), hl, if_neg (by omega)]
    show (if (-1 : Int) = -1 then 0 else _) = 0
    rw [if_pos rfl]
  have hy : ¬ cyB v e p := fun q => by have := hc q.1; have := q.2; omega
  have hg : gx v e (fun q => (slv v 17 e q).1) p = x := by
    unfold gx
    rw [if_neg hy]
    unfold gvn
    rw [hw, if_neg (by omega), Int.toNat_natCast, if_pos (by rw [e0]; exact hx)]
    exact e0
  have hs : slv v 17 e p = (x, (e : Int)) := by
    rw [slv_eqn h he hp, gpr, if_neg (fun q => hx (hg.symm.trans q.1)), hg, if_neg hx]
  refine ⟨hw, ?_, ?_, hc⟩
  · unfold vaV; rw [hs, if_neg hx]
  · unfold frV; rw [hs, if_neg (by omega)]
end Wins

