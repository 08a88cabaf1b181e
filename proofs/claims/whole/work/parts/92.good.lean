section Gd
variable {t : Nat → Int} {len : Int}
/-- neither faulty in form nor in range so far -/
def OKs (P : PS) : Prop := pwr P = false ∧ pbd P = -1
theorem numL_bd : ∀ (n : Nat) (v : Int) (P : PS), pbd (numL t len n v P).2 = pbd P
  | 0, _, _ => rfl
  | n + 1, v, P => by
    unfold numL
    split
    · exact numL_bd n _ (pat P + 1, P.2)
    · rfl
theorem numS_ok {d : Nat} {lo hi : Int} {P : PS} (h0 : 0 ≤ pat P) (h : OKs (numS t len d lo hi P).2) : OKs P ∧ lo ≤ (numS t len d lo hi P).1 ∧ (numS t len d lo hi P).1 ≤ hi := by
  have h1 := numL_sd t len d 0 P
  have h2 := numL_bd (t := t) (len := len) d 0 P
  unfold OKs numS numE at *
  generalize numL t len d 0 P = r at *
  by_cases c1 : pat r.2 = pat P
  · rw [if_pos c1] at h
    exact absurd (show true = false from h.1) (by decide)
  · rw [if_neg c1] at h ⊢
    by_cases c2 : ¬ (lo ≤ r.1 ∧ r.1 ≤ hi) ∧ pbd r.2 = -1
    · rw [if_pos c2] at h
      have : pat P = -1 := h.2
      omega
    · rw [if_neg c2] at h ⊢
      refine ⟨⟨h1.2.2 ▸ h.1, h2 ▸ h.2⟩, ?_⟩
      have : ¬ ¬ (lo ≤ r.1 ∧ r.1 ≤ hi) := fun q => c2 ⟨q, h.2⟩
      omega
theorem accS_ok {c : Int} {P : PS} (h : OKs (accS t len c P)) : OKs P := by
  unfold accS at h
  split at h <;> exact h
theorem accS_0 {c : Int} {P : PS} (h0 : 0 ≤ pat P) : 0 ≤ pat (accS t len c P) := by
  have := (accS_sd (t := t) (len := len) (c := c) (P := P)).2.1
  omega
theorem demS_ok {c : Int} {P : PS} (h : OKs (demS t len c P)) : OKs P ∧ cur t len P = c := by
  unfold demS at h
  split at h
  · rename_i q; exact ⟨h, q⟩
  · exact absurd (show true = false from h.1) (by decide)
theorem demS_0 {c : Int} {P : PS} (h0 : 0 ≤ pat P) : 0 ≤ pat (demS t len c P) := by
  have := (demS_at (t := t) (len := len) (c := c) (P := P)).1
  omega
theorem numS_0 {d : Nat} {lo hi : Int} {P : PS} (h0 : 0 ≤ pat P) : 0 ≤ pat (numS t len d lo hi P).2 := by
  have := (numS_sd t len d lo hi P).2.1
  omega
theorem partS_ok {c : Int} {d : Nat} {m o : Int} {P : PS} (h0 : 0 ≤ pat P) (h : OKs (partS t len c d m o P).2) : OKs P ∧ (0 ≤ (partS t len c d m o P).1 ∧ (partS t len c d m o P).1 ≤ m ∨ (partS t len c d m o P).1 = o) ∧ 0 ≤ pat (partS t len c d m o P).2 := by
  unfold partS at *
  by_cases q : cur t len P = c
  · rw [if_pos q] at h ⊢
    have := numS_ok (accS_0 h0) h
    exact ⟨accS_ok this.1, Or.inl this.2, numS_0 (accS_0 h0)⟩
  · rw [if_neg q] at h ⊢
    exact ⟨h, Or.inr rfl, h0⟩
theorem partS_0 {c : Int} {d : Nat} {m o : Int} {P : PS} (h0 : 0 ≤ pat P) : 0 ≤ pat (partS t len c d m o P).2 := by
  unfold partS
  split
  · exact numS_0 (accS_0 h0)
  · exact h0
/-- in a text without a fault the head's numbers lie in their ranges -/
theorem hd_ok {el : Int} (h : OKs (hdP t len el)) : (-1 ≤ (hd1 t len).1 ∧ (hd1 t len).1 ≤ 5) ∧ (0 ≤ (hd2 t len).1 ∧ (hd2 t len).1 ≤ 15) ∧ (-1 ≤ (hd3 t len).1 ∧ (hd3 t len).1 ≤ 5) ∧ (0 ≤ (hd5 t len el).1 ∧ (hd5 t len el).1 ≤ 3) ∧ (-1 ≤ (hd4 t len el).1 ∧ (hd4 t len el).1 < el ∨ (hd4 t len el).1 = -1) ∧ 0 ≤ hdI t len el ∧ hdI t len el ≤ 1 := by
  have z0 : 0 ≤ pat P0 := Int.le_refl _
  have z1 : 0 ≤ pat (hd1 t len).2 := partS_0 z0
  have z2 : 0 ≤ pat (hd2 t len).2 := partS_0 z1
  have z3 : 0 ≤ pat (hd3 t len).2 := partS_0 z2
  have z4 : 0 ≤ pat (hd4 t len el).2 := partS_0 z3
  have k5 := partS_ok z4 (accS_ok h)
  have k4 := partS_ok z3 k5.1
  have k3 := partS_ok z2 k4.1
  have k2 := partS_ok z1 k3.1
  have k1 := partS_ok z0 k2.1
  have r5 := k5.2.1; have r4 := k4.2.1; have r3 := k3.2.1; have r2 := k2.2.1; have r1 := k1.2.1
  change 0 ≤ (hd5 t len el).1 ∧ (hd5 t len el).1 ≤ 3 ∨ (hd5 t len el).1 = 0 at r5
  change 0 ≤ (hd4 t len el).1 ∧ (hd4 t len el).1 ≤ el - 1 ∨ (hd4 t len el).1 = -1 at r4
  change 0 ≤ (hd3 t len).1 ∧ (hd3 t len).1 ≤ 5 ∨ (hd3 t len).1 = -1 at r3
  change 0 ≤ (hd2 t len).1 ∧ (hd2 t len).1 ≤ 15 ∨ (hd2 t len).1 = 0 at r2
  change 0 ≤ (hd1 t len).1 ∧ (hd1 t len).1 ≤ 5 ∨ (hd1 t len).1 = -1 at r1
  refine ⟨by omega, by omega, by omega, by omega, by omega, ?_⟩
  unfold hdI
  split <;> omega
end Gd

