section Gd2
variable {t : Nat → Int} {len : Int}
def EnG (f : Nat → Int) : Prop := ∀ p, p < 16 → f (3 * p) = 0 ∨ (f (3 * p) = 1 ∧ 0 ≤ f (3 * p + 1) ∧ f (3 * p + 1) ≤ 999) ∨ (f (3 * p) = 2 ∧ (8 ≤ f (3 * p + 1) ∧ f (3 * p + 1) ≤ 15) ∧ -1 ≤ f (3 * p + 2) ∧ f (3 * p + 2) ≤ 999)
theorem sdU_0 {f : Nat → Int} {p : Nat} {s w b : Int} : sdU f p s w b (3 * p) = s := if_pos rfl
theorem sdU_1 {f : Nat → Int} {p : Nat} {s w b : Int} : sdU f p s w b (3 * p + 1) = w := by
  unfold sdU
  rw [if_neg (by omega), if_pos rfl]
theorem sdU_2 {f : Nat → Int} {p : Nat} {s w b : Int} : sdU f p s w b (3 * p + 2) = b := by
  unfold sdU
  rw [if_neg (by omega), if_neg (by omega), if_pos rfl]
theorem sdU_n {f : Nat → Int} {p q c : Nat} {s w b : Int} (h : ¬ q = p) (hc : c < 3) : sdU f p s w b (3 * q + c) = f (3 * q + c) := by
  unfold sdU
  rw [if_neg (by omega), if_neg (by omega), if_neg (by omega)]
theorem decS_ok {P : PS} (h0 : 0 ≤ pat P) (h : OKs (decS t len P)) : OKs P ∧ (EnG (psd P) → EnG (psd (decS t len P))) ∧ 0 ≤ pat (decS t len P) := by
  have z1 : 0 ≤ pat (d1 t len P).2 := numS_0 h0
  have z2 : 0 ≤ pat (d2 t len P) := by unfold d2; split <;> exact z1
  have z3 : 0 ≤ pat (d3 t len P) := demS_0 z2
  have z5 : 0 ≤ pat (d5 t len P).2 := by
    unfold d5
    split
    · exact numS_0 (accS_0 z3)
    · exact numS_0 z3
  have z6 : 0 ≤ pat (d6 t len P).2 := by
    unfold d6
    split
    · exact numS_0 (accS_0 z5)
    · exact z5
  have z7 : 0 ≤ pat (d7 t len P) := demS_0 z6
  have k7 : OKs (d7 t len P) := by
    unfold decS at h
    split at h <;> exact h
  have k6 := (demS_ok k7).1
  have k6b : OKs (d5 t len P).2 ∧ (-1 ≤ (d6 t len P).1 ∧ (d6 t len P).1 ≤ 999) := by
    unfold d6 at k6 ⊢
    by_cases q : cur t len (d3 t len P) = 36 ∧ cur t len (d5 t len P).2 = 47
    · rw [if_pos q] at k6 ⊢
      have := numS_ok (accS_0 z5) k6
      exact ⟨accS_ok this.1, by omega, this.2.2⟩
    · rw [if_neg q] at k6 ⊢
      exact ⟨k6, by show (-1 : Int) ≤ -1; decide, by show (-1 : Int) ≤ 999; decide⟩
  have k5 : OKs (d3 t len P) ∧ (cur t len (d3 t len P) = 36 → 8 ≤ (d5 t len P).1 ∧ (d5 t len P).1 ≤ 15) ∧ (¬ cur t len (d3 t len P) = 36 → 0 ≤ (d5 t len P).1 ∧ (d5 t len P).1 ≤ 999) := by
    have := k6b.1
    unfold d5 at this ⊢
    by_cases q : cur t len (d3 t len P) = 36
    · rw [if_pos q] at this ⊢
      have e := numS_ok (accS_0 z3) this
      exact ⟨accS_ok e.1, fun _ => e.2, fun z => absurd q z⟩
    · rw [if_neg q] at this ⊢
      have e := numS_ok z3 this
      exact ⟨e.1, fun z => absurd z q, fun _ => e.2⟩
  have k2 : OKs (d2 t len P) := (demS_ok k5.1).1
  have k1 : OKs (d1 t len P).2 := by
    unfold d2 at k2
    split at k2
    · have : pat P = -1 := k2.2
      omega
    · exact k2
  have kp := numS_ok h0 k1
  have psd7 : psd (d7 t len P) = psd P := by
    have s1 : psd (d1 t len P).2 = psd P := (numS_sd t len 2 0 15 P).1
    have s2 : psd (d2 t len P) = psd P := by unfold d2; split <;> exact s1
    have s3 : psd (d3 t len P) = psd P := by unfold d3; rw [demS_psd]; exact s2
    have s5 : psd (d5 t len P).2 = psd P := by
      unfold d5
      split
      · rw [(numS_sd t len 2 8 15 _).1, accS_sd.1]; exact s3
      · rw [(numS_sd t len 3 0 999 _).1]; exact s3
    have s6 : psd (d6 t len P).2 = psd P := by
      unfold d6
      split
      · rw [(numS_sd t len 3 0 999 _).1, accS_sd.1]; exact s5
      · exact s5
    unfold d7
    rw [demS_psd]; exact s6
  have hr1 : 0 ≤ (d1 t len P).1 ∧ (d1 t len P).1 ≤ 15 := kp.2
  have hdec : decS t len P = (pat (d7 t len P), pwr (d7 t len P), pbd (d7 t len P), sdU (psd (d7 t len P)) (d1 t len P).1.toNat (if cur t len (d3 t len P) = 36 then 2 else 1) (d5 t len P).1 (d6 t len P).1) := by
    unfold decS
    rw [if_pos ⟨k7.1, by omega⟩]
  refine ⟨kp.1, fun he => ?_, by rw [hdec]; exact z7⟩
  rw [hdec, psd7]
  change EnG (sdU (psd P) (d1 t len P).1.toNat (if cur t len (d3 t len P) = 36 then 2 else 1) (d5 t len P).1 (d6 t len P).1)
  intro p hp
  have := he p hp
  by_cases q : p = (d1 t len P).1.toNat
  · rw [← q, sdU_0, sdU_1, sdU_2]
    by_cases q2 : cur t len (d3 t len P) = 36
    · rw [if_pos q2]
      exact Or.inr (Or.inr ⟨rfl, k5.2.1 q2, k6b.2⟩)
    · rw [if_neg q2]
      exact Or.inr (Or.inl ⟨rfl, k5.2.2 q2⟩)
  · have n0 : ∀ (s w b : Int), sdU (psd P) (d1 t len P).1.toNat s w b (3 * p) = psd P (3 * p) := fun s w b => sdU_n (c := 0) q (by decide)
    rw [n0, sdU_n q (by decide), sdU_n q (by decide)]
    exact this
end Gd2

