section Gd3
variable {t : Nat → Int} {len : Int}
theorem decS_0 {P : PS} (h0 : 0 ≤ pat P) : 0 ≤ pat (decS t len P) := by
  have z1 : 0 ≤ pat (d1 t len P).2 := numS_0 h0
  have z2 : 0 ≤ pat (d2 t len P) := by unfold d2; split <;> exact z1
  have z3 : 0 ≤ pat (d3 t len P) := demS_0 z2
  have z5 : 0 ≤ pat (d5 t len P).2 := by
    unfold d5
    split
    · exact numS_0 (accS_0 z3)
    · exact numS_0 z3
  have z6 : 0 ≤ pat (d6 t len P).2 := by
    unfold d6
    split
    · exact numS_0 (accS_0 z5)
    · exact z5
  have z7 : 0 ≤ pat (d7 t len P) := demS_0 z6
  unfold decS
  split <;> exact z7
theorem bdy_ok1 : ∀ (n : Nat) (P : PS), 0 ≤ pat P → OKs (bdy t len n P) → OKs P
  | 0, _, _, h => h
  | n + 1, P, h0, h => by
    unfold bdy at h
    split at h
    · exact h
    · exact (decS_ok h0 (bdy_ok1 n _ (decS_0 h0) h)).1
theorem bdy_ok : ∀ (n : Nat) (P : PS), 0 ≤ pat P → EnG (psd P) → OKs (bdy t len n P) → EnG (psd (bdy t len n P))
  | 0, _, _, he, _ => he
  | n + 1, P, h0, he, h => by
    unfold bdy at h ⊢
    by_cases q : pwr P = true ∨ cur t len P = 125
    · rw [if_pos q]; exact he
    · rw [if_neg q] at h ⊢
      have k := decS_ok h0 (bdy_ok1 n _ (decS_0 h0) h)
      exact bdy_ok n _ (decS_0 h0) (k.2.1 he) h
/-- a text without a fault: all its numbers are in range -/
theorem flt_ok {el : Int} (hp : ∀ x, x = pat (enP t len el) → 0 ≤ x) (h : fltV t len el = -1) : OKs (enP t len el) ∧ OKs (hdP t len el) ∧ EnG (psd (enP t len el)) := by
  have h1 : OKs (enP t len el) := by
    unfold fltV at h
    rw [show fnP t len el = trS len (enP t len el) from rfl] at h
    unfold trS at h
    by_cases q : pat (enP t len el) < len
    · rw [if_pos q, if_pos rfl] at h
      have := hp _ rfl
      exact absurd (show pat (enP t len el) = -1 from h) (by omega)
    · rw [if_neg q] at h
      by_cases q2 : pwr (enP t len el) = true
      · rw [if_pos q2] at h
        have := hp _ rfl
        omega
      · rw [if_neg q2] at h
        exact ⟨Bool.eq_false_iff.2 q2, h⟩
  have z0 : 0 ≤ pat P0 := Int.le_refl _
  have z5 : 0 ≤ pat (hd5 t len el).2 := partS_0 (partS_0 (partS_0 (partS_0 (partS_0 z0))))
  have zh : 0 ≤ pat (hdP t len el) := accS_0 z5
  have zd : 0 ≤ pat (demS t len 123 (hdP t len el)) := demS_0 zh
  have kb := (demS_ok h1).1
  have kd := bdy_ok1 81 _ zd kb
  have kh := (demS_ok kd).1
  refine ⟨h1, kh, ?_⟩
  unfold enP
  rw [demS_psd]
  refine bdy_ok 81 _ zd ?_ kb
  rw [demS_psd, hd_sd]
  exact fun p _ => Or.inl rfl
end Gd3

