section Sett
variable {l : Launch} {M : ev_M} {v : Vw} {e p : Nat}
def Tv (v : Vw) (e q : Nat) : Int := (slv v 17 e q).1
def Tw (v : Vw) (e q : Nat) : Int := if gx v e (Tv v e) q = -1 then 0 else 1
def nz (q : Nat) (x : Int) : Int := if q < 8 ∧ x = -1 then 0 else x
/-- the model's value and its own, as they should be -/
def GE (v : Vw) (e : Nat) (M : ev_M) (q : Nat) : Prop := M 106 (16 * e + q) = nz q (Tv v e q) ∧ M 107 (16 * e + q) = Tw v e q
/-- only e's row is changed -/
def SA (e : Nat) (M M1 : ev_M) : Prop := (∀ i, i ≠ 106 → i ≠ 107 → i ≠ 108 → i ≠ 109 → M1 i = M i) ∧ ∀ c, (c < 16 * e ∨ 16 * e + 16 ≤ c) → M1 106 c = M 106 c ∧ M1 107 c = M 107 c
theorem nz8 {q : Nat} {x : Int} (h : 8 ≤ q) : nz q x = x := if_neg (fun z => by omega)
theorem SA.ag {M1 : ev_M} (h : SA e M M1) (hA : Ag (M 101) v) : Ag (M1 101) v := by rw [h.1 101 (by decide) (by decide) (by decide) (by decide)]; exact hA
theorem SA.o {M1 M2 : ev_M} (h : SA e M M1) (h2 : O9 M1 M2) : SA e M M2 := ⟨fun i a b c d => (h2 i d).trans (h.1 i a b c d), fun c hc => by rw [h2 106 (by decide), h2 107 (by decide)]; exact h.2 c hc⟩
theorem SA.set {M1 : ev_M} {g a : Int} {b : Bool} (h : SA e M M1) (hp : p < 16) : SA e M (setM M1 e p g b a) := ⟨fun i q1 q2 q3 q4 => by unfold setM; rw [up_ne q1, up_ne q2]; exact h.1 i q1 q2 q3 q4, fun c hc => by
  unfold setM
  rw [up_ne (show (107 : Nat) ≠ 106 by decide), show up (up M1 107 (16 * e + p) (if g = -1 then 0 else 1)) 106 (16 * e + p) (if g = -1 then (if b = true then a else -1) else g) 106 c = up M1 107 (16 * e + p) (if g = -1 then 0 else 1) 106 c from if_neg (fun q => by have := q.2; omega), up_ne (show (106 : Nat) ≠ 107 by decide), show up M1 107 (16 * e + p) (if g = -1 then 0 else 1) 107 c = M1 107 c from if_neg (fun q => by have := q.2; omega)]
  exact h.2 c hc⟩
theorem SA.k {M1 : ev_M} {c : Nat} {x : Int} (h : SA e M M1) : SA e M (up M1 108 c x) := ⟨fun i q1 q2 q3 q4 => by rw [up_ne q3]; exact h.1 i q1 q2 q3 q4, fun c hc => by rw [up_ne (show (106 : Nat) ≠ 108 by decide), up_ne (show (107 : Nat) ≠ 108 by decide)]; exact h.2 c hc⟩
theorem SA.w {M1 : ev_M} {c : Nat} {x : Int} (h : SA e M M1) (hc : c < 16) : SA e M (up M1 107 (16 * e + c) x) := ⟨fun i q1 q2 q3 q4 => by rw [up_ne q2]; exact h.1 i q1 q2 q3 q4, fun d hd => by
  rw [up_ne (show (106 : Nat) ≠ 107 by decide), show up M1 107 (16 * e + c) x 107 d = M1 107 d from if_neg (fun q => by have := q.2; omega)]; exact h.2 d hd⟩
theorem SA.vv {M1 : ev_M} {c : Nat} {x : Int} (h : SA e M M1) (hc : c < 16) : SA e M (up M1 106 (16 * e + c) x) := ⟨fun i q1 q2 q3 q4 => by rw [up_ne q1]; exact h.1 i q1 q2 q3 q4, fun d hd => by
  rw [up_ne (show (107 : Nat) ≠ 106 by decide), show up M1 106 (16 * e + c) x 106 d = M1 106 d from if_neg (fun q => by have := q.2; omega)]; exact h.2 d hd⟩
theorem setM_at {M1 : ev_M} {g a : Int} {b : Bool} : setM M1 e p g b a 106 (16 * e + p) = (if g = -1 then (if b = true then a else -1) else g) ∧ setM M1 e p g b a 107 (16 * e + p) = if g = -1 then 0 else 1 := by
  unfold setM
  refine ⟨if_pos ⟨rfl, rfl⟩, ?_⟩
  rw [up_ne (show (107 : Nat) ≠ 106 by decide)]
  exact if_pos ⟨rfl, rfl⟩
theorem setM_ne {M1 : ev_M} {g a : Int} {b : Bool} {q : Nat} (h : q ≠ p) : setM M1 e p g b a 106 (16 * e + q) = M1 106 (16 * e + q) ∧ setM M1 e p g b a 107 (16 * e + q) = M1 107 (16 * e + q) := by
  unfold setM
  constructor
  · rw [show up (up M1 107 (16 * e + p) (if g = -1 then 0 else 1)) 106 (16 * e + p) (if g = -1 then (if b = true then a else -1) else g) 106 (16 * e + q) = up M1 107 (16 * e + p) (if g = -1 then 0 else 1) 106 (16 * e + q) from if_neg (fun z => by have := z.2; omega), up_ne (show (106 : Nat) ≠ 107 by decide)]
  · rw [up_ne (show (107 : Nat) ≠ 106 by decide)]
    exact if_neg (fun z => by have := z.2; omega)
theorem Tv_fix (h : Wf v) (he : (e : Int) < vel v) (hp : p < 16) : Tv v e p = if gx v e (Tv v e) p = -1 ∧ ¬ cyB v e p ∧ inB p ∧ e ≠ 0 then Tv v (vpar v e).toNat p else gx v e (Tv v e) p := by
  have := congrArg Prod.fst (slv_fix h he hp)
  show (slv v 17 e p).1 = _
  rw [this, gpr]
  split <;> rename_i hq
  · exact (if_pos hq).symm
  · exact (if_neg hq).symm
/-- what settling gives -/
theorem set_good (h : Wf v) (he : (e : Int) < vel v) (hp : p < 16) (hc : ¬ cyB v e p) {M3 : ev_M} {g a : Int} {b : Bool} (hg : g = gvn v e (Tv v e) p) (ha : a = if e = 0 then -1 else nz p (Tv v (vpar v e).toNat p)) (hb : b = true ↔ inB p) : nz p (setM M3 e p g b a 106 (16 * e + p)) = nz p (Tv v e p) ∧ setM M3 e p g b a 107 (16 * e + p) = Tw v e p := by
  have hx : gx v e (Tv v e) p = g := by rw [gx, if_neg hc, hg]
  rw [setM_at.1, setM_at.2, Tv_fix h he hp, Tw, hx]
  refine ⟨?_, rfl⟩
  by_cases q : g = -1
  · rw [if_pos q]
    by_cases q2 : b = true
    · rw [if_pos q2]
      by_cases q3 : e = 0
      · rw [ha, if_pos q3, if_neg (fun z => z.2.2.2 q3), q]
      · rw [ha, if_neg q3, if_pos ⟨q, hc, hb.1 q2, q3⟩]
        unfold nz
        split
        · rw [if_neg (fun z => absurd z.2 (by decide))]
        · rfl
    · rw [if_neg q2, if_neg (fun z => q2 (hb.2 z.2.2.1)), q]
  · rw [if_neg q, if_neg (fun z => q z.1)]
/-- a property that is known is right, one that is not has no cycle -/
def KC (v : Vw) (e : Nat) (M1 : ev_M) : Prop := ∀ p, 8 ≤ p → p < 16 → (M1 108 p = 1 ∧ GE v e M1 p) ∨ (M1 108 p = 0 ∧ ¬ cyB v e p)
theorem GE_cyc (h : Wf v) (he : (e : Int) < vel v) (hp : p < 16) (hc : cyB v e p) : Tv v e p = -1 ∧ Tw v e p = 0 := by
  have hx : gx v e (Tv v e) p = -1 := if_pos hc
  rw [Tv_fix h he hp, Tw, hx]
  exact ⟨if_neg (fun z => z.2.1 hc), rfl⟩
theorem kn_eq {M1 : ev_M} (h : Wf v) (hp : p < 16) (hK : KC v e M1) (hto : ldV v e (p : Int) = -1 ∨ M1 108 (ldV v e (p : Int)).toNat = 1) : gvn v e (fun q => M1 106 (16 * e + q)) p = gvn v e (Tv v e) p := by
  have hl : ldV v e (p : Int) = if winV v e p = -1 then -1 else ven v (winV v e p).toNat p 1 := by rw [ldV, Int.toNat_natCast]
  refine gvn_congr ?_
  by_cases hw : winV v e p = -1
  · exact Or.inl hw
  · refine Or.inr ?_
    rw [if_neg hw] at hl
    have hn := winV_ent h (e := e) hp hw
    by_cases h0 : ven v (winV v e p).toNat p 0 = -1
    · refine Or.inr ?_
      have h8 := hn.2.1 h0
      have hto : M1 108 (rf v e p) = 1 := by
        rcases hto with q | q
        · omega
        · rw [hl] at q; exact q
      have hr : 8 ≤ rf v e p ∧ rf v e p < 16 := by unfold rf; omega
      rcases hK _ hr.1 hr.2 with q | q
      · have := q.2.1
        rw [nz8 hr.1] at this
        exact this
      · omega
    · exact Or.inl h0
theorem KC.set {M1 M3 : ev_M} {g a : Int} {b : Bool} (h : Wf v) (he : (e : Int) < vel v) (hp : p < 16) (h8 : 8 ≤ p) (hc : ¬ cyB v e p) (hK : KC v e M1) (hO : O9 M1 M3) (hg : g = gvn v e (Tv v e) p) (ha : a = if e = 0 then -1 else nz p (Tv v (vpar v e).toNat p)) (hb : b = true ↔ inB p) : KC v e (up (setM M3 e p g b a) 108 p 1) := by
  have hs := set_good h he hp hc (M3 := M3) hg ha hb
  intro q q8 q16
  have e6 : ∀ c, up (setM M3 e p g b a) 108 p 1 106 c = setM M3 e p g b a 106 c := fun c => congrFun (up_ne (by decide)) c
  have e7 : ∀ c, up (setM M3 e p g b a) 108 p 1 107 c = setM M3 e p g b a 107 c := fun c => congrFun (up_ne (by decide)) c
  by_cases hq : q = p
  · subst hq
    refine Or.inl ⟨if_pos ⟨rfl, rfl⟩, ?_, ?_⟩
    · rw [e6, ← hs.1, nz8 q8]
    · rw [e7]; exact hs.2
  · have e8 : up (setM M3 e p g b a) 108 p 1 108 q = M1 108 q := by
      rw [show up (setM M3 e p g b a) 108 p 1 108 q = setM M3 e p g b a 108 q from if_neg (fun z => hq z.2)]
      unfold setM
      rw [up_ne (show (108 : Nat) ≠ 106 by decide), up_ne (show (108 : Nat) ≠ 107 by decide), hO 108 (by decide)]
    have hn := setM_ne (e := e) (M1 := M3) (g := g) (a := a) (b := b) hq
    rw [hO 106 (by decide), hO 107 (by decide)] at hn
    rcases hK q q8 q16 with z | z
    · exact Or.inl ⟨by rw [e8]; exact z.1, by rw [e6, hn.1]; exact z.2.1, by rw [e7, hn.2]; exact z.2.2⟩
    · exact Or.inr ⟨by rw [e8]; exact z.1, z.2⟩
theorem KC.o {M1 M3 : ev_M} (hK : KC v e M1) (hO : O9 M1 M3) : KC v e M3 := fun q a b => by
  have := hK q a b
  unfold GE at this ⊢
  rw [hO 106 (by decide), hO 107 (by decide), hO 108 (by decide)]
  exact this
end Sett

