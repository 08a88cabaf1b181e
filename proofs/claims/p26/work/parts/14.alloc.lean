/-- the numbers with a new cell i, whose numbers are all 0 -/
def zr (M : ev_M) (i : Nat) : ev_M := fun a b => if a = i then 0 else M a b
/-- the first n numbers of cell j, copied over those of cell i -/
def cp (M : ev_M) (i j n : Nat) : ev_M := fun a b => if a = i ∧ b < n then M j b else M a b
theorem RM_zr {M : ev_M} {i : Nat} (h : RM M) : RM (zr M i) := by
  intro a b
  unfold zr
  split
  · exact in0
  · exact h a b
theorem RM_cp {M : ev_M} {i j n : Nat} (h : RM M) : RM (cp M i j n) := by
  intro a b
  unfold cp
  split
  · exact h j b
  · exact h a b
def ev_NW (own : String) (idx ci N : Nat) (fl : List (Option (Option Nat))) : Prop := ∃ (C : String) (T : u_T) (ty0 : Nat → FieldType), vwCl[ci]? = some (C, T, N) ∧ (∀ w ∈ u_ws C T N, w ∈ ev_T) ∧ (∀ k, k < N → parseFieldDescriptor (T k).2.2.1 = some (ty0 k)) ∧ Cond.classLink own idx C ∈ ev_T ∧ Cond.instantiable C N ∈ ev_T ∧ Cond.initialized C ∈ ev_T ∧ ∀ j, j < N → defaultValue (ty0 j) = vp_V (ev_fv 0 (fun _ => 0) fl) j
theorem ev_fv_0 (o : Nat) : ∀ (fl : List (Option (Option Nat))), (∀ q ∈ fl, q = none ∨ q = some none) → ev_fv o (fun _ => 0) fl = ev_fv 0 (fun _ => 0) fl := by
  intro fl h
  apply List.ext_getElem?
  intro j
  simp only [ev_fv, List.getElem?_mapIdx]
  cases hj : fl[j]? with
  | none => rfl
  | some q =>
    rcases h q (List.mem_of_getElem? hj) with rfl | rfl <;> rfl
section EvAlloc
variable {l : Launch} {X : Option (Nat × (Nat → Int))} {d : Nat} {k : ev_K} {b b2 : Nat × Nat} {S : List ev_Sh} {M : ev_M} {pc q : Nat} {ls tl : List (Option ev_V)} {st : List ev_V} {Q : Option ev_V → List ev_Sh → ev_M → Prop}
variable {idx n ci i N : Nat} {fl : List (Option (Option Nat))}
theorem ev_new (hd : decode k.1 pc = .ok (.new idx, 3)) (hN : ev_NW k.2.1 idx ci N fl) (hfl : ∀ q ∈ fl, q = none ∨ q = some none) (hbb : b = (1 + b2.1, N + b2.2)) (hq : pc + 3 = q) (K : Ev l X d k b2 (S ++ [.inr (.inl (ci, fl))]) (zr M S.length) q ls (vr S.length :: st) Q) : Ev l X d k b S M pc ls st Q := by
  intro hR p e R s m args below meth c G ca sb o hC H locs cells slots lsr hW h1 h2 hL
  obtain ⟨hx, hb, hr, hlk, hml, hown, hts, hex, hin, hf, hlo, hK, hos, hX⟩ := id hC
  obtain ⟨C, T, ty0, g1, g2, g3, g4, g5, g6, g7⟩ := hN
  subst hq hbb
  dsimp only at h1 h2
  have hKn := hK.1 ci _ g1
  refine W.newcK hx hb hown (hts _ g4) (hts _ g5) (hts _ g6) rfl hd (by omega) (by omega) hKn.2.1 hW.1 fun H1 kC hkC e1 z1 o1 => ?_
  refine K (RM_zr hR) p e R s m args below meth c G ca sb o hC H1 locs (cells + 1) (slots + N) lsr (hW.push (f := fun _ => 0) hos (by rw [z1, hW.1]) (fun q hq => o1 q (by rw [← hW.1]; exact hq)) ?_) (by omega) (by omega) hL
  refine ⟨_, g1, ?_⟩
  have := (u_born ty0 hts g2 hKn hkC e1 g3).to g7
  show t_OB _ _ _ _ _ (vp_V (ev_fv o (fun _ => 0) fl))
  rw [ev_fv_0 o fl hfl]
  exact this
theorem ev_newI {x : Int} (hd : decode k.1 pc = .ok (.newarray .int, 2)) (hw : Cond.arrayClass .int ∈ ev_T) (hx1 : x = (n : Int)) (hn : n < 100000) (hbb : b = (1 + b2.1, n + b2.2)) (hq : pc + 2 = q) (K : Ev l X d k b2 (S ++ [.inl (0, n)]) (zr M S.length) q ls (vr S.length :: st) Q) : Ev l X d k b S M pc ls (vi x :: st) Q := by
  intro hR p e R s m args below meth c G ca sb o hC H locs cells slots lsr hW h1 h2 hL
  obtain ⟨hx, hb, hr, hlk, hml, hown, hts, hex, hin, hf, hlo, hK, hos, hX⟩ := id hC
  subst hq hbb hx1
  dsimp only at h1 h2
  have i1 : inR (n : Int) := by unfold inR; omega
  refine va_newaK (atype := .int) hx hb (hts _ hw) rfl hd rfl (by rw [oi_lt0 i1]; omega) (N := n) (by rw [oi_clamp i1]; simp) (by show n * 4 ≤ _; omega) (by omega) (by omega) hW.1 fun H1 cA e1 z1 o1 hAr hNm => ?_
  have hca : cA = ca 0 := Option.some.inj (hNm.symm.trans (hK.2 0 _ rfl).2)
  refine K (RM_zr hR) p e R s m args below meth c G ca sb o hC H1 locs (cells + 1) (slots + n) lsr (hW.push (f := fun _ => 0) hos (by rw [z1, hW.1]) (fun q hq => o1 q (by rw [← hW.1]; exact hq)) ?_) (by omega) (by omega) hL
  show H1[o + S.length]? = some (vp_cell (ca 0) (n, .inl (fun _ => Int32.ofInt 0)))
  rw [e1, ← hca]
  rfl
theorem ev_anew {x : Int} (hd : decode k.1 pc = .ok (.anewarray idx, 3)) (hw : Cond.classLink k.2.1 idx "StyleCascade$State" ∈ ev_T) (hx1 : x = (n : Int)) (hn : n < 100000) (hbb : b = (1 + b2.1, n + b2.2)) (hq : pc + 3 = q) (K : Ev l X d k b2 (S ++ [.inr (.inr (3, n, fun _ => none))]) (zr M S.length) q ls (vr S.length :: st) Q) : Ev l X d k b S M pc ls (vi x :: st) Q := by
  intro hR p e R s m args below meth c G ca sb o hC H locs cells slots lsr hW h1 h2 hL
  obtain ⟨hx, hb, hr, hlk, hml, hown, hts, hex, hin, hf, hlo, hK, hos, hX⟩ := id hC
  subst hq hbb hx1
  dsimp only at h1 h2
  have i1 : inR (n : Int) := by unfold inR; omega
  have hcl : (Int32.ofInt (n : Int)).toNatClampNeg = n := by rw [oi_clamp i1]; simp
  refine W.anew hx hb hown (hts _ hw) (va_AO.use hex.2) rfl hd rfl (by rw [oi_lt0 i1]; omega) (by rw [hcl]; omega) (by omega) (by rw [hcl]; omega) fun cA kA comp f1 f2 f3 f4 => ?_
  obtain ⟨kA', comp', r1, r2, r3, r4⟩ := (hK.2 3 _ rfl).2
  have hca : cA = ca 3 := Option.some.inj (f1.symm.trans r4)
  rw [hcl, hW.1]
  refine K (RM_zr hR) p e R s m args below meth c G ca sb o hC _ locs (cells + 1) (slots + n) lsr (hW.push (f := fun _ => 0) hos (by rw [Array.size_push]) (fun q hq => by rw [Array.getElem?_push, if_neg (Nat.ne_of_lt hq)]) ?_) (by omega) (by omega) hL
  show _ = some (vp_cell (ca 3) (n, .inr (.inr (.inr (.inr (fun _ => none))))))
  rw [← hW.1, Array.getElem?_push_size, arrV_new, hca]
  rfl
theorem ev_aastore {x : Int} {j cj : Nat} {g : Nat → Option Nat} {fl : List (Option (Option Nat))} (hd : decode k.1 pc = .ok (.aastore, 1)) (hS : S[i]? = some (.inr (.inr (3, n, g)))) (hj : S[j]? = some (.inr (.inl (cj, fl)))) (hcj : ∃ T N, vwCl[cj]? = some ("StyleCascade$State", T, N)) (hx1 : 0 ≤ x ∧ x < (n : Int)) (hn : n < 100000) (hq : pc + 1 = q) (K : Ev l X d k b (S.set i (.inr (.inr (3, n, va_up g x.toNat (some j))))) M q ls st Q) : Ev l X d k b S M pc ls (vr j :: vi x :: vr i :: st) Q := by
  intro hR p e R s m args below meth c G ca sb o hC H locs cells slots lsr hW h1 h2 hL
  obtain ⟨hx, hb, hr, hlk, hml, hown, hts, hex, hin, hf, hlo, hK, hos, hX⟩ := id hC
  obtain ⟨T, N, g1⟩ := hcj
  have he := ev_w_at (o := o) (ca := ca) (M := M) hS
  have hej := ev_w_at (o := o) (ca := ca) (M := M) hj
  have i1 : inR x := by unfold inR; omega
  subst hq
  obtain ⟨r', hr', cellV, v1, v2, v3, -⟩ := hW.2.1 j _ hej
  have hcls := (hK.1 cj _ g1).2
  obtain ⟨kA, comp, k1, k2, k3, -⟩ := (hK.2 3 _ rfl).2
  have hcomp : comp = G.1 cj := Option.some.inj (k3.symm.trans hcls.1)
  subst hcomp
  obtain ⟨kC, hkC, hkk⟩ := hcls.2
  have hlt : (Int32.ofInt x).toNatClampNeg < n := by rw [oi_clamp i1]; omega
  refine W.aast hx hb (hW.2.1 i _ he) (fun q h => by cases h) (fun h => by cases h) k1 k2 rfl hkC ⟨by rw [oi_lt0 i1]; omega, by show _ < (arrV _ _ _).slots.size; rw [arrV_size]; exact hlt⟩ v1 (fun q h => by rw [v3] at h; cases h) (by rw [v2]; exact hkC) (by rw [v2]; exact va_assign hcls) rfl rfl hd fun H1 e9 z oq => ?_
  refine K hR p e R s m args below meth c G ca sb o hC H1 _ cells slots lsr (hW.putS hS z oq ?_) h1 h2 hL
  show H1[o + i]? = some (vp_cell (ca 3) (n, .inr (.inr (.inr (.inr (fun a => (va_up g x.toNat (some j) a).map (fun j => o + j)))))))
  rw [e9]
  show some ((vp_cell (ca 3) (n, .inr (.inr (.inr (.inr (fun a => (g a).map (fun j => o + j))))))).setSlot _ _) = _
  rw [vp_cell_q, vp_cell_q, arrV_store, oi_clamp i1]
  congr 2
  funext a
  by_cases h : a = x.toNat
  · subst h; simp [va_up, updV, va_rf]
  · simp [va_up, updV, h]
/-- System.arraycopy of the first n numbers -/
theorem ev_copy {i2 n1 n2 : Nat} {x : Int} (hd : decode k.1 pc = .ok (.invokestatic idx, 3)) (hl : Cond.methodLink k.2.1 idx arraycopyName ∈ ev_T ∧ Cond.native arraycopyName ∈ ev_T ∧ Cond.static arraycopyName ∈ ev_T ∧ Cond.initialized "java/lang/System" ∈ ev_T) (hd1 : 1 ≤ d) (hst : st.length ≤ 8) (hS1 : S[i]? = some (.inl (0, n1))) (hS2 : S[i2]? = some (.inl (0, n2))) (hx1 : 0 ≤ x ∧ x ≤ (n1 : Int) ∧ x ≤ (n2 : Int)) (hn : n1 < 100000) (hq : pc + 3 = q) (K : Ev l X d k b S (cp M i2 i x.toNat) q ls st Q) : Ev l X d k b S M pc ls (vi x :: vi 0 :: vr i2 :: vi 0 :: vr i :: st) Q := by
  intro hR p e R s m args below meth c G ca sb o hC H locs cells slots lsr hW h1 h2 hL
  obtain ⟨hx, hb, hr, hlk, hml, hown, hts, hex, hin, hf, hlo, hK, hos, hX⟩ := id hC
  have i1 : inR x := by unfold inR; omega
  have hc0 : H[o + i]? = some (vp_cell (ca 0) (n1, .inl (fun a => Int32.ofInt (M i a)))) := hW.2.1 i _ (ev_w_at (o := o) (ca := ca) (M := M) hS1)
  have hc1 : H[o + i2]? = some (vp_cell (ca 0) (n2, .inl (fun a => Int32.ofInt (M i2 a)))) := hW.2.1 i2 _ (ev_w_at (o := o) (ca := ca) (M := M) hS2)
  obtain ⟨-, k0, hk0, cm0, hkk0⟩ := (hK.2 0 _ rfl).1 n1 (fun j => .int (Int32.ofInt (M i j)))
  have hz : (Int32.ofInt 0).toNatClampNeg = 0 := by decide
  have hz0 : (Int32.ofInt 0).toInt = 0 := by decide
  subst hq
  intro T hT Xx
  obtain ⟨vm', X', step⟩ := Xx.arraycopy hx hown (hts _ hl.1) (hts _ hl.2.1) (hts _ hl.2.2.1) (hts _ hl.2.2.2) (src := o + i) (dst := o + i2) (cs := vp_cell (ca 0) (n1, .inl (fun a => Int32.ofInt (M i a)))) (cd := vp_cell (ca 0) (n2, .inl (fun a => Int32.ofInt (M i2 a)))) (srcPos := Int32.ofInt 0) (destPos := Int32.ofInt 0) (n := Int32.ofInt x) (by rw [hT]; exact hc0) (by rw [hT]; exact hc1)
    (fun _ h => by cases h) (fun _ h => by cases h) (fun h => by cases h) (fun h => by cases h) hk0 hk0 hkk0 hkk0 (by rfl) (by decide) (by decide) (by rw [oi_lt0 i1]; omega)
    (by rw [hz0, oi_toInt i1]; show ¬ _ > ((arrV (ca 0) n1 (fun j => .int (Int32.ofInt (M i j)))).slots.size : Int); rw [arrV_size]; omega)
    (by rw [hz0, oi_toInt i1]; show ¬ _ > ((arrV (ca 0) n2 (fun j => .int (Int32.ofInt (M i2 j)))).slots.size : Int); rw [arrV_size]; omega)
    (fun vm₁ _ a ha => by
      rw [oi_clamp i1] at ha
      have e : (vp_cell (ca 0) (n1, .inl (fun a => Int32.ofInt (M i a)))).slots.getD ((Int32.ofInt 0).toNatClampNeg + a) .null = .int (Int32.ofInt (M i a)) := by
        show (arrV (ca 0) n1 (fun j => .int (Int32.ofInt (M i j)))).slots.getD _ _ = _
        rw [hz, Nat.zero_add, Array.getD_eq_getD_getElem?, arrV_read _ _ (by omega)]
        rfl
      refine ⟨?_, ?_⟩
      · rw [e]; rfl
      · rw [e]; exact trivial)
    (g := F0 m pc lsr (.int (Int32.ofInt x) :: .int (Int32.ofInt 0) :: .ref (o + i2) :: .int (Int32.ofInt 0) :: .ref (o + i) :: st.map (tr sb o))) rfl (by rw [hml]; exact hL.1) (rest := st.map (tr sb o)) rfl (by rw [hb]; exact hd) (by omega) (by
      have h8 : ((st.map (tr sb o)).map fun v => v.category).sum ≤ 8 := by rw [ev_sum]; exact hst
      have h9 : nativeFrameWords "java/lang/System" "arraycopy" 5 + 11 ≤ 32 := by decide +kernel
      show 2 * 0 + _ + _ ≤ _
      omega)
  have e1 : copied (vp_cell (ca 0) (n1, .inl (fun a => Int32.ofInt (M i a)))) (vp_cell (ca 0) (n2, .inl (fun a => Int32.ofInt (M i2 a)))) (Int32.ofInt 0) (Int32.ofInt 0) (Int32.ofInt x) = vp_cell (ca 0) (n2, .inl (va_cpy (fun a => Int32.ofInt (M i a)) (fun a => Int32.ofInt (M i2 a)) (Int32.ofInt 0).toNatClampNeg (Int32.ofInt 0).toNatClampNeg (Int32.ofInt x).toNatClampNeg)) := va_copied (fun z => .int z) (ca 0) (ca 0) (fun a => Int32.ofInt (M i a)) (fun a => Int32.ofInt (M i2 a)) (by rw [hz, oi_clamp i1]; omega)
  rw [e1] at X' step
  have e2 : va_cpy (fun a => Int32.ofInt (M i a)) (fun a => Int32.ofInt (M i2 a)) (Int32.ofInt 0).toNatClampNeg (Int32.ofInt 0).toNatClampNeg (Int32.ofInt x).toNatClampNeg = fun a => Int32.ofInt (cp M i2 i x.toNat i2 a) := by
    funext a
    rw [hz, oi_clamp i1]
    unfold va_cpy cp
    by_cases h : a < x.toNat
    · simp [h]
    · simp [h]
  rw [e2] at X' step
  have hl' : o + i2 < H.size := (Array.getElem?_eq_some_iff.mp hc1).1
  have hheap : ((T.setVm vm').setCell (o + i2) (vp_cell (ca 0) (n2, .inl (fun a => Int32.ofInt (cp M i2 i x.toNat i2 a))))).heap = H.setIfInBounds (o + i2) (vp_cell (ca 0) (n2, .inl (fun a => Int32.ofInt (cp M i2 i x.toNat i2 a)))) := by rw [← hT]; rfl
  have oq : ∀ q : Nat, q ≠ o + i2 → (H.setIfInBounds (o + i2) (vp_cell (ca 0) (n2, .inl (fun a => Int32.ofInt (cp M i2 i x.toNat i2 a)))))[q]? = H[q]? := fun q hq => by simp [Array.getElem?_setIfInBounds, Ne.symm hq]
  have W1 : ev_Wd G ca o S (cp M i2 i x.toNat) s (H.setIfInBounds (o + i2) (vp_cell (ca 0) (n2, .inl (fun a => Int32.ofInt (cp M i2 i x.toNat i2 a))))) (locs ++ [⟨o + i2, 0⟩]) := hW.put hS2 (fun a ha => by funext c; simp [cp, ha]) (by simp) oq (show (H.setIfInBounds (o + i2) _)[o + i2]? = some _ by simp [Array.getElem?_setIfInBounds, hl'])
  obtain ⟨t, a1, b1⟩ := K (RM_cp hR) p e R s m args below meth c G ca sb o hC _ _ cells slots lsr ⟨W1.1, W1.2.1, ⟨W1.2.2.1, W1.2.2.2.1, fun q hq => by
      rcases List.mem_append.mp hq with h | h
      · exact hW.2.2.2.2 q h
      · obtain ⟨z, -, hz⟩ := List.mem_map.mp h
        rw [← hz]
        exact Nat.le_add_right _ _⟩⟩ h1 h2 hL _ hheap X'
  exact ⟨t, step t a1, b1⟩
end EvAlloc
