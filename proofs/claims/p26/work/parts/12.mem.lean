theorem RM_up {M : ev_M} {i k : Nat} {x : Int} (h : RM M) (hx : inR x) : RM (up M i k x) := by
  intro a b
  unfold up
  split
  · exact hx
  · exact h a b
theorem ev_Wd.put {G : va_G} {ca : Nat → ClassId} {o : Nat} {S : List ev_Sh} {M M' : ev_M} {s : State} {H H' : Heap} {locs : List Loc} {i k : Nat} {sh : ev_Sh} (hW : ev_Wd G ca o S M s H locs) (hS : S[i]? = some sh) (hM : ∀ j, j ≠ i → M' j = M j) (z : H'.size = H.size) (oq : ∀ q : Nat, q ≠ o + i → H'[q]? = H[q]?) (hc : va_at G vwCl (o + i, ev_cell o ca (M' i) sh) H') : ev_Wd G ca o S M' s H' (locs ++ [⟨o + i, k⟩]) := by
  obtain ⟨a1, a2, a3⟩ := hW
  refine ⟨by rw [z]; exact a1, ?_, a3.put z oq (Nat.le_add_right _ _)⟩
  have := a2.set (ev_D o ca S M) (ev_w_at hS) hc oq
  rw [ev_w_set hS rfl hM] at this
  exact this
theorem ev_Wd.putS {G : va_G} {ca : Nat → ClassId} {o : Nat} {S : List ev_Sh} {M : ev_M} {s : State} {H H' : Heap} {locs : List Loc} {i k : Nat} {sh sh' : ev_Sh} (hW : ev_Wd G ca o S M s H locs) (hS : S[i]? = some sh) (z : H'.size = H.size) (oq : ∀ q : Nat, q ≠ o + i → H'[q]? = H[q]?) (hc : va_at G vwCl (o + i, ev_cell o ca (M i) sh') H') : ev_Wd G ca o (S.set i sh') M s H' (locs ++ [⟨o + i, k⟩]) := by
  obtain ⟨a1, a2, a3⟩ := hW
  refine ⟨by rw [z, List.length_set]; exact a1, ?_, a3.put z oq (Nat.le_add_right _ _)⟩
  have := a2.set (ev_D o ca S M) (ev_w_at hS) hc oq
  rw [ev_w_setS hS rfl] at this
  exact this
theorem ev_Wd.push {G : va_G} {ca : Nat → ClassId} {o : Nat} {S : List ev_Sh} {M : ev_M} {s : State} {H H' : Heap} {locs : List Loc} {f : Nat → Int} {sh : ev_Sh} (hos : ∀ q, s.heap.size ≤ q → o ≤ q) (hW : ev_Wd G ca o S M s H locs) (z : H'.size = H.size + 1) (oq : ∀ q : Nat, q < H.size → H'[q]? = H[q]?) (hc : va_at G vwCl (o + S.length, ev_cell o ca f sh) H') : ev_Wd G ca o (S ++ [sh]) (fun a b => if a = S.length then f b else M a b) s H' locs := by
  obtain ⟨a1, a2, a3⟩ := hW
  refine ⟨by rw [z, a1, List.length_append]; rfl, ?_, ⟨by rw [z]; exact Nat.le_succ_of_le a3.1, fun q q1 q2 => (oq q (Nat.lt_of_lt_of_le q1 a3.1)).trans (a3.2.1 q q1 q2), a3.2.2⟩⟩
  rw [← ev_w_push rfl]
  refine (a2.kept (fun k q hk => oq q.1 ((a2 k q hk).lt))).app (fun k q hk => ?_)
  have hz : k < 1 := (List.getElem?_eq_some_iff.mp hk).1
  rw [show k = 0 by omega] at hk
  cases hk
  exact hc
/-- a field as an instruction names it: its class's place, its own, its type, final or not -/
def ev_FL (own : String) (idx ci kf : Nat) (ty : FieldType) (fin : Bool) : Prop := ∃ (C : String) (T : u_T) (N : Nat) (ty0 : Nat → FieldType), vwCl[ci]? = some (C, T, N) ∧ (∀ w ∈ u_ws C T N, w ∈ ev_T) ∧ (∀ k, k < N → parseFieldDescriptor (T k).2.2.1 = some (ty0 k)) ∧ (∀ a, a < N → ∀ b, b < N → a ≠ b → (T a).2.1 ≠ (T b).2.1) ∧ kf < N ∧ parseFieldDescriptor (T kf).2.2.1 = some ty ∧ (T kf).2.2.2 = fin ∧
  (Cond.fieldLink own idx (T kf).1 (T kf).2.1 (T kf).2.2.1 ∈ ev_T ∨ ∃ host, Cond.fieldLinkNest own idx (T kf).1 (T kf).2.1 (T kf).2.2.1 host ∈ lw_tbl)
def ev_PF (own : String) (idx ci kf : Nat) : Prop := ∃ (C : String) (T : u_T) (N : Nat), vwCl[ci]? = some (C, T, N) ∧ (T kf).1 = own ∧ Cond.fieldLink own idx (T kf).1 (T kf).2.1 (T kf).2.2.1 ∈ ev_T
theorem ev_fv_at {o : Nat} {f : Nat → Int} {fl : List (Option (Option Nat))} {kf : Nat} {q : Option (Option Nat)} (h : fl[kf]? = some q) : (ev_fv o f fl)[kf]? = some (ev_f1 o f kf q) := by
  simp [ev_fv, List.getElem?_mapIdx, h]
theorem ev_fv_set {o : Nat} {f f' : Nat → Int} {fl fl' : List (Option (Option Nat))} {kf : Nat} {v : Value} (hk : kf < fl.length) (hv : v = ev_f1 o f' kf (fl'.getD kf none)) (hfl : fl'.length = fl.length) (hn : ∀ j, j ≠ kf → fl'[j]? = fl[j]? ∧ f' j = f j) : (ev_fv o f fl).set kf v = ev_fv o f' fl' := by
  apply List.ext_getElem?
  intro j
  by_cases hj : j = kf
  · subst hj
    rw [List.getElem?_set_self (by simpa [ev_fv] using hk), hv]
    have : j < fl'.length := by omega
    simp [ev_fv, List.getElem?_mapIdx, this]
  · rw [List.getElem?_set_ne (Ne.symm hj)]
    obtain ⟨e1, e2⟩ := hn j hj
    simp only [ev_fv, List.getElem?_mapIdx, e1]
    cases fl[j]? with
    | none => rfl
    | some q => cases q <;> simp [ev_f1, e2]
section EvMem
variable {l : Launch} {X : Option (Nat × (Nat → Int))} {d : Nat} {k : ev_K} {b : Nat × Nat} {S : List ev_Sh} {M : ev_M} {pc q : Nat} {ls tl : List (Option ev_V)} {st : List ev_V} {Q : Option ev_V → List ev_Sh → ev_M → Prop}

theorem ev_get_g {idx ci kf i : Nat} {ty : FieldType} {fin : Bool} {fl : List (Option (Option Nat))} {r : Option (Option Nat)} {v : ev_V} (hd : decode k.1 pc = .ok (.getfield idx, 3)) (hF : ev_FL k.2.1 idx ci kf ty fin) (hS : S[i]? = some (.inr (.inl (ci, fl)))) (hv : fl[kf]? = some r) (hq : pc + 3 = q) (hr : ∀ sb o, ev_f1 o (M i) kf r = tr sb o v) (K : Ev l X d k b S M q ls (v :: st) Q) : Ev l X d k b S M pc ls (vr i :: st) Q := by
  have hrr := hr
  clear hr
  intro hR p e R s m args below meth c G ca sb o hC H locs cells slots lsr hW h1 h2 hL
  obtain ⟨hx, hb, hr, hlk, hml, hown, hts, hex, hin, hf, hlo, hK, hos, hX⟩ := id hC
  obtain ⟨C, T, N, ty0, g1, g2, g3, g4, g5, g6, g7, g9⟩ := hF
  have he := ev_w_at (o := o) (ca := ca) (M := M) hS
  have hvv : (ev_fv o (M i) fl)[kf]? = some (tr sb o v) := by rw [ev_fv_at hv, hrr sb o]
  subst hq
  rcases g9 with g9 | ⟨host, g9⟩
  · exact va_get hx hb hts g2 hown hK hW.2.1 i he g1 kf g5 (hts _ g9) (fun x h => h) hvv hd (K hR p e R s m args below meth c G ca sb o hC H locs cells slots lsr hW h1 h2 hL)
  · exact va_getN hx hb hts g2 hown hK hW.2.1 i he g1 kf g5 (va_Nw.use rfl (hex.1 _ g9 rfl)) (fun x h => h) hvv hd (K hR p e R s m args below meth c G ca sb o hC H locs cells slots lsr hW h1 h2 hL)
theorem ev_getI {idx ci kf i : Nat} {ty : FieldType} {fin : Bool} {fl : List (Option (Option Nat))} (hd : decode k.1 pc = .ok (.getfield idx, 3)) (hF : ev_FL k.2.1 idx ci kf ty fin) (hS : S[i]? = some (.inr (.inl (ci, fl)))) (hv : fl[kf]? = some none) (hq : pc + 3 = q) (K : inR (M i kf) → Ev l X d k b S M q ls (vi (M i kf) :: st) Q) : Ev l X d k b S M pc ls (vr i :: st) Q := by
  intro hR
  exact ev_get_g hd hF hS hv hq (fun _ _ => rfl) (K (hR i kf)) hR
theorem ev_getR {idx ci kf i j : Nat} {ty : FieldType} {fin : Bool} {fl : List (Option (Option Nat))} (hd : decode k.1 pc = .ok (.getfield idx, 3)) (hF : ev_FL k.2.1 idx ci kf ty fin) (hS : S[i]? = some (.inr (.inl (ci, fl)))) (hv : fl[kf]? = some (some (some j))) (hq : pc + 3 = q) (K : Ev l X d k b S M q ls (vr j :: st) Q) : Ev l X d k b S M pc ls (vr i :: st) Q := ev_get_g hd hF hS hv hq (fun _ _ => rfl) K
theorem narrow_int (x : Int32) : narrow .int (.int x) = .int x := rfl
theorem ev_putI_g {idx ci kf i : Nat} {ty : FieldType} {fl : List (Option (Option Nat))} {x : Int} (hd : decode k.1 pc = .ok (.putfield idx, 3)) (hF : ev_FL k.2.1 idx ci kf ty false) (hS : S[i]? = some (.inr (.inl (ci, fl)))) (hv : fl[kf]? = some none) (hq : pc + 3 = q) (hn : narrow ty (.int (Int32.ofInt x)) = .int (Int32.ofInt x)) (hfit : fits ty (.int (Int32.ofInt x)) = true) (i1 : inR x) (K : Ev l X d k b S (up M i kf x) q ls st Q) : Ev l X d k b S M pc ls (vi x :: vr i :: st) Q := by
  intro hR p e R s m args below meth c G ca sb o hC H locs cells slots lsr hW h1 h2 hL
  obtain ⟨hx, hb, hr, hlk, hml, hown, hts, hex, hin, hf, hlo, hK, hos, hX⟩ := id hC
  obtain ⟨C, T, N, ty0, g1, g2, g3, g4, g5, g6, g7, g9⟩ := hF
  have he := ev_w_at (o := o) (ca := ca) (M := M) hS
  have hl : kf < fl.length := (List.getElem?_eq_some_iff.mp hv).1
  have hll : kf < (ev_fv o (M i) fl).length := by simpa [ev_fv] using hl
  have hap := va_apart (own := k.2.1) hts g2 ty0 g3 g4 hK g1
  obtain ⟨r, r1, cell, q1, q2, q3, q4⟩ := hW.2.1 i _ he
  have hrr : r = (C, T, N) := Option.some.inj (r1.symm.trans g1)
  subst hrr
  obtain ⟨hSS, hfc, kC, hkC, hkind⟩ := hK.1 ci _ g1
  obtain ⟨cf, kf1, fi, f, hi, hsl⟩ := hSS kf g5
  have hlay := hts _ (g2 _ (u_in_lay g5))
  unfold u_lay at hlay
  rw [if_neg (by rw [g7]; decide)] at hlay
  have hst := (u_facts hfc hkC (u_lays hts g2 g5) hi).1
  have h6 := u_store hfc hkC hkind hlay hi g6 hn hfit
  have key : ∀ H' : Heap, H'[o + i]? = some (cell.setSlot f.slot (.int (Int32.ofInt x))) → H'.size = H.size → (∀ q, q ≠ o + i → H'[q]? = H[q]?) → ev_Wd G ca o S (up M i kf x) s H' (locs ++ [⟨o + i, f.slot⟩]) := by
    intro H' e1 e2 e3
    refine hW.put hS (fun j hj => ?_) e2 e3 ?_
    · funext b; simp [up, hj]
    · rw [hsl] at e1
      refine ⟨_, g1, ?_⟩
      have := t_OB.to (V := updV (vp_V (ev_fv o (M i) fl)) kf (.int (Int32.ofInt x))) ⟨_, e1, q2, q3, t_set q4 hap g5 _⟩ (fun j _ => vp_updV_set hll _ j)
      rw [show (ev_cell o ca (up M i kf x i) (.inr (.inl (ci, fl)))) = .inr (ci, ev_fv o (up M i kf x i) fl) from rfl]
      rw [ev_fv_set (f' := up M i kf x i) (fl' := fl) hl (by simp [List.getD_eq_getElem?_getD, hv, ev_f1, up]) rfl (fun j hj => ⟨rfl, by simp [up, hj]⟩)] at this
      exact this
  subst hq
  rcases g9 with g9 | ⟨host, g9⟩
  · exact W.putK hx hb (f := f) ⟨hown, hts _ g9, ⟨_, _, _, hi⟩, hst⟩ (by rw [q2]; exact h6) q1 q3 (by rw [hsl]; exact k2_hasslot (q4 kf g5)) rfl rfl hd (fun H' e1 e2 e3 => K (RM_up hR i1) p e R s m args below meth c G ca sb o hC H' _ cells slots lsr (key H' e1 e2 e3) h1 h2 hL)
  · exact va_WputK hx hb (f := f) hown (va_Nw.use rfl (hex.1 _ g9 rfl)) hi hst (by rw [q2]; exact h6) q1 q3 (by rw [hsl]; exact k2_hasslot (q4 kf g5)) rfl rfl hd (fun H' e1 e2 e3 => K (RM_up hR i1) p e R s m args below meth c G ca sb o hC H' _ cells slots lsr (key H' e1 e2 e3) h1 h2 hL)

theorem ev_putI {idx ci kf i : Nat} {fl : List (Option (Option Nat))} {x : Int} (hd : decode k.1 pc = .ok (.putfield idx, 3)) (hF : ev_FL k.2.1 idx ci kf .int false) (hS : S[i]? = some (.inr (.inl (ci, fl)))) (hv : fl[kf]? = some none) (hq : pc + 3 = q) (i1 : inR x) (K : Ev l X d k b S (up M i kf x) q ls st Q) : Ev l X d k b S M pc ls (vi x :: vr i :: st) Q := ev_putI_g hd hF hS hv hq rfl rfl i1 K
theorem ev_putZ {idx ci kf i : Nat} {fl : List (Option (Option Nat))} {x : Int} (hd : decode k.1 pc = .ok (.putfield idx, 3)) (hF : ev_FL k.2.1 idx ci kf .boolean false) (hS : S[i]? = some (.inr (.inl (ci, fl)))) (hv : fl[kf]? = some none) (hq : pc + 3 = q) (i1 : x = 0 ∨ x = 1) (K : Ev l X d k b S (up M i kf x) q ls st Q) : Ev l X d k b S M pc ls (vi x :: vr i :: st) Q := by
  rcases i1 with rfl | rfl
  · exact ev_putI_g hd hF hS hv hq (by decide) (by decide) (by unfold inR; omega) K
  · exact ev_putI_g hd hF hS hv hq (by decide) (by decide) (by unfold inR; omega) K
theorem ev_putR {idx ci kf i j : Nat} {ty : FieldType} {fl : List (Option (Option Nat))} {r : Option Nat} (hd : decode k.1 pc = .ok (.putfield idx, 3)) (hF : ev_FL k.2.1 idx ci kf ty true) (hS : S[i]? = some (.inr (.inl (ci, fl)))) (hPF : ev_PF k.2.1 idx ci kf) (hv : fl[kf]? = some (some r)) (hq : pc + 3 = q) (hk : k.2.2.2.2 = true) (hn : ∀ a, narrow ty (.ref a) = .ref a) (hfit : ∀ a, fits ty (.ref a) = true) (K : Ev l X d k b (S.set i (.inr (.inl (ci, fl.set kf (some (some j)))))) M q ls st Q) : Ev l X d k b S M pc ls (vr j :: vr i :: st) Q := by
  intro hR p e R s m args below meth c G ca sb o hC H locs cells slots lsr hW h1 h2 hL
  obtain ⟨hx, hb, hr, hlk, hml, hown, hts, hex, hin, hf, hlo, hK, hos, hX⟩ := id hC
  obtain ⟨C, T, N, ty0, g1, g2, g3, g4, g5, g6, g7, g9⟩ := hF
  obtain ⟨C', T', N', f1, f2, f3⟩ := hPF
  have fe := Option.some.inj (f1.symm.trans g1)
  cases fe
  have he := ev_w_at (o := o) (ca := ca) (M := M) hS
  have hl : kf < fl.length := (List.getElem?_eq_some_iff.mp hv).1
  have hll : kf < (ev_fv o (M i) fl).length := by simpa [ev_fv] using hl
  have hap := va_apart (own := k.2.1) hts g2 ty0 g3 g4 hK g1
  obtain ⟨r, r1, cell, q1, q2, q3, q4⟩ := hW.2.1 i _ he
  have hrr : r = (C, T, N) := Option.some.inj (r1.symm.trans g1)
  subst hrr
  obtain ⟨hSS, hfc, kC, hkC, hkind⟩ := hK.1 ci _ g1
  obtain ⟨cf, kf1, fi, f, hi, hsl⟩ := hSS kf g5
  have hlay := hts _ (g2 _ (u_in_lay g5))
  unfold u_lay at hlay
  rw [if_pos g7] at hlay
  have hst := (u_facts hfc hkC (u_lays hts g2 g5) hi).1
  have hcf : m.cls = cf := by
    obtain ⟨_, _, c', _, _, _, -, -, hf', -, -, -, hown2, -⟩ := Cond.laysFinal_spec hlay
    have e1 : c' = cf := by have := hi.symm.trans hf'; simp at this; exact this.1.symm
    rw [f2] at hown2
    rw [← e1]; exact Option.some.inj (hown.symm.trans hown2)
  have h6 := u_fits hfc hkC hkind (Or.inr hlay) hi g6 (hn (o + j)) (hfit (o + j))
  have key : ∀ H' : Heap, H'[o + i]? = some (cell.setSlot f.slot (.ref (o + j))) → H'.size = H.size → (∀ q, q ≠ o + i → H'[q]? = H[q]?) → ev_Wd G ca o (S.set i (.inr (.inl (ci, fl.set kf (some (some j)))))) M s H' (locs ++ [⟨o + i, f.slot⟩]) := by
    intro H' e1 e2 e3
    refine hW.putS hS e2 e3 ?_
    rw [hsl] at e1
    refine ⟨_, g1, ?_⟩
    have := t_OB.to (V := updV (vp_V (ev_fv o (M i) fl)) kf (.ref (o + j))) ⟨_, e1, q2, q3, t_set q4 hap g5 _⟩ (fun j _ => vp_updV_set hll _ j)
    rw [show (ev_cell o ca (M i) (.inr (.inl (ci, fl.set kf (some (some j)))))) = .inr (ci, ev_fv o (M i) (fl.set kf (some (some j)))) from rfl]
    rw [ev_fv_set (f' := M i) (fl' := fl.set kf (some (some j))) hl (by simp [List.getD_eq_getElem?_getD, hl, ev_f1, va_rf]) (by simp) (fun j hj => ⟨List.getElem?_set_ne (Ne.symm hj), rfl⟩)] at this
    exact this
  subst hq
  exact W.putFinK hx hb hown (hts _ f3) hi hst hcf (hin hk) (by rw [q2]; exact h6) q1 q3 (by rw [hsl]; exact k2_hasslot (q4 kf g5)) rfl rfl hd (fun H' e1 e2 e3 => K hR p e R s m args below meth c G ca sb o hC H' _ cells slots lsr (key H' e1 e2 e3) h1 h2 hL)

theorem ev_iaload {i n : Nat} {x : Int} (hd : decode k.1 pc = .ok (.iaload, 1)) (hS : S[i]? = some (.inl (0, n))) (hx1 : 0 ≤ x ∧ x < (n : Int)) (hn : n < 2 ^ 31) (hq : pc + 1 = q) (K : inR (M i x.toNat) → Ev l X d k b S M q ls (vi (M i x.toNat) :: st) Q) : Ev l X d k b S M pc ls (vi x :: vr i :: st) Q := by
  intro hR p e R s m args below meth c G ca sb o hC H locs cells slots lsr hW h1 h2 hL
  obtain ⟨hx, hb, hr, hlk, hml, hown, hts, hex, hin, hf, hlo, hK, hos, hX⟩ := id hC
  have he := ev_w_at (o := o) (ca := ca) (M := M) hS
  have i1 : inR x := by unfold inR; omega
  subst hq
  exact va_iald hx hb hK hW.2.1 i 0 he rfl (oi_in i1 hx1.1 hx1.2) hd (by rw [oi_clamp i1]; exact K (hR i _) hR p e R s m args below meth c G ca sb o hC H locs cells slots lsr hW h1 h2 hL)
theorem ev_aaload {i n j : Nat} {g : Nat → Option Nat} {x : Int} (hd : decode k.1 pc = .ok (.aaload, 1)) (hS : S[i]? = some (.inr (.inr (3, n, g)))) (hx1 : 0 ≤ x ∧ x < (n : Int)) (hn : n < 2 ^ 31) (hg : g x.toNat = some j) (hq : pc + 1 = q) (K : Ev l X d k b S M q ls (vr j :: st) Q) : Ev l X d k b S M pc ls (vi x :: vr i :: st) Q := by
  intro hR p e R s m args below meth c G ca sb o hC H locs cells slots lsr hW h1 h2 hL
  obtain ⟨hx, hb, hr, hlk, hml, hown, hts, hex, hin, hf, hlo, hK, hos, hX⟩ := id hC
  have he := ev_w_at (o := o) (ca := ca) (M := M) hS
  have i1 : inR x := by unfold inR; omega
  subst hq
  exact va_aldq hx hb hK hW.2.1 i 3 he rfl (oi_in i1 hx1.1 hx1.2) hd (by rw [oi_clamp i1, hg]; exact K hR p e R s m args below meth c G ca sb o hC H locs cells slots lsr hW h1 h2 hL)
theorem ev_alen {i n t : Nat} (hd : decode k.1 pc = .ok (.arraylength, 1)) (hS : S[i]? = some (.inl (t, n))) (ht : t < 3) (hq : pc + 1 = q) (K : Ev l X d k b S M q ls (vi (n : Int) :: st) Q) : Ev l X d k b S M pc ls (vr i :: st) Q := by
  intro hR p e R s m args below meth c G ca sb o hC H locs cells slots lsr hW h1 h2 hL
  obtain ⟨hx, hb, hr, hlk, hml, hown, hts, hex, hin, hf, hlo, hK, hos, hX⟩ := id hC
  have he := ev_w_at (o := o) (ca := ca) (M := M) hS
  subst hq
  have hv : Int32.ofNat n = Int32.ofInt (n : Int) := Int32.ofInt_eq_ofNat.symm
  match t, ht with
  | 0, _ => exact va_alen hx hb hK hW.2.1 i 0 he rfl hv hd (K hR p e R s m args below meth c G ca sb o hC H locs cells slots lsr hW h1 h2 hL)
  | 1, _ => exact va_alen hx hb hK hW.2.1 i 1 he rfl hv hd (K hR p e R s m args below meth c G ca sb o hC H locs cells slots lsr hW h1 h2 hL)
  | 2, _ => exact va_alen hx hb hK hW.2.1 i 2 he rfl hv hd (K hR p e R s m args below meth c G ca sb o hC H locs cells slots lsr hW h1 h2 hL)
theorem ev_alenR {i n : Nat} {g : Nat → Option Nat} (hd : decode k.1 pc = .ok (.arraylength, 1)) (hS : S[i]? = some (.inr (.inr (3, n, g)))) (hq : pc + 1 = q) (K : Ev l X d k b S M q ls (vi (n : Int) :: st) Q) : Ev l X d k b S M pc ls (vr i :: st) Q := by
  intro hR p e R s m args below meth c G ca sb o hC H locs cells slots lsr hW h1 h2 hL
  obtain ⟨hx, hb, hr, hlk, hml, hown, hts, hex, hin, hf, hlo, hK, hos, hX⟩ := id hC
  have he := ev_w_at (o := o) (ca := ca) (M := M) hS
  subst hq
  exact va_alen hx hb hK hW.2.1 i 3 he rfl Int32.ofInt_eq_ofNat.symm hd (K hR p e R s m args below meth c G ca sb o hC H locs cells slots lsr hW h1 h2 hL)
theorem ev_upf {M : ev_M} {i j : Nat} {x : Int} : (fun a => Int32.ofInt (up M i j x i a)) = upd (fun a => Int32.ofInt (M i a)) j (Int32.ofInt x) := by
  funext a
  by_cases h : a = j
  · subst h; simp [up, upd]
  · simp [up, upd, h]

theorem ev_iastore {i n : Nat} {x j : Int} (hd : decode k.1 pc = .ok (.iastore, 1)) (hS : S[i]? = some (.inl (0, n))) (hx1 : 0 ≤ j ∧ j < (n : Int)) (hn : n < 2 ^ 31) (i1 : inR x) (hq : pc + 1 = q) (K : Ev l X d k b S (up M i j.toNat x) q ls st Q) : Ev l X d k b S M pc ls (vi x :: vi j :: vr i :: st) Q := by
  intro hR p e R s m args below meth c G ca sb o hC H locs cells slots lsr hW h1 h2 hL
  obtain ⟨hx, hb, hr, hlk, hml, hown, hts, hex, hin, hf, hlo, hK, hos, hX⟩ := id hC
  have he := ev_w_at (o := o) (ca := ca) (M := M) hS
  have j1 : inR j := by unfold inR; omega
  have hnar : Value.int (Int32.ofInt x) = .int (Int32.ofInt x) := rfl
  subst hq
  refine W.iast hx hb (hW.2.1 i _ he) ((hK.2 0 _ rfl).1 n (fun a => .int (Int32.ofInt (M i a)))) (fun q => by cases q) (by show ¬ (Int32.ofInt j < 0 ∨ (arrV _ _ _).slots.size ≤ _); rw [arrV_size]; exact oi_in j1 hx1.1 hx1.2) rfl rfl hd fun H1 e9 z oq => ?_
  refine K (RM_up hR i1) p e R s m args below meth c G ca sb o hC H1 _ cells slots lsr (hW.put hS (fun a ha => by funext c; simp [up, ha]) z oq ?_) h1 h2 hL
  show H1[o + i]? = some (vp_cell (ca 0) (n, .inl (fun a => Int32.ofInt (up M i j.toNat x i a))))
  rw [e9]
  show some ((vp_cell (ca 0) (n, .inl (fun a => Int32.ofInt (M i a)))).setSlot _ _) = _
  rw [vp_cell_i, vp_cell_i, arrV_store, oi_clamp j1]
  congr 2
  funext a
  by_cases h : a = j.toNat
  · subst h; simp [up, updV]
  · simp [up, updV, h]
end EvMem
