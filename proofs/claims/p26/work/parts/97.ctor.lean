/-- behind n objects nothing changed; the next m hold their first numbers v, all others are 0 -/
def Nv (n m : Nat) (M0 : ev_M) (v : List Int) (M : ev_M) : Prop := v.length = m ∧ (∀ i k, i < n → M i k = M0 i k) ∧ ∀ j k, j < m → M (n + j) k = if k = 0 then v.getD j 0 else 0
theorem ap_at {P L : List ev_Sh} {j : Nat} {x : ev_Sh} (h : L[j]? = some x) : (P ++ L)[P.length + j]? = some x := by
  rw [List.getElem?_append_right (Nat.le_add_right _ _), Nat.add_sub_cancel_left]; exact h
theorem ap_set (P L : List ev_Sh) (j : Nat) (x : ev_Sh) : (P ++ L).set (P.length + j) x = P ++ L.set j x := by
  rw [List.set_append_right _ _ (Nat.le_add_right _ _), Nat.add_sub_cancel_left]
theorem Nv.zr0 {n m : Nat} {M0 M : ev_M} {v : List Int} (h : Nv n m M0 v M) : Nv n (m + 1) M0 (v ++ [0]) (zr M (n + m)) := by
  obtain ⟨h0, h1, h2⟩ := h
  refine ⟨by rw [List.length_append, h0]; rfl, fun i k hi => ?_, fun j k hj => ?_⟩
  · unfold zr
    rw [if_neg (by omega)]; exact h1 i k hi
  · unfold zr
    by_cases q : j = m
    · subst q
      rw [if_pos rfl]
      split
      · rw [← h0]; simp
      · rfl
    · rw [if_neg (by omega), h2 j k (by omega)]
      have : j < v.length := by omega
      simp [List.getElem?_append_left this]
theorem Nv.up {n m j : Nat} {M0 M : ev_M} {v : List Int} {x : Int} (h : Nv n m M0 v M) (hj : j < m) : Nv n m M0 (v.set j x) (up M (n + j) 0 x) := by
  obtain ⟨h0, h1, h2⟩ := h
  refine ⟨by rw [List.length_set]; exact h0, fun i k hi => ?_, fun j' k hj' => ?_⟩
  · rw [up_ne (by omega)]; exact h1 i k hi
  · rw [up_at]
    by_cases q : j' = j
    · subst q
      by_cases z : k = 0
      · rw [if_pos ⟨rfl, z⟩, if_pos z]
        have : j' < v.length := by omega
        simp [this]
      · rw [if_neg (fun w => z w.2), h2 j' k hj', if_neg z, if_neg z]
    · rw [if_neg (by omega), h2 j' k hj']
      simp [List.getElem?_set_ne (Ne.symm q)]
theorem Nv.cat {n j t : Nat} {M0 M M' : ev_M} {v w : List Int} (h : Nv n (j + 1) M0 v M) (h' : Nv (n + j) t M w M') : Nv n (j + t) M0 (v.take j ++ w) M' := by
  obtain ⟨h0, h1, h2⟩ := h
  obtain ⟨g0, g1, g2⟩ := h'
  have ht : (v.take j).length = j := by rw [List.length_take]; omega
  refine ⟨by rw [List.length_append, ht, g0], fun i k hi => (g1 i k (by omega)).trans (h1 i k hi), fun i k hi => ?_⟩
  by_cases q : i < j
  · rw [g1 (n + i) k (by omega), h2 i k (by omega)]
    simp only [List.getD_eq_getElem?_getD]
    rw [List.getElem?_append_left (by omega), List.getElem?_take_of_lt q]
  · obtain ⟨s, rfl⟩ : ∃ s, i = j + s := ⟨i - j, by omega⟩
    have := g2 s k (by omega)
    rw [← Nat.add_assoc, this]
    simp only [List.getD_eq_getElem?_getD]
    rw [List.getElem?_append_right (by omega), ht, Nat.add_sub_cancel_left]
/-- a constructor's contract: the object x behind P becomes T, with first numbers w -/
def Cn (l : Launch) (d : Nat) (k : ev_K) (y : MethodName) (b : Nat × Nat) (x : ev_Sh) (T : Nat → List ev_Sh) (w : List Int) (As : List ev_V) : Prop := ∀ (P : List ev_Sh) (M : ev_M), (∀ c, M P.length c = 0) → Ct l d k y b (P ++ [x]) M (vr P.length :: As) (fun a S' M' => a = none ∧ S' = P ++ T P.length ∧ Nv P.length w.length M w M')
section EvCtor
variable {l : Launch} {X : Option (Nat × (Nat → Int))} {d : Nat} {k : ev_K} {b b2 : Nat × Nat} {P L L' L1 : List ev_Sh} {M M0 : ev_M} {v v' : List Int} {pc q : Nat} {ls tl : List (Option ev_V)} {st stk : List ev_V} {Q : Option ev_V → List ev_Sh → ev_M → Prop}
variable {idx n ci N : Nat} {fl : List (Option (Option Nat))}
theorem ev_newN (hM : Nv P.length L.length M0 v M) (hd : decode k.1 pc = .ok (.new idx, 3)) (hN : ev_NW k.2.1 idx ci N fl) (hfl : ∀ q ∈ fl, q = none ∨ q = some none) (hbb : b = (1 + b2.1, N + b2.2)) (hq : pc + 3 = q) (j : Nat) (hj : j = L.length) (hL' : L' = L ++ [.inr (.inl (ci, fl))]) (hv' : v' = v ++ [0]) (K : ∀ M', Nv P.length L'.length M0 v' M' → Ev l X d k b2 (P ++ L') M' q ls (vr (P.length + j) :: st) Q) : Ev l X d k b (P ++ L) M pc ls st Q := by
  subst hj hL' hv'
  refine ev_new hd hN hfl hbb hq ?_
  rw [List.length_append, List.append_assoc]
  exact K _ (by rw [List.length_append]; exact hM.zr0)
theorem ev_newIN {x : Int} (hM : Nv P.length L.length M0 v M) (hd : decode k.1 pc = .ok (.newarray .int, 2)) (hw : Cond.arrayClass .int ∈ ev_T) (hx1 : x = (n : Int)) (hn : n < 100000) (hbb : b = (1 + b2.1, n + b2.2)) (hq : pc + 2 = q) (j : Nat) (hj : j = L.length) (hL' : L' = L ++ [.inl (0, n)]) (hv' : v' = v ++ [0]) (K : ∀ M', Nv P.length L'.length M0 v' M' → Ev l X d k b2 (P ++ L') M' q ls (vr (P.length + j) :: st) Q) : Ev l X d k b (P ++ L) M pc ls (vi x :: st) Q := by
  subst hj hL' hv'
  refine ev_newI hd hw hx1 hn hbb hq ?_
  rw [List.length_append, List.append_assoc]
  exact K _ (by rw [List.length_append]; exact hM.zr0)
theorem ev_anewN {x : Int} (hM : Nv P.length L.length M0 v M) (hd : decode k.1 pc = .ok (.anewarray idx, 3)) (hw : Cond.classLink k.2.1 idx "StyleCascade$State" ∈ ev_T) (hx1 : x = (n : Int)) (hn : n < 100000) (hbb : b = (1 + b2.1, n + b2.2)) (hq : pc + 3 = q) (j : Nat) (hj : j = L.length) (hL' : L' = L ++ [.inr (.inr (3, n, fun _ => none))]) (hv' : v' = v ++ [0]) (K : ∀ M', Nv P.length L'.length M0 v' M' → Ev l X d k b2 (P ++ L') M' q ls (vr (P.length + j) :: st) Q) : Ev l X d k b (P ++ L) M pc ls (vi x :: st) Q := by
  subst hj hL' hv'
  refine ev_anew hd hw hx1 hn hbb hq ?_
  rw [List.length_append, List.append_assoc]
  exact K _ (by rw [List.length_append]; exact hM.zr0)
theorem ev_aastoreN {x : Int} {cj : Nat} {g : Nat → Option Nat} (hM : Nv P.length L.length M0 v M) (hd : decode k.1 pc = .ok (.aastore, 1)) (i j : Nat) (hS : L[i]? = some (.inr (.inr (3, n, g)))) (hj : L[j]? = some (.inr (.inl (cj, fl)))) (hcj : ∃ T N, vwCl[cj]? = some ("StyleCascade$State", T, N)) (hx1 : 0 ≤ x ∧ x < (n : Int)) (hn : n < 100000) (hq : pc + 1 = q) (hL' : L' = L.set i (.inr (.inr (3, n, va_up g x.toNat (some (P.length + j)))))) (K : Nv P.length L'.length M0 v M → Ev l X d k b (P ++ L') M q ls st Q) : Ev l X d k b (P ++ L) M pc ls (vr (P.length + j) :: vi x :: vr (P.length + i) :: st) Q := by
  subst hL'
  refine ev_aastore hd (ap_at hS) (ap_at hj) hcj hx1 hn hq ?_
  rw [ap_set]
  exact K (by rw [List.length_set]; exact hM)
theorem ev_putRN {kf : Nat} {ty : FieldType} {r : Option Nat} (hM : Nv P.length L.length M0 v M) (hd : decode k.1 pc = .ok (.putfield idx, 3)) (hF : ev_FL k.2.1 idx ci kf ty true) (i j : Nat) (hS : L[i]? = some (.inr (.inl (ci, fl)))) (hPF : ev_PF k.2.1 idx ci kf) (hv : fl[kf]? = some (some r)) (hq : pc + 3 = q) (hk : k.2.2.2.2 = true) (hn : ∀ a, narrow ty (.ref a) = .ref a) (hfit : ∀ a, fits ty (.ref a) = true) (hL' : L' = L.set i (.inr (.inl (ci, fl.set kf (some (some (P.length + j))))))) (K : Nv P.length L'.length M0 v M → Ev l X d k b (P ++ L') M q ls st Q) : Ev l X d k b (P ++ L) M pc ls (vr (P.length + j) :: vr (P.length + i) :: st) Q := by
  subst hL'
  refine ev_putR hd hF (ap_at hS) hPF hv hq hk hn hfit ?_
  rw [ap_set]
  exact K (by rw [List.length_set]; exact hM)
theorem ev_putIN {x : Int} (hM : Nv P.length L.length M0 v M) (hd : decode k.1 pc = .ok (.putfield idx, 3)) (hF : ev_FL k.2.1 idx ci 0 .int false) (i : Nat) (hS : L[i]? = some (.inr (.inl (ci, fl)))) (hv : fl[0]? = some none) (hq : pc + 3 = q) (i1 : inR x) (hv' : v' = v.set i x) (K : ∀ M', Nv P.length L.length M0 v' M' → Ev l X d k b (P ++ L) M' q ls st Q) : Ev l X d k b (P ++ L) M pc ls (vi x :: vr (P.length + i) :: st) Q := by
  subst hv'
  exact ev_putI hd hF (ap_at hS) hv hq i1 (K _ (hM.up (List.getElem?_eq_some_iff.mp hS).1))
theorem ev_callN {y : MethodName} {k1 : ev_K} {d1 : Nat} {b1 : Nat × Nat} {As : List ev_V} {x : ev_Sh} {T : Nat → List ev_Sh} {w : List Int} (hM : Nv P.length L.length M0 v M) (hd : decode k.1 pc = .ok (.invokespecial idx, 3)) (hs : ev_IS k.2.1 idx y k1 n) (hc : Cn l d1 k1 y b1 x T w As) (hd1 : d1 + 1 ≤ d) (hn : As.length = n) (L1 : List ev_Sh) (j : Nat) (hL : L = L1 ++ [x]) (hj : j = L1.length) (hz : v.getD j 0 = 0) (hstk : stk = As.reverse ++ vr (P.length + j) :: st) (hst : st.length ≤ 8) (hbb : b = (b1.1 + b2.1, b1.2 + b2.2)) (hq : pc + 3 = q) (hT : (T (P.length + j)).length = w.length) (hL' : L' = L1 ++ T (P.length + j)) (hv' : v' = v.take j ++ w) (K : ∀ M', Nv P.length L'.length M0 v' M' → Ev l X d k b2 (P ++ L') M' q ls st Q) : Ev l X d k b (P ++ L) M pc ls stk Q := by
  subst hL hj hL' hv' hstk
  rw [List.length_append] at hM
  have hc' := hc (P ++ L1) M (fun c => by
    rw [List.length_append, hM.2.2 L1.length c (Nat.lt_succ_self _), hz]; split <;> rfl)
  rw [List.length_append, List.append_assoc, List.append_assoc] at hc'
  refine ev_callI (b2 := b2) hd hs hc' hd1 hn rfl hst hbb hq (fun a S' M' hq2 _ => ?_)
  obtain ⟨rfl, rfl, hN⟩ := hq2
  have hN' : Nv P.length (L1.length + w.length) M0 (v.take L1.length ++ w) M' := Nv.cat hM hN
  have := K M' (by rw [List.length_append, hT]; exact hN')
  exact this
end EvCtor

