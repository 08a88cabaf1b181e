section Eqs
variable {M M1 M2 : ev_M} {z1 z2 : Int}
theorem Rel.beg (h : Rel M) {i : Nat} (hi : 100 ≤ i) : begM M i = M i := begM_o h.1.2.1 h.1.2.2.1.1 (Or.inr (by omega))
theorem Rel.ag (h : Rel M) (g : ∀ i, 100 ≤ i → M1 i = M i) : Ag (M1 101) (cV M 1) := by rw [g 101 (by decide)]; exact h.2.1
theorem Rel.hh (h : Rel M) (g : ∀ i, 100 ≤ i → M1 i = M i) : 0 ≤ M1 100 2 ∧ M1 100 2 ≤ 5 := by rw [g 100 (by decide), h.2.2.1]; exact h.1.2.2.1
theorem Rel.tx (h : Rel M) (g : ∀ i, 100 ≤ i → M1 i = M i) : TxM (M 94) (M 92 1) M1 := by
  have := h.2.2.2.2
  unfold TxM at this ⊢
  rw [g 100 (by decide), g 103 (by decide)]; exact this
theorem Rel.el (h : Rel M) (g : ∀ i, 100 ≤ i → M1 i = M i) : M1 101 0 = M 2 0 ∧ 1 ≤ M 2 0 ∧ M 2 0 ≤ 16 := by
  rw [g 101 (by decide)]; exact ⟨h.2.1.1, h.1.1.1⟩
theorem Rel.tl (h : Rel M) (g : ∀ i, 100 ≤ i → M1 i = M i) : M1 100 4 = M 92 1 ∧ 0 ≤ M 92 1 ∧ M 92 1 ≤ 80 := ⟨(h.tx g).1, (h.tx g).2.1⟩
theorem Qy.hi (h : Qy M M1) : ∀ i, 100 ≤ i → M1 i = M i := fun i hi => by
  rcases h with rfl | ⟨f, -, -⟩
  · rfl
  · exact f i (by omega) (by omega) (by omega) (by omega) (by omega) (by omega)
theorem ParR.hi {el : Int} (h : ParR M el M1) : ∀ i, 100 ≤ i → M1 i = M i := fun i hi => h.2.2.2 i (by omega) (by omega) (by omega) (by omega)
theorem ParR.lo {el : Int} (h : ParR M el M1) : ∀ i, i < 92 → M1 i = M i := fun i hi => h.2.2.2 i (by omega) (by omega) (by omega) (by omega)
theorem hi_eq (h : M1 = M) : ∀ i, 100 ≤ i → M1 i = M i := fun i _ => by rw [h]
theorem hi_ly {r p : Nat} {n c f : Int} (h : Rel M) (h1 : M1 = lyM (begM M) r p n c f) : ∀ i, 100 ≤ i → M1 i = M i := fun i hi => by
  rw [h1]; unfold lyM; rw [up_ne (by omega), up_ne (by omega), up_ne (by omega), h.beg hi]
theorem hi_add {p k c : Int} (h : Rel M) (hc : (¬ ((0 ≤ p ∧ p < M 2 0) ∧ (0 ≤ k ∧ k ≤ 5) ∧ (0 ≤ c ∧ c ≤ 15)) ∧ z1 = -11 ∧ M1 = M) ∨ (((0 ≤ p ∧ p < M 2 0) ∧ (0 ≤ k ∧ k ≤ 5) ∧ (0 ≤ c ∧ c ≤ 15)) ∧ M 2 0 ≥ 16 ∧ z1 = -13 ∧ M1 = M) ∨ (((0 ≤ p ∧ p < M 2 0) ∧ (0 ≤ k ∧ k ≤ 5) ∧ (0 ≤ c ∧ c ≤ 15)) ∧ M 2 0 < 16 ∧ z1 = M 2 0 ∧ M1 = adM (begM M) p k c)) : ∀ i, 100 ≤ i → M1 i = M i := by
  intro i hi
  rcases hc with ⟨-, -, rfl⟩ | ⟨-, -, -, rfl⟩ | ⟨-, -, -, rfl⟩
  · rfl
  · rfl
  · unfold adM; rw [up_ne (by omega), up_ne (by omega), up_ne (by omega), up_ne (by omega), h.beg hi]
theorem hi_remove (h : Rel M) (hc : ((M 2 0 ≤ 1 ∨ exB (fun r => decide (M 11 (6 * r + 4) = M 2 0 - 1)) (M 9 0).toNat = true) ∧ z1 = -12 ∧ M1 = M) ∨ ((M 2 0 > 1 ∧ exB (fun r => decide (M 11 (6 * r + 4) = M 2 0 - 1)) (M 9 0).toNat = false) ∧ z1 = M 2 0 - 1 ∧ M1 = up (begM M) 2 0 (M 2 0 - 1))) : ∀ i, 100 ≤ i → M1 i = M i := by
  intro i hi
  rcases hc with ⟨-, -, rfl⟩ | ⟨-, -, rfl⟩
  · rfl
  · rw [up_ne (by omega), h.beg hi]
theorem hi_dress {e k c : Int} (h : Rel M) (hc : (¬ ((0 ≤ e ∧ e < M 2 0) ∧ (0 ≤ k ∧ k ≤ 5) ∧ (0 ≤ c ∧ c ≤ 15)) ∧ z1 = -11 ∧ M1 = M) ∨ (((0 ≤ e ∧ e < M 2 0) ∧ (0 ≤ k ∧ k ≤ 5) ∧ (0 ≤ c ∧ c ≤ 15)) ∧ z1 = 16 * M 6 e.toNat + M 8 e.toNat ∧ M1 = up (up (begM M) 6 e.toNat k) 8 e.toNat c)) : ∀ i, 100 ≤ i → M1 i = M i := by
  intro i hi
  rcases hc with ⟨-, -, rfl⟩ | ⟨-, -, rfl⟩
  · rfl
  · rw [up_ne (by omega), up_ne (by omega), h.beg hi]
theorem hi_undo (h : Rel M) (hc : (M 14 2 ≤ 0 ∧ z1 = -12 ∧ M1 = M) ∨ (M 14 2 > 0 ∧ z1 = M 14 2 - 1 ∧ M1 = up (resM M) 81 0 0)) : ∀ i, 100 ≤ i → M1 i = M i := by
  intro i hi
  rcases hc with ⟨-, -, rfl⟩ | ⟨-, -, rfl⟩
  · rfl
  · unfold resM; rw [up_ne (by omega), up_ne (by omega), scM_o (by omega)]
theorem hi_rule {k c a y s i : Int} (h : Rel M) (hc : (¬ okR M k c a y s i ∧ z1 = -11 ∧ M1 = M) ∨ (okR M k c a y s i ∧ M 9 0 ≥ 16 ∧ z1 = -13 ∧ M1 = M) ∨ (okR M k c a y s i ∧ M 9 0 < 16 ∧ z1 = M 9 0 ∧ M1 = apM (begM M) 9 11 13 k c a y s i)) : ∀ i, 100 ≤ i → M1 i = M i := by
  intro i hi
  rcases hc with ⟨-, -, rfl⟩ | ⟨-, -, -, rfl⟩ | ⟨-, -, -, rfl⟩
  · rfl
  · rfl
  · unfold apM
    rw [up_ne (by omega)]
    funext cc
    rw [fil_at, if_neg (by omega), up_ne (by omega), up_ne (by omega), up_ne (by omega), up_ne (by omega), up_ne (by omega), up_ne (by omega), h.beg hi]
theorem hi_drop {r : Int} (h : Rel M) (hc : (¬ (0 ≤ r ∧ r < M 9 0) ∧ z1 = -11 ∧ M1 = M) ∨ ((0 ≤ r ∧ r < M 9 0) ∧ z1 = M 9 0 - 1 ∧ M1 = toM (begM M) r.toNat)) : ∀ i, 100 ≤ i → M1 i = M i := by
  intro i hi
  rcases hc with ⟨-, -, rfl⟩ | ⟨-, -, rfl⟩
  · rfl
  · unfold toM
    funext cc
    rw [shf_at, if_neg (by omega), shf_at, if_neg (by omega), up_ne (by omega), h.beg hi]
theorem hi_declare {r p n : Int} (h : Rel M) (hc : (¬ ((0 ≤ r ∧ r < M 9 0) ∧ (0 ≤ p ∧ p ≤ 15) ∧ (0 ≤ n ∧ n ≤ 999)) ∧ z1 = -11 ∧ M1 = M) ∨ (((0 ≤ r ∧ r < M 9 0) ∧ (0 ≤ p ∧ p ≤ 15) ∧ (0 ≤ n ∧ n ≤ 999)) ∧ M1 = lyM (begM M) r.toNat p.toNat n (-1) (-1) ∧ z1 = cnt (fun p => dcl M1 13 r p) 16)) : ∀ i, 100 ≤ i → M1 i = M i := by
  rcases hc with ⟨-, -, h1⟩ | ⟨-, h1, -⟩
  · exact hi_eq h1
  · exact hi_ly h h1
theorem hi_refer {r p c f : Int} (h : Rel M) (hc : (¬ ((0 ≤ r ∧ r < M 9 0) ∧ (0 ≤ p ∧ p ≤ 15) ∧ (8 ≤ c ∧ c ≤ 15) ∧ (-1 ≤ f ∧ f ≤ 999)) ∧ z1 = -11 ∧ M1 = M) ∨ (((0 ≤ r ∧ r < M 9 0) ∧ (0 ≤ p ∧ p ≤ 15) ∧ (8 ≤ c ∧ c ≤ 15) ∧ (-1 ≤ f ∧ f ≤ 999)) ∧ M1 = lyM (begM M) r.toNat p.toNat (-1) c f ∧ z1 = cnt (fun p => dcl M1 13 r p) 16)) : ∀ i, 100 ≤ i → M1 i = M i := by
  rcases hc with ⟨-, -, h1⟩ | ⟨-, h1, -⟩
  · exact hi_eq h1
  · exact hi_ly h h1
theorem hi_undeclare {r p : Int} (h : Rel M) (hc : (¬ ((0 ≤ r ∧ r < M 9 0) ∧ (0 ≤ p ∧ p ≤ 15)) ∧ z1 = -11 ∧ M1 = M) ∨ (((0 ≤ r ∧ r < M 9 0) ∧ (0 ≤ p ∧ p ≤ 15)) ∧ dcl M 13 r p = false ∧ z1 = -12 ∧ M1 = M) ∨ (((0 ≤ r ∧ r < M 9 0) ∧ (0 ≤ p ∧ p ≤ 15)) ∧ dcl M 13 r p = true ∧ M1 = lyM (begM M) r.toNat p.toNat (-1) (-1) (-1) ∧ z1 = cnt (fun p => dcl M1 13 r p) 16)) : ∀ i, 100 ≤ i → M1 i = M i := by
  rcases hc with ⟨-, -, h1⟩ | ⟨-, -, -, h1⟩ | ⟨-, -, h1, -⟩
  · exact hi_eq h1
  · exact hi_eq h1
  · exact hi_ly h h1
theorem hi_type {c : Int} (h : Rel M) (hc : (¬ (32 ≤ c ∧ c ≤ 126) ∧ z1 = -11 ∧ M1 = M) ∨ ((32 ≤ c ∧ c ≤ 126) ∧ M 92 1 ≥ 80 ∧ z1 = -13 ∧ M1 = M) ∨ ((32 ≤ c ∧ c ≤ 126) ∧ M 92 1 < 80 ∧ z1 = M 92 1 + 1 ∧ M1 = up (up M 94 (M 92 1).toNat c) 92 1 (M 92 1 + 1))) : ∀ i, 100 ≤ i → M1 i = M i := by
  intro i hi
  rcases hc with ⟨-, -, rfl⟩ | ⟨-, -, -, rfl⟩ | ⟨-, -, -, rfl⟩
  · rfl
  · rfl
  · rw [up_ne (by omega), up_ne (by omega)]
theorem hi_clearText (h : Rel M) (hc : z1 = M 92 1 ∧ M1 = up M 92 1 0) : ∀ i, 100 ≤ i → M1 i = M i := by
  intro i hi
  obtain ⟨-, rfl⟩ := hc
  rw [up_ne (by omega)]
theorem hi_fault (h : Rel M) (hc : z1 = (if fltV (M 94) (M 92 1) (M 2 0) = -1 then -14 else fltV (M 94) (M 92 1) (M 2 0)) ∧ ParR M (M 2 0) M1) : ∀ i, 100 ≤ i → M1 i = M i := by
  exact hc.2.hi
theorem hi_read (h : Rel M) (hc : (fltV (M 94) (M 92 1) (M 2 0) ≠ -1 ∧ z1 = -12 ∧ ParR M (M 2 0) M1) ∨ (fltV (M 94) (M 92 1) (M 2 0) = -1 ∧ M 9 0 ≥ 16 ∧ z1 = -13 ∧ ParR M (M 2 0) M1) ∨ (fltV (M 94) (M 92 1) (M 2 0) = -1 ∧ M 9 0 < 16 ∧ z1 = M 9 0 ∧ ∃ Mc, ParR M (M 2 0) Mc ∧ M1 = afM (begM Mc))) : ∀ i, 100 ≤ i → M1 i = M i := by
  intro i hi
  rcases hc with ⟨-, -, hp⟩ | ⟨-, -, -, hp⟩ | ⟨-, -, -, Mc, hp, rfl⟩
  · exact hp.hi i hi
  · exact hp.hi i hi
  · have e14 := hp.lo 14 (by decide)
    unfold afM
    rw [up_ne (by omega)]
    funext cc
    rw [blk_at, if_neg (by omega), blk_at, if_neg (by omega), begM_o (by rw [e14]; exact h.1.2.1) (by rw [e14]; exact h.1.2.2.1.1) (Or.inr (by omega)), hp.hi i hi]
theorem hi_element {e w : Int} (h : Rel M) (hc : ((¬ ((0 ≤ e ∧ e < M 2 0) ∧ 0 ≤ w ∧ w ≤ 5) ∧ z1 = -11) ∨ (((0 ≤ e ∧ e < M 2 0) ∧ 0 ≤ w ∧ w ≤ 5) ∧ z1 = elV (cV M 1) e.toNat w)) ∧ Qy M M1) : ∀ i, 100 ≤ i → M1 i = M i := hc.2.hi
theorem hi_count {w : Int} (h : Rel M) (hc : ((¬ (0 ≤ w ∧ w ≤ 6) ∧ z1 = -11) ∨ ((0 ≤ w ∧ w ≤ 6) ∧ z1 = coV (cV M 1) (M 14 2) (M 92 1) w)) ∧ Qy M M1) : ∀ i, 100 ≤ i → M1 i = M i := hc.2.hi
theorem hi_ruleOf {r w : Int} (h : Rel M) (hc : ((¬ ((0 ≤ r ∧ r < M 9 0) ∧ 0 ≤ w ∧ w ≤ 8) ∧ z1 = -11) ∨ (((0 ≤ r ∧ r < M 9 0) ∧ 0 ≤ w ∧ w ≤ 8) ∧ z1 = ruV (cV M 1) r.toNat w)) ∧ Qy M M1) : ∀ i, 100 ≤ i → M1 i = M i := hc.2.hi
theorem hi_declared {r p w : Int} (h : Rel M) (hc : ((¬ ((0 ≤ r ∧ r < M 9 0) ∧ (0 ≤ p ∧ p ≤ 15) ∧ 0 ≤ w ∧ w ≤ 2) ∧ z1 = -11) ∨ (((0 ≤ r ∧ r < M 9 0) ∧ (0 ≤ p ∧ p ≤ 15) ∧ 0 ≤ w ∧ w ≤ 2) ∧ z1 = (if ven (cV M 1) r.toNat p.toNat w.toNat = -1 then -14 else ven (cV M 1) r.toNat p.toNat w.toNat))) ∧ M1 = M) : ∀ i, 100 ≤ i → M1 i = M i := hi_eq hc.2
theorem hi_matches {r e : Int} (h : Rel M) (hc : ((¬ ((0 ≤ r ∧ r < M 9 0) ∧ 0 ≤ e ∧ e < M 2 0) ∧ z1 = -11) ∨ (((0 ≤ r ∧ r < M 9 0) ∧ 0 ≤ e ∧ e < M 2 0) ∧ z1 = (if fitB (cV M 1) r.toNat e.toNat = true then 1 else 0))) ∧ Qy M M1) : ∀ i, 100 ≤ i → M1 i = M i := hc.2.hi
theorem hi_value {e p : Int} (h : Rel M) (hc : ((¬ ((0 ≤ e ∧ e < M 2 0) ∧ 0 ≤ p ∧ p ≤ 15) ∧ z1 = -11) ∨ (((0 ≤ e ∧ e < M 2 0) ∧ 0 ≤ p ∧ p ≤ 15) ∧ z1 = vaV (cV M 1) e.toNat p.toNat)) ∧ Qy M M1) : ∀ i, 100 ≤ i → M1 i = M i := hc.2.hi
theorem hi_winner {e p : Int} (h : Rel M) (hc : ((¬ ((0 ≤ e ∧ e < M 2 0) ∧ 0 ≤ p ∧ p ≤ 15) ∧ z1 = -11) ∨ (((0 ≤ e ∧ e < M 2 0) ∧ 0 ≤ p ∧ p ≤ 15) ∧ z1 = (if winV (cV M 1) e.toNat p.toNat = -1 then -14 else winV (cV M 1) e.toNat p.toNat))) ∧ Qy M M1) : ∀ i, 100 ≤ i → M1 i = M i := hc.2.hi
theorem hi_why {e p k w : Int} (h : Rel M) (hc : ((¬ ((0 ≤ e ∧ e < M 2 0) ∧ (0 ≤ p ∧ p ≤ 15) ∧ 0 ≤ k ∧ 0 ≤ w ∧ w ≤ 1) ∧ z1 = -11) ∨ (((0 ≤ e ∧ e < M 2 0) ∧ (0 ≤ p ∧ p ≤ 15) ∧ 0 ≤ k ∧ 0 ≤ w ∧ w ≤ 1) ∧ z1 = whV (cV M 1) e.toNat p.toNat k w)) ∧ Qy M M1) : ∀ i, 100 ≤ i → M1 i = M i := hc.2.hi
theorem hi_from {e p : Int} (h : Rel M) (hc : ((¬ ((0 ≤ e ∧ e < M 2 0) ∧ 0 ≤ p ∧ p ≤ 15) ∧ z1 = -11) ∨ (((0 ≤ e ∧ e < M 2 0) ∧ 0 ≤ p ∧ p ≤ 15) ∧ z1 = frV (cV M 1) e.toNat p.toNat)) ∧ Qy M M1) : ∀ i, 100 ≤ i → M1 i = M i := hc.2.hi
theorem hi_cycle {e p : Int} (h : Rel M) (hc : ((¬ ((0 ≤ e ∧ e < M 2 0) ∧ 8 ≤ p ∧ p ≤ 15) ∧ z1 = -11) ∨ (((0 ≤ e ∧ e < M 2 0) ∧ 8 ≤ p ∧ p ≤ 15) ∧ z1 = cycV (cV M 1) e.toNat p)) ∧ Qy M M1) : ∀ i, 100 ≤ i → M1 i = M i := hc.2.hi
theorem two_way {G : Prop} {f a b : Int} (h1 : (¬ G ∧ a = -11) ∨ (G ∧ a = f)) (h2 : (¬ G ∧ b = -11) ∨ (G ∧ b = f)) : a = b := by
  rcases h1 with ⟨g, rfl⟩ | ⟨g, rfl⟩ <;> rcases h2 with ⟨g', rfl⟩ | ⟨g', rfl⟩
  · rfl
  · exact absurd g' g
  · exact absurd g g'
  · rfl
theorem e_element {e w : Int} (h : Rel M) (hc : ((¬ ((0 ≤ e ∧ e < M 2 0) ∧ 0 ≤ w ∧ w ≤ 5) ∧ z1 = -11) ∨ (((0 ≤ e ∧ e < M 2 0) ∧ 0 ≤ w ∧ w ≤ 5) ∧ z1 = elV (cV M 1) e.toNat w)) ∧ Qy M M1) (hm : ((¬ ((0 ≤ e ∧ e < vel (cV M 1)) ∧ 0 ≤ w ∧ w ≤ 5) ∧ z2 = -11) ∨ (((0 ≤ e ∧ e < vel (cV M 1)) ∧ 0 ≤ w ∧ w ≤ 5) ∧ z2 = elV (cV M 1) e.toNat w)) ∧ Mq M1 M2) : z1 = z2 ∧ Rel M2 := ⟨two_way hc.1 hm.1, rel_query h hc.2 hm.2⟩
theorem e_ruleOf {r w : Int} (h : Rel M) (hc : ((¬ ((0 ≤ r ∧ r < M 9 0) ∧ 0 ≤ w ∧ w ≤ 8) ∧ z1 = -11) ∨ (((0 ≤ r ∧ r < M 9 0) ∧ 0 ≤ w ∧ w ≤ 8) ∧ z1 = ruV (cV M 1) r.toNat w)) ∧ Qy M M1) (hm : ((¬ ((0 ≤ r ∧ r < vrn (cV M 1)) ∧ 0 ≤ w ∧ w ≤ 8) ∧ z2 = -11) ∨ (((0 ≤ r ∧ r < vrn (cV M 1)) ∧ 0 ≤ w ∧ w ≤ 8) ∧ z2 = ruV (cV M 1) r.toNat w)) ∧ M2 = M1) : z1 = z2 ∧ Rel M2 := ⟨two_way hc.1 hm.1, rel_query h hc.2 (Mq.of_eq hm.2)⟩
theorem e_declared {r p w : Int} (h : Rel M) (hc : ((¬ ((0 ≤ r ∧ r < M 9 0) ∧ (0 ≤ p ∧ p ≤ 15) ∧ 0 ≤ w ∧ w ≤ 2) ∧ z1 = -11) ∨ (((0 ≤ r ∧ r < M 9 0) ∧ (0 ≤ p ∧ p ≤ 15) ∧ 0 ≤ w ∧ w ≤ 2) ∧ z1 = (if ven (cV M 1) r.toNat p.toNat w.toNat = -1 then -14 else ven (cV M 1) r.toNat p.toNat w.toNat))) ∧ M1 = M) (hm : ((¬ ((0 ≤ r ∧ r < vrn (cV M 1)) ∧ (0 ≤ p ∧ p ≤ 15) ∧ 0 ≤ w ∧ w ≤ 2) ∧ z2 = -11) ∨ (((0 ≤ r ∧ r < vrn (cV M 1)) ∧ (0 ≤ p ∧ p ≤ 15) ∧ 0 ≤ w ∧ w ≤ 2) ∧ z2 = (if ven (cV M 1) r.toNat p.toNat w.toNat = -1 then -14 else ven (cV M 1) r.toNat p.toNat w.toNat))) ∧ M2 = M1) : z1 = z2 ∧ Rel M2 := ⟨two_way hc.1 hm.1, by rw [hm.2, hc.2]; exact h⟩
theorem e_matches {r e : Int} (h : Rel M) (hc : ((¬ ((0 ≤ r ∧ r < M 9 0) ∧ 0 ≤ e ∧ e < M 2 0) ∧ z1 = -11) ∨ (((0 ≤ r ∧ r < M 9 0) ∧ 0 ≤ e ∧ e < M 2 0) ∧ z1 = (if fitB (cV M 1) r.toNat e.toNat = true then 1 else 0))) ∧ Qy M M1) (hm : ((¬ ((0 ≤ r ∧ r < vrn (cV M 1)) ∧ 0 ≤ e ∧ e < vel (cV M 1)) ∧ z2 = -11) ∨ (((0 ≤ r ∧ r < vrn (cV M 1)) ∧ 0 ≤ e ∧ e < vel (cV M 1)) ∧ z2 = (if fitB (cV M 1) r.toNat e.toNat = true then 1 else 0))) ∧ M2 = M1) : z1 = z2 ∧ Rel M2 := ⟨two_way hc.1 hm.1, rel_query h hc.2 (Mq.of_eq hm.2)⟩
theorem e_value {e p : Int} (h : Rel M) (hc : ((¬ ((0 ≤ e ∧ e < M 2 0) ∧ 0 ≤ p ∧ p ≤ 15) ∧ z1 = -11) ∨ (((0 ≤ e ∧ e < M 2 0) ∧ 0 ≤ p ∧ p ≤ 15) ∧ z1 = vaV (cV M 1) e.toNat p.toNat)) ∧ Qy M M1) (hm : ((¬ ((0 ≤ e ∧ e < vel (cV M 1)) ∧ 0 ≤ p ∧ p ≤ 15) ∧ z2 = -11) ∨ (((0 ≤ e ∧ e < vel (cV M 1)) ∧ 0 ≤ p ∧ p ≤ 15) ∧ z2 = vaV (cV M 1) e.toNat p.toNat)) ∧ Mq M1 M2) : z1 = z2 ∧ Rel M2 := ⟨two_way hc.1 hm.1, rel_query h hc.2 hm.2⟩
theorem e_winner {e p : Int} (h : Rel M) (hc : ((¬ ((0 ≤ e ∧ e < M 2 0) ∧ 0 ≤ p ∧ p ≤ 15) ∧ z1 = -11) ∨ (((0 ≤ e ∧ e < M 2 0) ∧ 0 ≤ p ∧ p ≤ 15) ∧ z1 = (if winV (cV M 1) e.toNat p.toNat = -1 then -14 else winV (cV M 1) e.toNat p.toNat))) ∧ Qy M M1) (hm : ((¬ ((0 ≤ e ∧ e < vel (cV M 1)) ∧ 0 ≤ p ∧ p ≤ 15) ∧ z2 = -11) ∨ (((0 ≤ e ∧ e < vel (cV M 1)) ∧ 0 ≤ p ∧ p ≤ 15) ∧ z2 = if winV (cV M 1) e.toNat p.toNat = -1 then -14 else winV (cV M 1) e.toNat p.toNat)) ∧ Mq M1 M2) : z1 = z2 ∧ Rel M2 := ⟨two_way hc.1 hm.1, rel_query h hc.2 hm.2⟩
theorem e_why {e p k w : Int} (h : Rel M) (hc : ((¬ ((0 ≤ e ∧ e < M 2 0) ∧ (0 ≤ p ∧ p ≤ 15) ∧ 0 ≤ k ∧ 0 ≤ w ∧ w ≤ 1) ∧ z1 = -11) ∨ (((0 ≤ e ∧ e < M 2 0) ∧ (0 ≤ p ∧ p ≤ 15) ∧ 0 ≤ k ∧ 0 ≤ w ∧ w ≤ 1) ∧ z1 = whV (cV M 1) e.toNat p.toNat k w)) ∧ Qy M M1) (hm : ((¬ ((0 ≤ e ∧ e < vel (cV M 1)) ∧ (0 ≤ p ∧ p ≤ 15) ∧ 0 ≤ k ∧ 0 ≤ w ∧ w ≤ 1) ∧ z2 = -11) ∨ (((0 ≤ e ∧ e < vel (cV M 1)) ∧ (0 ≤ p ∧ p ≤ 15) ∧ 0 ≤ k ∧ 0 ≤ w ∧ w ≤ 1) ∧ z2 = whV (cV M 1) e.toNat p.toNat k w)) ∧ Mq M1 M2) : z1 = z2 ∧ Rel M2 := ⟨two_way hc.1 hm.1, rel_query h hc.2 hm.2⟩
theorem e_from {e p : Int} (h : Rel M) (hc : ((¬ ((0 ≤ e ∧ e < M 2 0) ∧ 0 ≤ p ∧ p ≤ 15) ∧ z1 = -11) ∨ (((0 ≤ e ∧ e < M 2 0) ∧ 0 ≤ p ∧ p ≤ 15) ∧ z1 = frV (cV M 1) e.toNat p.toNat)) ∧ Qy M M1) (hm : ((¬ ((0 ≤ e ∧ e < vel (cV M 1)) ∧ 0 ≤ p ∧ p ≤ 15) ∧ z2 = -11) ∨ (((0 ≤ e ∧ e < vel (cV M 1)) ∧ 0 ≤ p ∧ p ≤ 15) ∧ z2 = frV (cV M 1) e.toNat p.toNat)) ∧ Mq M1 M2) : z1 = z2 ∧ Rel M2 := ⟨two_way hc.1 hm.1, rel_query h hc.2 hm.2⟩
theorem e_cycle {e p : Int} (h : Rel M) (hc : ((¬ ((0 ≤ e ∧ e < M 2 0) ∧ 8 ≤ p ∧ p ≤ 15) ∧ z1 = -11) ∨ (((0 ≤ e ∧ e < M 2 0) ∧ 8 ≤ p ∧ p ≤ 15) ∧ z1 = cycV (cV M 1) e.toNat p)) ∧ Qy M M1) (hm : ((¬ ((0 ≤ e ∧ e < vel (cV M 1)) ∧ 8 ≤ p ∧ p ≤ 15) ∧ z2 = -11) ∨ (((0 ≤ e ∧ e < vel (cV M 1)) ∧ 8 ≤ p ∧ p ≤ 15) ∧ z2 = cycV (cV M 1) e.toNat p)) ∧ Mq M1 M2) : z1 = z2 ∧ Rel M2 := ⟨two_way hc.1 hm.1, rel_query h hc.2 hm.2⟩
theorem e_count {w : Int} (h : Rel M) (hc : ((¬ (0 ≤ w ∧ w ≤ 6) ∧ z1 = -11) ∨ ((0 ≤ w ∧ w ≤ 6) ∧ z1 = coV (cV M 1) (M 14 2) (M 92 1) w)) ∧ Qy M M1) (hm : ((¬ (0 ≤ w ∧ w ≤ 6) ∧ z2 = -11) ∨ ((0 ≤ w ∧ w ≤ 6) ∧ z2 = coV (cV M 1) (M1 100 2) (M1 100 4) w)) ∧ Mq M1 M2) : z1 = z2 ∧ Rel M2 := by
  have g := hc.2.hi
  have e1 : M1 100 2 = M 14 2 := by rw [g 100 (by decide)]; exact h.2.2.1
  have e2 : M1 100 4 = M 92 1 := (h.tl g).1
  rw [e1, e2] at hm
  exact ⟨two_way hc.1 hm.1, rel_query h hc.2 hm.2⟩
theorem e_add {p k c : Int} (h : Rel M) (hc : (¬ ((0 ≤ p ∧ p < M 2 0) ∧ (0 ≤ k ∧ k ≤ 5) ∧ (0 ≤ c ∧ c ≤ 15)) ∧ z1 = -11 ∧ M1 = M) ∨ (((0 ≤ p ∧ p < M 2 0) ∧ (0 ≤ k ∧ k ≤ 5) ∧ (0 ≤ c ∧ c ≤ 15)) ∧ M 2 0 ≥ 16 ∧ z1 = -13 ∧ M1 = M) ∨ (((0 ≤ p ∧ p < M 2 0) ∧ (0 ≤ k ∧ k ≤ 5) ∧ (0 ≤ c ∧ c ≤ 15)) ∧ M 2 0 < 16 ∧ z1 = M 2 0 ∧ M1 = adM (begM M) p k c)) (hm : (¬ ((0 ≤ p ∧ p < vel (cV M 1)) ∧ (0 ≤ k ∧ k ≤ 5) ∧ (0 ≤ c ∧ c ≤ 15)) ∧ z2 = -11 ∧ M2 = M1) ∨ (((0 ≤ p ∧ p < vel (cV M 1)) ∧ (0 ≤ k ∧ k ≤ 5) ∧ (0 ≤ c ∧ c ≤ 15)) ∧ vel (cV M 1) ≥ 16 ∧ z2 = -13 ∧ M2 = M1) ∨ (((0 ≤ p ∧ p < vel (cV M 1)) ∧ (0 ≤ k ∧ k ≤ 5) ∧ (0 ≤ c ∧ c ≤ 15)) ∧ vel (cV M 1) < 16 ∧ z2 = vel (cV M 1) ∧ Dm M1 (adF (M1 101) p k c) M2)) : z1 = z2 ∧ Rel M2 := by
  have g := hi_add h hc
  rw [g 101 (by decide)] at hm
  rcases hc with ⟨g1, rfl, h1⟩ | ⟨g1, g2, rfl, h1⟩ | ⟨g1, g2, rfl, h1⟩ <;> rcases hm with ⟨k1, rfl, h2⟩ | ⟨k1, k2, rfl, h2⟩ | ⟨k1, k2, rfl, h2⟩
  · exact ⟨rfl, by rw [h2, h1]; exact h⟩
  · exact absurd k1 g1
  · exact absurd k1 g1
  · exact absurd g1 k1
  · exact ⟨rfl, by rw [h2, h1]; exact h⟩
  · exact absurd (show M 2 0 < 16 from k2) (by omega)
  · exact absurd g1 k1
  · exact absurd (show M 2 0 ≥ 16 from k2) (by omega)
  · exact ⟨rfl, rel_add h g1 g2 h1 h2⟩
theorem e_remove (h : Rel M) (hc : ((M 2 0 ≤ 1 ∨ exB (fun r => decide (M 11 (6 * r + 4) = M 2 0 - 1)) (M 9 0).toNat = true) ∧ z1 = -12 ∧ M1 = M) ∨ ((M 2 0 > 1 ∧ exB (fun r => decide (M 11 (6 * r + 4) = M 2 0 - 1)) (M 9 0).toNat = false) ∧ z1 = M 2 0 - 1 ∧ M1 = up (begM M) 2 0 (M 2 0 - 1))) (hm : ((vel (cV M 1) ≤ 1 ∨ exB (fun r => decide (vpt (cV M 1) r 4 = vel (cV M 1) - 1)) (vrn (cV M 1)).toNat = true) ∧ z2 = -12 ∧ M2 = M1) ∨ ((vel (cV M 1) > 1 ∧ exB (fun r => decide (vpt (cV M 1) r 4 = vel (cV M 1) - 1)) (vrn (cV M 1)).toNat = false) ∧ z2 = vel (cV M 1) - 1 ∧ Dm M1 (fun i => if i = 0 then vel (cV M 1) - 1 else M1 101 i) M2)) : z1 = z2 ∧ Rel M2 := by
  have g := hi_remove h hc
  rw [g 101 (by decide)] at hm
  rcases hc with ⟨g1, rfl, h1⟩ | ⟨g1, rfl, h1⟩ <;> rcases hm with ⟨k1, rfl, h2⟩ | ⟨k1, rfl, h2⟩
  · exact ⟨rfl, by rw [h2, h1]; exact h⟩
  · rcases g1 with g1 | g1
    · exact absurd (show M 2 0 > 1 from k1.1) (by omega)
    · exact absurd (g1.symm.trans k1.2) (by decide)
  · rcases k1 with k1 | k1
    · exact absurd (show M 2 0 ≤ 1 from k1) (by omega)
    · exact absurd (k1.symm.trans g1.2) (by decide)
  · exact ⟨rfl, rel_remove h g1 h1 h2⟩
theorem e_dress {e k c : Int} (h : Rel M) (hc : (¬ ((0 ≤ e ∧ e < M 2 0) ∧ (0 ≤ k ∧ k ≤ 5) ∧ (0 ≤ c ∧ c ≤ 15)) ∧ z1 = -11 ∧ M1 = M) ∨ (((0 ≤ e ∧ e < M 2 0) ∧ (0 ≤ k ∧ k ≤ 5) ∧ (0 ≤ c ∧ c ≤ 15)) ∧ z1 = 16 * M 6 e.toNat + M 8 e.toNat ∧ M1 = up (up (begM M) 6 e.toNat k) 8 e.toNat c)) (hm : (¬ ((0 ≤ e ∧ e < vel (cV M 1)) ∧ (0 ≤ k ∧ k ≤ 5) ∧ (0 ≤ c ∧ c ≤ 15)) ∧ z2 = -11 ∧ M2 = M1) ∨ (((0 ≤ e ∧ e < vel (cV M 1)) ∧ (0 ≤ k ∧ k ≤ 5) ∧ (0 ≤ c ∧ c ≤ 15)) ∧ z2 = 16 * vknd (cV M 1) e.toNat + vcls (cV M 1) e.toNat ∧ Dm M1 (dreF (M1 101) e.toNat k c) M2)) : z1 = z2 ∧ Rel M2 := by
  have g := hi_dress h hc
  rw [g 101 (by decide)] at hm
  rcases hc with ⟨g1, rfl, h1⟩ | ⟨g1, rfl, h1⟩ <;> rcases hm with ⟨k1, rfl, h2⟩ | ⟨k1, rfl, h2⟩
  · exact ⟨rfl, by rw [h2, h1]; exact h⟩
  · exact absurd k1 g1
  · exact absurd g1 k1
  · exact ⟨rfl, rel_dress h g1 h1 h2⟩
theorem e_undo (h : Rel M) (hc : (M 14 2 ≤ 0 ∧ z1 = -12 ∧ M1 = M) ∨ (M 14 2 > 0 ∧ z1 = M 14 2 - 1 ∧ M1 = up (resM M) 81 0 0)) (hm : (M1 100 2 ≤ 0 ∧ z2 = -12 ∧ M2 = M1) ∨ (M1 100 2 > 0 ∧ z2 = M1 100 2 - 1 ∧ M2 = mund M1)) : z1 = z2 ∧ Rel M2 := by
  have g := hi_undo h hc
  have e1 : M1 100 2 = M 14 2 := by rw [g 100 (by decide)]; exact h.2.2.1
  rw [e1] at hm
  rcases hc with ⟨g1, rfl, h1⟩ | ⟨g1, rfl, h1⟩ <;> rcases hm with ⟨k1, rfl, h2⟩ | ⟨k1, rfl, h2⟩
  · exact ⟨rfl, by rw [h2, h1]; exact h⟩
  · exact absurd k1 (by omega)
  · exact absurd k1 (by omega)
  · exact ⟨rfl, rel_undo h g1 h1 h2⟩
theorem e_rule {k c a y s i : Int} (h : Rel M) (hc : (¬ okR M k c a y s i ∧ z1 = -11 ∧ M1 = M) ∨ (okR M k c a y s i ∧ M 9 0 ≥ 16 ∧ z1 = -13 ∧ M1 = M) ∨ (okR M k c a y s i ∧ M 9 0 < 16 ∧ z1 = M 9 0 ∧ M1 = apM (begM M) 9 11 13 k c a y s i)) (hm : (¬ ((-1 ≤ k ∧ k ≤ 5) ∧ (0 ≤ c ∧ c ≤ 15) ∧ (-1 ≤ a ∧ a ≤ 5) ∧ (0 ≤ y ∧ y ≤ 3) ∧ (s = -1 ∨ 0 ≤ s ∧ s < vel (cV M 1)) ∧ (0 ≤ i ∧ i ≤ 1)) ∧ z2 = -11 ∧ M2 = M1) ∨ (((-1 ≤ k ∧ k ≤ 5) ∧ (0 ≤ c ∧ c ≤ 15) ∧ (-1 ≤ a ∧ a ≤ 5) ∧ (0 ≤ y ∧ y ≤ 3) ∧ (s = -1 ∨ 0 ≤ s ∧ s < vel (cV M 1)) ∧ (0 ≤ i ∧ i ≤ 1)) ∧ vrn (cV M 1) ≥ 16 ∧ z2 = -13 ∧ M2 = M1) ∨ (((-1 ≤ k ∧ k ≤ 5) ∧ (0 ≤ c ∧ c ≤ 15) ∧ (-1 ≤ a ∧ a ≤ 5) ∧ (0 ≤ y ∧ y ≤ 3) ∧ (s = -1 ∨ 0 ≤ s ∧ s < vel (cV M 1)) ∧ (0 ≤ i ∧ i ≤ 1)) ∧ vrn (cV M 1) < 16 ∧ z2 = vrn (cV M 1) ∧ Dm M1 (apF (M1 101) (vrn (cV M 1)).toNat k c a y s i) M2)) : z1 = z2 ∧ Rel M2 := by
  have g := hi_rule h hc
  rw [g 101 (by decide)] at hm
  have w : okR M k c a y s i ↔ ((-1 ≤ k ∧ k ≤ 5) ∧ (0 ≤ c ∧ c ≤ 15) ∧ (-1 ≤ a ∧ a ≤ 5) ∧ (0 ≤ y ∧ y ≤ 3) ∧ (s = -1 ∨ 0 ≤ s ∧ s < vel (cV M 1)) ∧ (0 ≤ i ∧ i ≤ 1)) :=
    ⟨fun q => ⟨q.1.1, q.1.2.1, q.1.2.2, q.2.1, q.2.2.2, q.2.2.1⟩, fun q => ⟨⟨q.1, q.2.1, q.2.2.1⟩, q.2.2.2.1, q.2.2.2.2.2, q.2.2.2.2.1⟩⟩
  rw [← w] at hm
  rcases hc with ⟨g1, rfl, h1⟩ | ⟨g1, g2, rfl, h1⟩ | ⟨g1, g2, rfl, h1⟩ <;> rcases hm with ⟨k1, rfl, h2⟩ | ⟨k1, k2, rfl, h2⟩ | ⟨k1, k2, rfl, h2⟩
  · exact ⟨rfl, by rw [h2, h1]; exact h⟩
  · exact absurd k1 g1
  · exact absurd k1 g1
  · exact absurd g1 k1
  · exact ⟨rfl, by rw [h2, h1]; exact h⟩
  · exact absurd (show M 9 0 < 16 from k2) (by omega)
  · exact absurd g1 k1
  · exact absurd (show M 9 0 ≥ 16 from k2) (by omega)
  · exact ⟨rfl, rel_rule h g1 g2 h1 h2⟩
theorem e_drop {r : Int} (h : Rel M) (hc : (¬ (0 ≤ r ∧ r < M 9 0) ∧ z1 = -11 ∧ M1 = M) ∨ ((0 ≤ r ∧ r < M 9 0) ∧ z1 = M 9 0 - 1 ∧ M1 = toM (begM M) r.toNat)) (hm : (¬ (0 ≤ r ∧ r < vrn (cV M 1)) ∧ z2 = -11 ∧ M2 = M1) ∨ ((0 ≤ r ∧ r < vrn (cV M 1)) ∧ z2 = vrn (cV M 1) - 1 ∧ Dm M1 (dpF (M1 101) r.toNat (50 + 6 * (vrn (cV M 1) - 1).toNat) (146 + 48 * (vrn (cV M 1) - 1).toNat)) M2)) : z1 = z2 ∧ Rel M2 := by
  have g := hi_drop h hc
  rw [g 101 (by decide)] at hm
  rcases hc with ⟨g1, rfl, h1⟩ | ⟨g1, rfl, h1⟩ <;> rcases hm with ⟨k1, rfl, h2⟩ | ⟨k1, rfl, h2⟩
  · exact ⟨rfl, by rw [h2, h1]; exact h⟩
  · exact absurd k1 g1
  · exact absurd g1 k1
  · exact ⟨rfl, rel_drop h (by omega) h1 h2⟩
theorem e_type {c : Int} (h : Rel M) (hc : (¬ (32 ≤ c ∧ c ≤ 126) ∧ z1 = -11 ∧ M1 = M) ∨ ((32 ≤ c ∧ c ≤ 126) ∧ M 92 1 ≥ 80 ∧ z1 = -13 ∧ M1 = M) ∨ ((32 ≤ c ∧ c ≤ 126) ∧ M 92 1 < 80 ∧ z1 = M 92 1 + 1 ∧ M1 = up (up M 94 (M 92 1).toNat c) 92 1 (M 92 1 + 1))) (hm : (¬ (32 ≤ c ∧ c ≤ 126) ∧ z2 = -11 ∧ M2 = M1) ∨ ((32 ≤ c ∧ c ≤ 126) ∧ (M 92 1) ≥ 80 ∧ z2 = -13 ∧ M2 = M1) ∨ ((32 ≤ c ∧ c ≤ 126) ∧ (M 92 1) < 80 ∧ z2 = (M 92 1) + 1 ∧ M2 = up (up M1 103 (M 92 1).toNat c) 100 4 ((M 92 1) + 1))) : z1 = z2 ∧ Rel M2 := by
  have t := (h.tl (hi_type h hc)).1
  rcases hc with ⟨g1, rfl, h1⟩ | ⟨g1, g2, rfl, h1⟩ | ⟨g1, g2, rfl, h1⟩ <;> rcases hm with ⟨k1, rfl, h2⟩ | ⟨k1, k2, rfl, h2⟩ | ⟨k1, k2, rfl, h2⟩
  · exact ⟨rfl, by rw [h2, h1]; exact h⟩
  · exact absurd k1 g1
  · exact absurd k1 g1
  · exact absurd g1 k1
  · exact ⟨rfl, by rw [h2, h1]; exact h⟩
  · exact absurd k2 (by omega)
  · exact absurd g1 k1
  · exact absurd k2 (by omega)
  · exact ⟨rfl, rel_type h g1 g2 h1 h2⟩
theorem e_clearText (h : Rel M) (hc : z1 = M 92 1 ∧ M1 = up M 92 1 0) (hm : z2 = (M 92 1) ∧ M2 = up M1 100 4 0) : z1 = z2 ∧ Rel M2 := by
  exact ⟨hc.1.trans hm.1.symm, rel_clear h hc.2 hm.2⟩
theorem e_fault (h : Rel M) (hc : z1 = (if fltV (M 94) (M 92 1) (M 2 0) = -1 then -14 else fltV (M 94) (M 92 1) (M 2 0)) ∧ ParR M (M 2 0) M1) (hm : z2 = (if fltV (M 94) (M 92 1) (M 2 0) = -1 then -14 else fltV (M 94) (M 92 1) (M 2 0)) ∧ FrW M1 M2) : z1 = z2 ∧ Rel M2 := by
  exact ⟨hc.1.trans hm.1.symm, rel_fault h hc.2 hm.2⟩
theorem e_read (h : Rel M) (hc : (fltV (M 94) (M 92 1) (M 2 0) ≠ -1 ∧ z1 = -12 ∧ ParR M (M 2 0) M1) ∨ (fltV (M 94) (M 92 1) (M 2 0) = -1 ∧ M 9 0 ≥ 16 ∧ z1 = -13 ∧ ParR M (M 2 0) M1) ∨ (fltV (M 94) (M 92 1) (M 2 0) = -1 ∧ M 9 0 < 16 ∧ z1 = M 9 0 ∧ ∃ Mc, ParR M (M 2 0) Mc ∧ M1 = afM (begM Mc))) (hm : (fltV (M 94) (M 92 1) (vel (cV M 1)) ≠ -1 ∧ z2 = -12 ∧ FrW M1 M2) ∨ (fltV (M 94) (M 92 1) (vel (cV M 1)) = -1 ∧ vrn (cV M 1) ≥ 16 ∧ z2 = -13 ∧ FrW M1 M2) ∨ (fltV (M 94) (M 92 1) (vel (cV M 1)) = -1 ∧ vrn (cV M 1) < 16 ∧ z2 = vrn (cV M 1) ∧ ∃ Mm, FrW M1 Mm ∧ MP (M 94) (M 92 1) Mm (enP (M 94) (M 92 1) (vel (cV M 1))) ∧ Dm Mm (rdJ (apF (M1 101) (vrn (cV M 1)).toNat (hd1 (M 94) (M 92 1)).1 (hd2 (M 94) (M 92 1)).1 (hd3 (M 94) (M 92 1)).1 (hd5 (M 94) (M 92 1) (vel (cV M 1))).1 (hd4 (M 94) (M 92 1) (vel (cV M 1))).1 (hdI (M 94) (M 92 1) (vel (cV M 1)))) (vrn (cV M 1)).toNat (Mm 105) 48) M2)) : z1 = z2 ∧ Rel M2 := by
  have g := hi_read h hc
  rw [g 101 (by decide)] at hm
  rcases hc with ⟨g1, rfl, h1⟩ | ⟨g1, g2, rfl, h1⟩ | ⟨g1, g2, rfl, Mc, h1, h1'⟩ <;> rcases hm with ⟨k1, rfl, h2⟩ | ⟨k1, k2, rfl, h2⟩ | ⟨k1, k2, rfl, Mm, h2, h3, h4⟩
  · exact ⟨rfl, rel_fault h h1 h2⟩
  · exact absurd k1 g1
  · exact absurd k1 g1
  · exact absurd g1 k1
  · exact ⟨rfl, rel_fault h h1 h2⟩
  · exact absurd (show M 9 0 < 16 from k2) (by omega)
  · exact absurd g1 k1
  · exact absurd (show M 9 0 ≥ 16 from k2) (by omega)
  · exact ⟨rfl, rel_read h g1 g2 h1 h1' h2 h3 h4⟩
/-- how many declarations a rule has, of both -/
theorem cnt_mds {g : Nat → Int} {r : Nat} (hA : Ag g (cV M1 1)) (hr : (r : Int) < vrn (cV M1 1)) {r' : Int} (hr' : r' = r) : cnt (fun p => dcl M1 13 r' p) 16 = mds g r := by
  subst hr'
  refine cnt_congr 16 (fun p hp => ?_)
  have h1 := (agE_d (hA.2.2.2.2 r p hr hp))
  have e : dcl M1 13 (r : Int) (p : Int) = dclV (cV M1 1) p r := by
    unfold dcl dclV
    have e0 : ((r : Int) * 48 + (p : Int) * 3 + 0).toNat = 48 * r + 3 * p + 0 := by omega
    have e1 : ((r : Int) * 48 + (p : Int) * 3 + 1).toNat = 48 * r + 3 * p + 1 := by omega
    rw [e0, e1]
    rfl
  rw [e]
  by_cases q : dclV (cV M1 1) p r = true
  · rw [q]
    have := h1.2.mpr q
    exact (decide_eq_true (by omega)).symm
  · rw [Bool.not_eq_true] at q
    rw [q]
    have : ¬ (0 < g (146 + 48 * r + 3 * p)) := fun w => by rw [h1.2.mp w] at q; cases q
    exact (decide_eq_false (by omega)).symm
theorem e_declare {r p n : Int} (h : Rel M) (hc : (¬ ((0 ≤ r ∧ r < M 9 0) ∧ (0 ≤ p ∧ p ≤ 15) ∧ (0 ≤ n ∧ n ≤ 999)) ∧ z1 = -11 ∧ M1 = M) ∨ (((0 ≤ r ∧ r < M 9 0) ∧ (0 ≤ p ∧ p ≤ 15) ∧ (0 ≤ n ∧ n ≤ 999)) ∧ M1 = lyM (begM M) r.toNat p.toNat n (-1) (-1) ∧ z1 = cnt (fun p => dcl M1 13 r p) 16)) (hm : (¬ ((0 ≤ r ∧ r < vrn (cV M 1)) ∧ (0 ≤ p ∧ p ≤ 15) ∧ (0 ≤ n ∧ n ≤ 999)) ∧ z2 = -11 ∧ M2 = M1) ∨ (((0 ≤ r ∧ r < vrn (cV M 1)) ∧ (0 ≤ p ∧ p ≤ 15) ∧ (0 ≤ n ∧ n ≤ 999)) ∧ Dm M1 (layF (M1 101) r.toNat p.toNat 1 n (-1)) M2 ∧ z2 = mds (M2 101) r.toNat)) : z1 = z2 ∧ Rel M2 := by
  have g := hi_declare h hc
  rw [g 101 (by decide)] at hm
  rcases hc with ⟨g1, rfl, h1⟩ | ⟨g1, h1, rfl⟩ <;> rcases hm with ⟨k1, rfl, h2⟩ | ⟨k1, h2, rfl⟩
  · exact ⟨rfl, by rw [h2, h1]; exact h⟩
  · exact absurd k1 g1
  · exact absurd g1 k1
  · have := rel_lay (r := r.toNat) (p := p.toNat) (n := n) (c := -1) (b := -1) h (by omega) (by omega) (by omega) (fun i a b c => by unfold layF; rw [if_neg c, if_neg b, if_neg a]) (by
      unfold layF
      rw [if_neg (by omega), if_neg (by omega), if_pos rfl, if_neg (by omega), if_pos rfl, if_pos rfl]
      exact Or.inr (Or.inl ⟨rfl, rfl, by omega, rfl, rfl⟩)) h1 h2
    refine ⟨?_, this.1⟩
    rw [h2.1]
    refine cnt_mds this.2.2 ?_ (by omega)
    have e9 : vrn (cV M1 1) = M 9 0 := by
      show M1 9 0 = M 9 0
      rw [h1]; unfold lyM; rw [up_ne (by decide), up_ne (by decide), up_ne (by decide), begM_o h.1.2.1 h.1.2.2.1.1 (Or.inl (by decide))]
    omega
theorem e_refer {r p c f : Int} (h : Rel M) (hc : (¬ ((0 ≤ r ∧ r < M 9 0) ∧ (0 ≤ p ∧ p ≤ 15) ∧ (8 ≤ c ∧ c ≤ 15) ∧ (-1 ≤ f ∧ f ≤ 999)) ∧ z1 = -11 ∧ M1 = M) ∨ (((0 ≤ r ∧ r < M 9 0) ∧ (0 ≤ p ∧ p ≤ 15) ∧ (8 ≤ c ∧ c ≤ 15) ∧ (-1 ≤ f ∧ f ≤ 999)) ∧ M1 = lyM (begM M) r.toNat p.toNat (-1) c f ∧ z1 = cnt (fun p => dcl M1 13 r p) 16)) (hm : (¬ ((0 ≤ r ∧ r < vrn (cV M 1)) ∧ (0 ≤ p ∧ p ≤ 15) ∧ (8 ≤ c ∧ c ≤ 15) ∧ (-1 ≤ f ∧ f ≤ 999)) ∧ z2 = -11 ∧ M2 = M1) ∨ (((0 ≤ r ∧ r < vrn (cV M 1)) ∧ (0 ≤ p ∧ p ≤ 15) ∧ (8 ≤ c ∧ c ≤ 15) ∧ (-1 ≤ f ∧ f ≤ 999)) ∧ Dm M1 (layF (M1 101) r.toNat p.toNat 2 c f) M2 ∧ z2 = mds (M2 101) r.toNat)) : z1 = z2 ∧ Rel M2 := by
  have g := hi_refer h hc
  rw [g 101 (by decide)] at hm
  rcases hc with ⟨g1, rfl, h1⟩ | ⟨g1, h1, rfl⟩ <;> rcases hm with ⟨k1, rfl, h2⟩ | ⟨k1, h2, rfl⟩
  · exact ⟨rfl, by rw [h2, h1]; exact h⟩
  · exact absurd k1 g1
  · exact absurd g1 k1
  · have := rel_lay (r := r.toNat) (p := p.toNat) (n := -1) (c := c) (b := f) h (by omega) (by omega) (by omega) (fun i a b c => by unfold layF; rw [if_neg c, if_neg b, if_neg a]) (by
      unfold layF
      rw [if_neg (by omega), if_neg (by omega), if_pos rfl, if_neg (by omega), if_pos rfl, if_pos rfl]
      exact Or.inr (Or.inr ⟨rfl, rfl, rfl, by omega, rfl⟩)) h1 h2
    refine ⟨?_, this.1⟩
    rw [h2.1]
    refine cnt_mds this.2.2 ?_ (by omega)
    have e9 : vrn (cV M1 1) = M 9 0 := by
      show M1 9 0 = M 9 0
      rw [h1]; unfold lyM; rw [up_ne (by decide), up_ne (by decide), up_ne (by decide), begM_o h.1.2.1 h.1.2.2.1.1 (Or.inl (by decide))]
    omega
theorem e_undeclare {r p : Int} (h : Rel M) (hc : (¬ ((0 ≤ r ∧ r < M 9 0) ∧ (0 ≤ p ∧ p ≤ 15)) ∧ z1 = -11 ∧ M1 = M) ∨ (((0 ≤ r ∧ r < M 9 0) ∧ (0 ≤ p ∧ p ≤ 15)) ∧ dcl M 13 r p = false ∧ z1 = -12 ∧ M1 = M) ∨ (((0 ≤ r ∧ r < M 9 0) ∧ (0 ≤ p ∧ p ≤ 15)) ∧ dcl M 13 r p = true ∧ M1 = lyM (begM M) r.toNat p.toNat (-1) (-1) (-1) ∧ z1 = cnt (fun p => dcl M1 13 r p) 16)) (hm : (¬ ((0 ≤ r ∧ r < vrn (cV M 1)) ∧ (0 ≤ p ∧ p ≤ 15)) ∧ z2 = -11 ∧ M2 = M1) ∨ (((0 ≤ r ∧ r < vrn (cV M 1)) ∧ (0 ≤ p ∧ p ≤ 15)) ∧ dclV (cV M 1) p.toNat r.toNat = false ∧ z2 = -12 ∧ M2 = M1) ∨ (((0 ≤ r ∧ r < vrn (cV M 1)) ∧ (0 ≤ p ∧ p ≤ 15)) ∧ dclV (cV M 1) p.toNat r.toNat = true ∧ Dm M1 (fun i => if i = 146 + 48 * r.toNat + 3 * p.toNat then 0 else M1 101 i) M2 ∧ z2 = mds (M2 101) r.toNat)) : z1 = z2 ∧ Rel M2 := by
  have g := hi_undeclare h hc
  rw [g 101 (by decide)] at hm
  have e : ∀ (Z : ev_M), 0 ≤ r → 0 ≤ p → dcl Z 13 r p = dclV (cV Z 1) p.toNat r.toNat := fun Z a b => by
    unfold dcl dclV
    have e0 : (r * 48 + p * 3 + 0).toNat = 48 * r.toNat + 3 * p.toNat + 0 := by omega
    have e1 : (r * 48 + p * 3 + 1).toNat = 48 * r.toNat + 3 * p.toNat + 1 := by omega
    rw [e0, e1]
    rfl
  rcases hc with ⟨g1, rfl, h1⟩ | ⟨g1, g2, rfl, h1⟩ | ⟨g1, g2, h1, rfl⟩ <;> rcases hm with ⟨k1, rfl, h2⟩ | ⟨k1, k2, rfl, h2⟩ | ⟨k1, k2, h2, rfl⟩
  · exact ⟨rfl, by rw [h2, h1]; exact h⟩
  · exact absurd k1 g1
  · exact absurd k1 g1
  · exact absurd g1 k1
  · exact ⟨rfl, by rw [h2, h1]; exact h⟩
  · rw [e _ g1.1.1 g1.2.1, k2] at g2; cases g2
  · exact absurd g1 k1
  · rw [e _ g1.1.1 g1.2.1, k2] at g2; cases g2
  · have := rel_lay (r := r.toNat) (p := p.toNat) (n := -1) (c := -1) (b := -1) h (by omega) (by omega) (by omega) (fun i a b c => if_neg a) (by
      rw [if_pos rfl]
      exact Or.inl ⟨rfl, rfl, rfl, rfl⟩) h1 h2
    refine ⟨?_, this.1⟩
    rw [h2.1]
    refine cnt_mds this.2.2 ?_ (by omega)
    have e9 : vrn (cV M1 1) = M 9 0 := by
      show M1 9 0 = M 9 0
      rw [h1]; unfold lyM; rw [up_ne (by decide), up_ne (by decide), up_ne (by decide), begM_o h.1.2.1 h.1.2.2.1.1 (Or.inl (by decide))]
    omega
end Eqs
