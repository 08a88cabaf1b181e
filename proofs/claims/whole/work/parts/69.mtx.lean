/-- the model's reading is P; nothing else is changed -/
def MP (t : Nat → Int) (len : Int) (M : ev_M) (P : PS) : Prop := M 100 5 = pat P ∧ M 100 7 = b01 (pwr P) ∧ M 100 6 = pbd P ∧ (∀ k, k < 48 → M 105 k = psd P k) ∧ (0 ≤ pat P ∧ pat P ≤ len) ∧ (0 ≤ len ∧ len ≤ 80) ∧ M 100 4 = len ∧ (∀ k : Nat, (k : Int) < len → M 103 k = t k ∧ 32 ≤ t k ∧ t k ≤ 126) ∧ -1 ≤ pbd P ∧ pbd P ≤ 80
def MF (M M2 : ev_M) : Prop := (∀ i, i ≠ 100 → i ≠ 105 → M2 i = M i) ∧ M2 100 2 = M 100 2 ∧ M2 100 4 = M 100 4
def MB (M0 : ev_M) (t : Nat → Int) (len : Int) (M : ev_M) (P : PS) : Prop := MP t len M P ∧ MF M0 M
theorem MF.tr {M M1 M2 : ev_M} (h : MF M M1) (h2 : MF M1 M2) : MF M M2 := ⟨fun i a c => (h2.1 i a c).trans (h.1 i a c), h2.2.1.trans h.2.1, h2.2.2.trans h.2.2⟩
theorem up_o {M : ev_M} {a k j : Nat} {x : Int} (h : j ≠ k) (i : Nat) : up M a k x i j = M i j := if_neg (fun q => h q.2)
theorem up_s {M : ev_M} {a k : Nat} {x : Int} : up M a k x a k = x := if_pos ⟨rfl, rfl⟩
theorem MF.up5 {M M2 : ev_M} {k : Nat} {x : Int} (h : MF M M2) (h2 : k ≠ 2) (h4 : k ≠ 4) : MF M (up M2 100 k x) := ⟨fun i a c => by rw [up_ne a]; exact h.1 i a c, by rw [up_o (Ne.symm h2)]; exact h.2.1, by rw [up_o (Ne.symm h4)]; exact h.2.2⟩
section Mt
variable {l : Launch} {M0 M : ev_M} {t : Nat → Int} {len : Int} {P : PS}
theorem MP.ccu (h : MP t len M P) : cur t len P = if pwr P = false ∧ pat P < len then M 103 (pat P).toNat else -1 := by
  unfold cur
  by_cases q : pwr P = false ∧ pat P < len
  · have := h.2.2.2.2.1
    rw [if_pos q, if_pos q, (h.2.2.2.2.2.2.2.1 (pat P).toNat (by omega)).1]
  · rw [if_neg q, if_neg q]
theorem MP.crng (h : MP t len M P) : cur t len P = -1 ∨ 32 ≤ cur t len P ∧ cur t len P ≤ 126 := by
  unfold cur
  by_cases q : pwr P = false ∧ pat P < len
  · have := h.2.2.2.2.1
    have := (h.2.2.2.2.2.2.2.1 (pat P).toNat (by omega)).2
    rw [if_pos q]; omega
  · rw [if_neg q]; exact Or.inl rfl
theorem MP.at {x : Int} (h : MP t len M P) (hx : 0 ≤ x ∧ x ≤ len) : MP t len (up M 100 5 x) (x, P.2) := by
  obtain ⟨h1, h2, h3, h4, h5, h6, h7, h8, h9⟩ := h
  refine ⟨up_s, ?_, ?_, ?_, hx, h6, ?_, ?_, h9⟩
  · rw [up_o (by decide)]; exact h2
  · rw [up_o (by decide)]; exact h3
  · intro k hk; rw [up_ne (by decide)]; exact h4 k hk
  · rw [up_o (by decide)]; exact h7
  · intro k hk; rw [up_ne (by decide)]; exact h8 k hk
theorem MP.wr {b : Bool} (h : MP t len M P) : MP t len (up M 100 7 (b01 b)) (pat P, b, P.2.2) := by
  obtain ⟨h1, h2, h3, h4, h5, h6, h7, h8, h9⟩ := h
  refine ⟨?_, up_s, ?_, ?_, h5, h6, ?_, ?_, h9⟩
  · rw [up_o (by decide)]; exact h1
  · rw [up_o (by decide)]; exact h3
  · intro k hk; rw [up_ne (by decide)]; exact h4 k hk
  · rw [up_o (by decide)]; exact h7
  · intro k hk; rw [up_ne (by decide)]; exact h8 k hk
theorem MP.bd {x : Int} (h : MP t len M P) (hx : -1 ≤ x ∧ x ≤ 80) : MP t len (up M 100 6 x) (pat P, pwr P, x, psd P) := by
  obtain ⟨h1, h2, h3, h4, h5, h6, h7, h8, h9⟩ := h
  refine ⟨?_, ?_, up_s, ?_, h5, h6, ?_, ?_, hx⟩
  · rw [up_o (by decide)]; exact h1
  · rw [up_o (by decide)]; exact h2
  · intro k hk; rw [up_ne (by decide)]; exact h4 k hk
  · rw [up_o (by decide)]; exact h7
  · intro k hk; rw [up_ne (by decide)]; exact h8 k hk
set_option maxHeartbeats 2000000 in
theorem q_passes {c : Int} (h : MB M0 t len M P) (hc : 0 ≤ c ∧ c < 1000) : Ri l 0 kX8_passes yX8_passes S0 M [vr 100, vi c] (fun x M2 => x = (if cur t len P = c then 1 else 0) ∧ MB M0 t len M2 (accS t len c P)) := by
  have hcu := h.1.ccu
  obtain ⟨h1, h2, h3, h4, h5, h6, h7, h8, h9⟩ := id h.1
  have hb := b01_rng (pwr P)
  have hyes : cur t len P = c → pat P + 1 ≤ len := fun q => by
    by_cases z : pwr P = false ∧ pat P < len
    · omega
    · rw [if_neg z] at hcu; omega
  have K : ∀ y : Int, y = (if cur t len P = c then 1 else 0) → Ev l none 0 kX8_passes (0, 0) S0 M 36 [some (vr 100), some (vi c), none] [vi y] (QI S0 (fun x M2 => x = (if cur t len P = c then 1 else 0) ∧ MB M0 t len M2 (accS t len c P))) := by
    intro y hy
    have hy2 : y = 1 ∧ cur t len P = c ∨ y = 0 ∧ ¬ cur t len P = c := by
      by_cases z : cur t len P = c
      · rw [if_pos z] at hy; exact Or.inl ⟨hy, z⟩
      · rw [if_neg z] at hy; exact Or.inr ⟨hy, z⟩
    refine ev_istore_2 (q := 37) dX8_passes_36 rfl (by decide) ?_
    refine ev_aload_0 (q := 38) dX8_passes_37 rfl ?_
    refine ev_dup (q := 39) dX8_passes_38 rfl ?_
    refine ev_getI (q := 42) dX8_passes_39 fl_RX8_142 (by first | assumption | rfl) (by rfl) rfl (fun h_39 => ?_)
    rw [h1] at h_39 ⊢
    refine ev_iload_2 (q := 43) dX8_passes_42 rfl ?_
    refine ev_if_eq (t := 50) (q := 46) dX8_passes_43 (by decide) rfl (by constructor <;> omega) (fun h_43 => ?_) (fun h_43 => ?_)
    · refine ev_iconst (q := 51) dX8_passes_50 rfl ?_
      refine ev_iadd (q := 52) dX8_passes_51 rfl ?_
      refine ev_putI (q := 55) dX8_passes_52 fl_RX8_142 (by first | assumption | rfl) (by rfl) rfl (by constructor <;> omega) ?_
      refine ev_iload_2 (q := 56) dX8_passes_55 rfl ?_
      refine ev_ireturn dX8_passes_56 rfl (by rcases hy2 with q | q <;> rw [q.1] <;> rfl) (by constructor <;> omega) ?_
      refine ⟨_, rfl, rfl, hy, ?_⟩
      first
      | (rw [accS, if_neg (by omega), show pat P + 0 = pat P by omega, ← h1, show up M 100 5 (M 100 5) = M by funext a b; simp only [up]; split <;> simp_all]; exact h)
      | (rw [accS, if_pos (by omega)]; exact ⟨h.1.at (by omega), h.2.up5 (by decide) (by decide)⟩)
    · refine ev_iconst (q := 47) dX8_passes_46 rfl ?_
      refine ev_goto (q := 51) dX8_passes_47 (by decide) ?_
      refine ev_iadd (q := 52) dX8_passes_51 rfl ?_
      refine ev_putI (q := 55) dX8_passes_52 fl_RX8_142 (by first | assumption | rfl) (by rfl) rfl (by constructor <;> omega) ?_
      refine ev_iload_2 (q := 56) dX8_passes_55 rfl ?_
      refine ev_ireturn dX8_passes_56 rfl (by rcases hy2 with q | q <;> rw [q.1] <;> rfl) (by constructor <;> omega) ?_
      refine ⟨_, rfl, rfl, hy, ?_⟩
      first
      | (rw [accS, if_neg (by omega), show pat P + 0 = pat P by omega, ← h1, show up M 100 5 (M 100 5) = M by funext a b; simp only [up]; split <;> simp_all]; exact h)
      | (rw [accS, if_pos (by omega)]; exact ⟨h.1.at (by omega), h.2.up5 (by decide) (by decide)⟩)
  refine Ri.of (by decide) rfl (by decide) (Nat.le_of_ble_eq_true rfl) ?_
  refine (show Ev _ none _ _ _ _ _ 0 [_, _, _] [] _ from ?_)
  refine ev_aload_0 (q := 1) dX8_passes_0 rfl ?_
  refine ev_getI (q := 4) dX8_passes_1 fl_RX8_138 (by first | assumption | rfl) (by rfl) rfl (fun h_1 => ?_)
  refine ev_if_ne (t := 35) (q := 7) dX8_passes_4 (by decide) rfl (by constructor <;> omega) (fun h_4 => ?_) (fun h_4 => ?_)
  · refine ev_iconst (q := 36) dX8_passes_35 rfl ?_
    refine K _ ?_
    first
    | (have hh : cur t len P = -1 := hcu.trans (if_neg (fun q => h_4 (by rw [h2]; exact b01_t.2 q.1)))
       rw [if_neg (show ¬ cur t len P = c by omega)])
    | (have hh : cur t len P = -1 := hcu.trans (if_neg (fun q => absurd q.2 (by omega)))
       rw [if_neg (show ¬ cur t len P = c by omega)])
    | (have hh : cur t len P = M 103 (pat P).toNat := hcu.trans (if_pos ⟨b01_t.1 (by omega), by omega⟩)
       rw [if_pos (show cur t len P = c by omega)])
    | (have hh : cur t len P = M 103 (pat P).toNat := hcu.trans (if_pos ⟨b01_t.1 (by omega), by omega⟩)
       rw [if_neg (show ¬ cur t len P = c by omega)])
  · refine ev_aload_0 (q := 8) dX8_passes_7 rfl ?_
    refine ev_getI (q := 11) dX8_passes_8 fl_RX8_142 (by first | assumption | rfl) (by rfl) rfl (fun h_8 => ?_)
    rw [h1] at h_8 ⊢
    refine ev_aload_0 (q := 12) dX8_passes_11 rfl ?_
    refine ev_getI (q := 15) dX8_passes_12 fl_RX8_85 (by first | assumption | rfl) (by rfl) rfl (fun h_12 => ?_)
    rw [h7] at h_12 ⊢
    refine ev_icmp_ge (t := 35) (q := 18) dX8_passes_15 (by decide) rfl (by constructor <;> omega) (by constructor <;> omega) (fun h_15 => ?_) (fun h_15 => ?_)
    · refine ev_iconst (q := 36) dX8_passes_35 rfl ?_
      refine K _ ?_
      first
      | (have hh : cur t len P = -1 := hcu.trans (if_neg (fun q => h_4 (by rw [h2]; exact b01_t.2 q.1)))
         rw [if_neg (show ¬ cur t len P = c by omega)])
      | (have hh : cur t len P = -1 := hcu.trans (if_neg (fun q => absurd q.2 (by omega)))
         rw [if_neg (show ¬ cur t len P = c by omega)])
      | (have hh : cur t len P = M 103 (pat P).toNat := hcu.trans (if_pos ⟨b01_t.1 (by omega), by omega⟩)
         rw [if_pos (show cur t len P = c by omega)])
      | (have hh : cur t len P = M 103 (pat P).toNat := hcu.trans (if_pos ⟨b01_t.1 (by omega), by omega⟩)
         rw [if_neg (show ¬ cur t len P = c by omega)])
    · refine ev_aload_0 (q := 19) dX8_passes_18 rfl ?_
      refine ev_getR (q := 22) dX8_passes_19 fl_RX8_16 (by first | assumption | rfl) (by rfl) rfl ?_
      refine ev_aload_0 (q := 23) dX8_passes_22 rfl ?_
      refine ev_getI (q := 26) dX8_passes_23 fl_RX8_142 (by first | assumption | rfl) (by rfl) rfl (fun h_23 => ?_)
      rw [h1] at h_23 ⊢
      refine ev_caload (q := 27) dX8_passes_26 (by first | assumption | rfl) (by omega) (by first | decide | omega) rfl (fun h_26 => ?_)
      refine ev_iload_1 (q := 28) dX8_passes_27 rfl ?_
      refine ev_icmp_ne (t := 35) (q := 31) dX8_passes_28 (by decide) rfl (by constructor <;> omega) (by constructor <;> omega) (fun h_28 => ?_) (fun h_28 => ?_)
      · refine ev_iconst (q := 36) dX8_passes_35 rfl ?_
        refine K _ ?_
        first
        | (have hh : cur t len P = -1 := hcu.trans (if_neg (fun q => h_4 (by rw [h2]; exact b01_t.2 q.1)))
           rw [if_neg (show ¬ cur t len P = c by omega)])
        | (have hh : cur t len P = -1 := hcu.trans (if_neg (fun q => absurd q.2 (by omega)))
           rw [if_neg (show ¬ cur t len P = c by omega)])
        | (have hh : cur t len P = M 103 (pat P).toNat := hcu.trans (if_pos ⟨b01_t.1 (by omega), by omega⟩)
           rw [if_pos (show cur t len P = c by omega)])
        | (have hh : cur t len P = M 103 (pat P).toNat := hcu.trans (if_pos ⟨b01_t.1 (by omega), by omega⟩)
           rw [if_neg (show ¬ cur t len P = c by omega)])
      · refine ev_iconst (q := 32) dX8_passes_31 rfl ?_
        refine ev_goto (q := 36) dX8_passes_32 (by decide) ?_
        refine K _ ?_
        first
        | (have hh : cur t len P = -1 := hcu.trans (if_neg (fun q => h_4 (by rw [h2]; exact b01_t.2 q.1)))
           rw [if_neg (show ¬ cur t len P = c by omega)])
        | (have hh : cur t len P = -1 := hcu.trans (if_neg (fun q => absurd q.2 (by omega)))
           rw [if_neg (show ¬ cur t len P = c by omega)])
        | (have hh : cur t len P = M 103 (pat P).toNat := hcu.trans (if_pos ⟨b01_t.1 (by omega), by omega⟩)
           rw [if_pos (show cur t len P = c by omega)])
        | (have hh : cur t len P = M 103 (pat P).toNat := hcu.trans (if_pos ⟨b01_t.1 (by omega), by omega⟩)
           rw [if_neg (show ¬ cur t len P = c by omega)])
end Mt

