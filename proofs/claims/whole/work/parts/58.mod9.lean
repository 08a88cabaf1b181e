section SettAll
variable {l : Launch} {M : ev_M} {v : Vw} {e : Nat} {Q : Option ev_V → List ev_Sh → ev_M → Prop}
set_option maxHeartbeats 2000000 in
theorem lp_s1 (hA : Ag (M 101) v) (hW : Wf v) (he : (e : Int) < vel v) (K : ∀ M3 : ev_M, SA e M M3 → KC v e M3 → Ev l none 7 kX8_settlesAll (0, 0) S0 M3 59 [some (vr 100), some (vi (e : Int)), some (vi 16), none, none] [] Q) : ∀ (n j : Nat) (x : Int) (M1 : ev_M), x = 8 + (j : Int) → j + n = 8 → SA e M M1 → (∀ q, 8 ≤ q → q < 8 + j → (M1 108 q = 1 ∧ GE v e M1 q) ∨ (M1 108 q = 0 ∧ ¬ cyB v e q)) → Ev l none 7 kX8_settlesAll (0, 0) S0 M1 3 [some (vr 100), some (vi (e : Int)), some (vi x), none, none] [] Q := by
  have h1 := hW.1
  intro n
  induction n with
  | zero =>
    intro j x M1 hx hn hS hI
    refine ev_iload_2 (q := 4) dX8_settlesAll_3 rfl ?_
    refine ev_bipush (q := 6) dX8_settlesAll_4 rfl (by decide) ?_
    refine ev_icmp_ge (t := 59) (q := 9) dX8_settlesAll_6 (by decide) rfl (by constructor <;> omega) (by constructor <;> omega) (fun h_6 => ?_) (fun h_6 => ?_)
    · rw [show x = 16 by omega]
      exact K M1 hS (fun q a b => hI q a (by omega))
    · omega
  | succ n ih =>
    intro j x M1 hx hn hS hI
    have hA1 := hS.ag hA
    have ex : x.toNat = 8 + j := by omega
    have ei : (16 * (e : Int) + x).toNat = 16 * e + (8 + j) := by omega
    have hxj : x = ((8 + j : Nat) : Int) := by omega
    have hE : ∀ (M2 : ev_M) (y : Int), O9 M1 M2 → (y = 1 ∧ cycV v e x > 0 ∨ y = 0 ∧ ¬ cycV v e x > 0) → Ev l none 7 kX8_settlesAll (0, 0) S0 (up (up (up M2 108 (8 + j) y) 107 (16 * e + (8 + j)) 0) 106 (16 * e + (8 + j)) (-1)) 53 [some (vr 100), some (vi (e : Int)), some (vi x), none, none] [] Q := by
      intro M2 y hO hy
      refine ev_iinc_2 (q := 56) dX8_settlesAll_53 rfl (by decide) ?_
      refine ev_goto (q := 3) dX8_settlesAll_56 (by decide) ?_
      refine ih (j + 1) _ _ (by omega) (by omega) (((hS.o hO).k.w (by omega)).vv (by omega)) (fun q a b => ?_)
      have e8 : up (up (up M2 108 (8 + j) y) 107 (16 * e + (8 + j)) 0) 106 (16 * e + (8 + j)) (-1) 108 q = up M2 108 (8 + j) y 108 q := by rw [up_ne (by decide), up_ne (by decide)]
      by_cases q1 : q = 8 + j
      · subst q1
        have e8' : up M2 108 (8 + j) y 108 (8 + j) = y := if_pos ⟨rfl, rfl⟩
        rw [e8, e8']
        rw [hxj] at hy
        rcases hy with hy | hy
        · have hg := GE_cyc hW he (p := 8 + j) (by omega) ⟨by omega, hy.2⟩
          refine Or.inl ⟨hy.1, ?_, ?_⟩
          · rw [nz8 (by omega), hg.1]; exact if_pos ⟨rfl, rfl⟩
          · rw [hg.2, up_ne (show (107 : Nat) ≠ 106 by decide)]; exact if_pos ⟨rfl, rfl⟩
        · exact Or.inr ⟨hy.1, fun z => hy.2 z.2⟩
      · have e8' : up M2 108 (8 + j) y 108 q = M1 108 q := by rw [show up M2 108 (8 + j) y 108 q = M2 108 q from if_neg (fun z => q1 z.2), hO 108 (by decide)]
        have e6 : up (up (up M2 108 (8 + j) y) 107 (16 * e + (8 + j)) 0) 106 (16 * e + (8 + j)) (-1) 106 (16 * e + q) = M1 106 (16 * e + q) := by
          rw [show up (up (up M2 108 (8 + j) y) 107 (16 * e + (8 + j)) 0) 106 (16 * e + (8 + j)) (-1) 106 (16 * e + q) = up (up M2 108 (8 + j) y) 107 (16 * e + (8 + j)) 0 106 (16 * e + q) from if_neg (fun z => q1 (by have := z.2; omega)), up_ne (by decide), up_ne (by decide), hO 106 (by decide)]
        have e7 : up (up (up M2 108 (8 + j) y) 107 (16 * e + (8 + j)) 0) 106 (16 * e + (8 + j)) (-1) 107 (16 * e + q) = M1 107 (16 * e + q) := by
          rw [up_ne (show (107 : Nat) ≠ 106 by decide), show up (up M2 108 (8 + j) y) 107 (16 * e + (8 + j)) 0 107 (16 * e + q) = up M2 108 (8 + j) y 107 (16 * e + q) from if_neg (fun z => q1 (by have := z.2; omega)), up_ne (by decide), hO 107 (by decide)]
        have := hI q a (by omega)
        unfold GE at this ⊢
        rw [e8, e8', e6, e7]
        exact this
    refine ev_iload_2 (q := 4) dX8_settlesAll_3 rfl ?_
    refine ev_bipush (q := 6) dX8_settlesAll_4 rfl (by decide) ?_
    refine ev_icmp_ge (t := 59) (q := 9) dX8_settlesAll_6 (by decide) rfl (by constructor <;> omega) (by constructor <;> omega) (fun h_6 => ?_) (fun h_6 => ?_)
    · omega
    · refine ev_aload_0 (q := 10) dX8_settlesAll_9 rfl ?_
      refine ev_getR (q := 13) dX8_settlesAll_10 fl_RX8_33 (by first | assumption | rfl) (by rfl) rfl ?_
      refine ev_iload_2 (q := 14) dX8_settlesAll_13 rfl ?_
      refine ev_aload_0 (q := 15) dX8_settlesAll_14 rfl ?_
      refine ev_iload_1 (q := 16) dX8_settlesAll_15 rfl ?_
      refine ev_iload_2 (q := 17) dX8_settlesAll_16 rfl ?_
      refine ev_callV2iR (q := 20) dX8_settlesAll_17 vs_RX8_68 (by first | assumption | rfl) (c_X8_cycleOf hA1 hW he (by omega)) (by decide) (Nat.le_of_ble_eq_true rfl) rfl (fun x_17 M_17 hq_17 h_17 => ?_)
      obtain ⟨rfl, o2⟩ := hq_17
      refine ev_if_le (t := 27) (q := 23) dX8_settlesAll_20 (by decide) rfl (by constructor <;> omega) (fun h_20 => ?_) (fun h_20 => ?_)
      · refine ev_iconst (q := 28) dX8_settlesAll_27 rfl ?_
        refine ev_bastore (q := 29) dX8_settlesAll_28 (by first | assumption | rfl) (by omega) (by first | decide | omega) (by constructor <;> omega) (by first | exact Or.inl rfl | exact Or.inr rfl | omega) rfl ?_
        rw [ex]
        refine ev_aload_0 (q := 30) dX8_settlesAll_29 rfl ?_
        refine ev_getR (q := 33) dX8_settlesAll_30 fl_RX8_29 (by first | assumption | rfl) (by rfl) rfl ?_
        refine ev_bipush (q := 35) dX8_settlesAll_33 rfl (by decide) ?_
        refine ev_iload_1 (q := 36) dX8_settlesAll_35 rfl ?_
        refine ev_imul (q := 37) dX8_settlesAll_36 rfl ?_
        refine ev_iload_2 (q := 38) dX8_settlesAll_37 rfl ?_
        refine ev_iadd (q := 39) dX8_settlesAll_38 rfl ?_
        refine ev_iconst (q := 40) dX8_settlesAll_39 rfl ?_
        refine ev_bastore (q := 41) dX8_settlesAll_40 (by first | assumption | rfl) (by omega) (by first | decide | omega) (by constructor <;> omega) (by first | exact Or.inl rfl | exact Or.inr rfl | omega) rfl ?_
        rw [ei]
        refine ev_aload_0 (q := 42) dX8_settlesAll_41 rfl ?_
        refine ev_getR (q := 45) dX8_settlesAll_42 fl_RX8_26 (by first | assumption | rfl) (by rfl) rfl ?_
        refine ev_bipush (q := 47) dX8_settlesAll_45 rfl (by decide) ?_
        refine ev_iload_1 (q := 48) dX8_settlesAll_47 rfl ?_
        refine ev_imul (q := 49) dX8_settlesAll_48 rfl ?_
        refine ev_iload_2 (q := 50) dX8_settlesAll_49 rfl ?_
        refine ev_iadd (q := 51) dX8_settlesAll_50 rfl ?_
        refine ev_iconst (q := 52) dX8_settlesAll_51 rfl ?_
        refine ev_iastore (q := 53) dX8_settlesAll_52 (by first | assumption | rfl) (by omega) (by first | decide | omega) (by constructor <;> omega) rfl ?_
        rw [ei]
        exact hE _ _ o2 (by omega)
      · refine ev_iconst (q := 24) dX8_settlesAll_23 rfl ?_
        refine ev_goto (q := 28) dX8_settlesAll_24 (by decide) ?_
        refine ev_bastore (q := 29) dX8_settlesAll_28 (by first | assumption | rfl) (by omega) (by first | decide | omega) (by constructor <;> omega) (by first | exact Or.inl rfl | exact Or.inr rfl | omega) rfl ?_
        rw [ex]
        refine ev_aload_0 (q := 30) dX8_settlesAll_29 rfl ?_
        refine ev_getR (q := 33) dX8_settlesAll_30 fl_RX8_29 (by first | assumption | rfl) (by rfl) rfl ?_
        refine ev_bipush (q := 35) dX8_settlesAll_33 rfl (by decide) ?_
        refine ev_iload_1 (q := 36) dX8_settlesAll_35 rfl ?_
        refine ev_imul (q := 37) dX8_settlesAll_36 rfl ?_
        refine ev_iload_2 (q := 38) dX8_settlesAll_37 rfl ?_
        refine ev_iadd (q := 39) dX8_settlesAll_38 rfl ?_
        refine ev_iconst (q := 40) dX8_settlesAll_39 rfl ?_
        refine ev_bastore (q := 41) dX8_settlesAll_40 (by first | assumption | rfl) (by omega) (by first | decide | omega) (by constructor <;> omega) (by first | exact Or.inl rfl | exact Or.inr rfl | omega) rfl ?_
        rw [ei]
        refine ev_aload_0 (q := 42) dX8_settlesAll_41 rfl ?_
        refine ev_getR (q := 45) dX8_settlesAll_42 fl_RX8_26 (by first | assumption | rfl) (by rfl) rfl ?_
        refine ev_bipush (q := 47) dX8_settlesAll_45 rfl (by decide) ?_
        refine ev_iload_1 (q := 48) dX8_settlesAll_47 rfl ?_
        refine ev_imul (q := 49) dX8_settlesAll_48 rfl ?_
        refine ev_iload_2 (q := 50) dX8_settlesAll_49 rfl ?_
        refine ev_iadd (q := 51) dX8_settlesAll_50 rfl ?_
        refine ev_iconst (q := 52) dX8_settlesAll_51 rfl ?_
        refine ev_iastore (q := 53) dX8_settlesAll_52 (by first | assumption | rfl) (by omega) (by first | decide | omega) (by constructor <;> omega) rfl ?_
        rw [ei]
        exact hE _ _ o2 (by omega)
theorem nokn {M1 : ev_M} {p k : Nat} (h : Wf v) (hp : p < 16) (hk : ∀ q, 8 ≤ q → q < 16 → Dn v e k q → M1 108 q = 1) (hc : ¬ cyB v e p) (h1 : ¬ ldV v e (p : Int) = -1) (h0 : M1 108 (ldV v e (p : Int)).toNat = 0) : ¬ Dn v e (k + 1) p := by
  have hl : ldV v e (p : Int) = if winV v e p = -1 then -1 else ven v (winV v e p).toNat p 1 := by rw [ldV, Int.toNat_natCast]
  have hwr := winV_rng h e p
  intro hd
  have hb : ¬ bs v e p := by
    intro hb
    rcases hb with q | q | q
    · exact hc q
    · rw [if_pos q] at hl; exact h1 hl
    · by_cases hw : winV v e p = -1
      · rw [if_pos hw] at hl; exact h1 hl
      · rw [if_neg hw] at hl
        have := (h.2.2.2.2 (winV v e p).toNat p (by omega) hp).2.2.2.1 q
        omega
  rcases hd with q | q
  · exact hb q
  · have hr := rf_rng h hp hb
    have := hk _ hr.1 hr.2 q
    rw [if_neg (fun z => hb (Or.inr (Or.inl z)))] at hl
    rw [hl] at h0
    unfold rf at this
    omega
end SettAll

