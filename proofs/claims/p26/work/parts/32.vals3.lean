def gvC (v : Vw) (e : Nat) : Nat → ev_M → ev_M
  | 0, M => M
  | j + 1, M => gvM v e (8 + j) (gvC v e j M)
def gvR (v : Vw) (e : Nat) : Nat → ev_M → ev_M
  | 0, M => M
  | k + 1, M => gvC v e 8 (gvR v e k M)
def gvP (v : Vw) (e : Nat) : Nat → ev_M → ev_M
  | 0, M => M
  | j + 1, M => gvM v e j (gvP v e j M)
theorem gvn_rng {v : Vw} (h : Wf v) {e p : Nat} {V : Nat → Int} (hp : p < 16) (hV : ∀ q, inR (V q)) : inR (gvn v e V p) := by
  have hwe := winV_ent h (e := e) hp
  have hV2 := hV (ven v (winV v e p).toNat p 1).toNat
  unfold gvn
  by_cases hw : winV v e p = -1
  · rw [if_pos hw]; constructor <;> omega
  · rw [if_neg hw]
    have := hwe hw
    (repeat' split) <;> (constructor <;> omega)
theorem gpr_rng {v : Vw} (h : Wf v) {e p : Nat} {V pv ps : Nat → Int} (he : e < 16) (hp : p < 16) (hV : ∀ q, inR (V q)) (hpv : ∀ q, inR (pv q)) (hps : ∀ q, inR (ps q)) : inR (gpr v e V pv ps p).1 ∧ inR (gpr v e V pv ps p).2 := by
  have h1 := gvn_rng h (e := e) hp hV
  have hx : inR (gx v e V p) := by
    unfold gx
    split
    · constructor <;> omega
    · exact h1
  unfold gpr
  by_cases hc : gx v e V p = -1 ∧ ¬ cyB v e p ∧ inB p ∧ e ≠ 0
  · rw [if_pos hc]; exact ⟨hpv p, hps p⟩
  · rw [if_neg hc]
    refine ⟨hx, ?_⟩
    dsimp only
    split <;> (constructor <;> omega)
/-- only values and sources were written -/
def VI (M M' : ev_M) : Prop := RM M' ∧ ∀ i, i ≠ 89 → i ≠ 91 → M' i = M i
theorem VI_gvM {v : Vw} (h : Wf v) {e p : Nat} {M M' : ev_M} (he : e < 16) (hp : p < 16) (hI : VI M M') : VI M (gvM v e p M') := by
  have hr := gpr_rng h (e := e) (p := p) (V := fun q => M' 89 (16 * e + q)) (pv := fun q => M' 89 (16 * (vpar v e).toNat + q)) (ps := fun q => M' 91 (16 * (vpar v e).toNat + q)) he hp (fun q => hI.1 _ _) (fun q => hI.1 _ _) (fun q => hI.1 _ _)
  refine ⟨RM_up (RM_up hI.1 hr.1) hr.2, fun i h1 h2 => ?_⟩
  unfold gvM
  rw [up_ne h2, up_ne h1]
  exact hI.2 i h1 h2
theorem VI_gvC {v : Vw} (h : Wf v) {e : Nat} {M M' : ev_M} (he : e < 16) (hI : VI M M') : ∀ j, j ≤ 8 → VI M (gvC v e j M')
  | 0, _ => hI
  | j + 1, hj => VI_gvM h he (by omega) (VI_gvC h he hI j (by omega))
theorem VI_gvR {v : Vw} (h : Wf v) {e : Nat} {M M' : ev_M} (he : e < 16) (hI : VI M M') : ∀ k, VI M (gvR v e k M')
  | 0 => hI
  | k + 1 => VI_gvC h he (VI_gvR h he hI k) 8 (Nat.le_refl _)
theorem VI_gvP {v : Vw} (h : Wf v) {e : Nat} {M M' : ev_M} (he : e < 16) (hI : VI M M') : ∀ j, j ≤ 8 → VI M (gvP v e j M')
  | 0, _ => hI
  | j + 1, hj => VI_gvM h he (by omega) (VI_gvP h he hI j (by omega))
theorem c_X1_giveValueI {l : Launch} {M M' : ev_M} {v : Vw} {e p : Nat} {x : Int} (hI : VI M M') (hv : cV M 1 = v) (h : Wf v) (he : (e : Int) < vel v) (hx : x = (p : Int)) (hp : p < 16) (hw : ∀ p : Nat, p < 16 → M 85 (16 * e + p) = winV v e p) (hcy : ∀ p : Nat, 8 ≤ p → p < 16 → M 87 (16 * e + p) = cycV v e p) : Cx l 3 kX1_giveValue yX1_giveValue S0 M' [vr 81, vr 1, vi (e : Int), vi x] none (gvM v e p M') := by
  subst hx
  exact c_X1_giveValue hI.1 (by rw [cV_eq (fun i hi => hI.2 i (by omega) (by omega))]; exact hv) h he hp (by rw [hI.2 85 (by decide) (by decide)]; exact hw p hp) (fun q => by rw [hI.2 87 (by decide) (by decide)]; exact hcy p q hp)
set_option maxHeartbeats 2000000 in
theorem lp_gvP {l : Launch} {M M1 : ev_M} {v : Vw} {e : Nat} {w4 : Option ev_V} (hI : VI M M1) (hv : cV M 1 = v) (h : Wf v) (he : (e : Int) < vel v) (hw : ∀ p : Nat, p < 16 → M 85 (16 * e + p) = winV v e p) (hcy : ∀ p : Nat, 8 ≤ p → p < 16 → M 87 (16 * e + p) = cycV v e p) : ∀ (n j : Nat) (x : Int), x = j → j + n = 8 → Ev l none 4 kX1_giveValues (0, 0) S0 (gvP v e j M1) 42 [some (vr 81), some (vr 1), some (vi (e : Int)), some (vi x), w4] [] (QX none S0 (gvP v e 8 M1)) := by
  have h0 := h.1
  intro n
  induction n with
  | zero =>
    intro j x hx hj
    have hj2 : j = 8 := by omega
    subst hj2
    refine ev_iload_3 (q := 43) dX1_giveValues_42 rfl ?_
    refine ev_bipush (q := 45) dX1_giveValues_43 rfl (by decide) ?_
    refine ev_icmp_ge (t := 61) (q := 48) dX1_giveValues_45 (by decide) rfl (by constructor <;> omega) (by constructor <;> omega) (fun h_45 => ?_) (fun h_45 => ?_)
    · refine ev_return dX1_giveValues_61 rfl ?_
      exact ⟨rfl, rfl, rfl⟩
    · omega
  | succ n ih =>
    intro j x hx hj
    refine ev_iload_3 (q := 43) dX1_giveValues_42 rfl ?_
    refine ev_bipush (q := 45) dX1_giveValues_43 rfl (by decide) ?_
    refine ev_icmp_ge (t := 61) (q := 48) dX1_giveValues_45 (by decide) rfl (by constructor <;> omega) (by constructor <;> omega) (fun h_45 => ?_) (fun h_45 => ?_)
    · omega
    · refine ev_aload_0 (q := 49) dX1_giveValues_48 rfl ?_
      refine ev_aload_1 (q := 50) dX1_giveValues_49 rfl ?_
      refine ev_iload_2 (q := 51) dX1_giveValues_50 rfl ?_
      refine ev_iload_3 (q := 52) dX1_giveValues_51 rfl ?_
      refine ev_callV3v (q := 55) dX1_giveValues_52 vs_RX1_109 (by first | assumption | rfl) (c_X1_giveValueI (VI_gvP h (by omega) hI j (by omega)) hv h he hx (by omega) hw hcy) (by decide) (Nat.le_of_ble_eq_true rfl) rfl ?_
      refine ev_iinc_3 (q := 58) dX1_giveValues_55 rfl (by decide) ?_
      refine ev_goto (q := 42) dX1_giveValues_58 (by decide) ?_
      exact ih (j + 1) _ (by omega) (by omega)
set_option maxHeartbeats 2000000 in
theorem lp_gvC {l : Launch} {M M1 : ev_M} {v : Vw} {e : Nat} {r : Int} {Q : Option ev_V → List ev_Sh → ev_M → Prop} (hI : VI M M1) (hv : cV M 1 = v) (h : Wf v) (he : (e : Int) < vel v) (hw : ∀ p : Nat, p < 16 → M 85 (16 * e + p) = winV v e p) (hcy : ∀ p : Nat, 8 ≤ p → p < 16 → M 87 (16 * e + p) = cycV v e p) (K : Ev l none 4 kX1_giveValues (0, 0) S0 (gvC v e 8 M1) 34 [some (vr 81), some (vr 1), some (vi (e : Int)), some (vi r), some (vi 16)] [] Q) : ∀ (n j : Nat) (x : Int), x = 8 + (j : Int) → j + n = 8 → Ev l none 4 kX1_giveValues (0, 0) S0 (gvC v e j M1) 13 [some (vr 81), some (vr 1), some (vi (e : Int)), some (vi r), some (vi x)] [] Q := by
  have h0 := h.1
  intro n
  induction n with
  | zero =>
    intro j x hx hj
    have hj2 : j = 8 := by omega
    subst hj2
    have hx2 : x = 16 := by omega
    subst hx2
    refine ev_iload_4 (q := 15) dX1_giveValues_13 rfl ?_
    refine ev_bipush (q := 17) dX1_giveValues_15 rfl (by decide) ?_
    refine ev_icmp_ge (t := 34) (q := 20) dX1_giveValues_17 (by decide) rfl (by constructor <;> omega) (by constructor <;> omega) (fun h_17 => ?_) (fun h_17 => ?_)
    · exact K
    · omega
  | succ n ih =>
    intro j x hx hj
    refine ev_iload_4 (q := 15) dX1_giveValues_13 rfl ?_
    refine ev_bipush (q := 17) dX1_giveValues_15 rfl (by decide) ?_
    refine ev_icmp_ge (t := 34) (q := 20) dX1_giveValues_17 (by decide) rfl (by constructor <;> omega) (by constructor <;> omega) (fun h_17 => ?_) (fun h_17 => ?_)
    · omega
    · refine ev_aload_0 (q := 21) dX1_giveValues_20 rfl ?_
      refine ev_aload_1 (q := 22) dX1_giveValues_21 rfl ?_
      refine ev_iload_2 (q := 23) dX1_giveValues_22 rfl ?_
      refine ev_iload_4 (q := 25) dX1_giveValues_23 rfl ?_
      refine ev_callV3v (q := 28) dX1_giveValues_25 vs_RX1_109 (by first | assumption | rfl) (c_X1_giveValueI (p := 8 + j) (VI_gvC h (by omega) hI j (by omega)) hv h he (by omega) (by omega) hw hcy) (by decide) (Nat.le_of_ble_eq_true rfl) rfl ?_
      refine ev_iinc_4 (q := 31) dX1_giveValues_28 rfl (by decide) ?_
      refine ev_goto (q := 13) dX1_giveValues_31 (by decide) ?_
      exact ih (j + 1) _ (by omega) (by omega)
set_option maxHeartbeats 2000000 in
theorem lp_gvR {l : Launch} {M M1 : ev_M} {v : Vw} {e : Nat} (hI : VI M M1) (hv : cV M 1 = v) (h : Wf v) (he : (e : Int) < vel v) (hw : ∀ p : Nat, p < 16 → M 85 (16 * e + p) = winV v e p) (hcy : ∀ p : Nat, 8 ≤ p → p < 16 → M 87 (16 * e + p) = cycV v e p) : ∀ (n k : Nat) (x : Int) (w4 : Option ev_V), x = 8 + (k : Int) → k + n = 8 → Ev l none 4 kX1_giveValues (0, 0) S0 (gvR v e k M1) 3 [some (vr 81), some (vr 1), some (vi (e : Int)), some (vi x), w4] [] (QX none S0 (gvP v e 8 (gvR v e 8 M1))) := by
  have h0 := h.1
  intro n
  induction n with
  | zero =>
    intro k x w4 hx hk
    have hk2 : k = 8 := by omega
    subst hk2
    refine ev_iload_3 (q := 4) dX1_giveValues_3 rfl ?_
    refine ev_bipush (q := 6) dX1_giveValues_4 rfl (by decide) ?_
    refine ev_icmp_ge (t := 40) (q := 9) dX1_giveValues_6 (by decide) rfl (by constructor <;> omega) (by constructor <;> omega) (fun h_6 => ?_) (fun h_6 => ?_)
    · refine ev_iconst (q := 41) dX1_giveValues_40 rfl ?_
      refine ev_istore_3 (q := 42) dX1_giveValues_41 rfl (by decide) ?_
      exact lp_gvP (VI_gvR h (by omega) hI 8) hv h he hw hcy 8 0 _ rfl rfl
    · omega
  | succ n ih =>
    intro k x w4 hx hk
    have K : Ev l none 4 kX1_giveValues (0, 0) S0 (gvC v e 8 (gvR v e k M1)) 34 [some (vr 81), some (vr 1), some (vi (e : Int)), some (vi x), some (vi 16)] [] (QX none S0 (gvP v e 8 (gvR v e 8 M1))) := by
      refine ev_iinc_3 (q := 37) dX1_giveValues_34 rfl (by decide) ?_
      refine ev_goto (q := 3) dX1_giveValues_37 (by decide) ?_
      exact ih (k + 1) _ _ (by omega) (by omega)
    refine ev_iload_3 (q := 4) dX1_giveValues_3 rfl ?_
    refine ev_bipush (q := 6) dX1_giveValues_4 rfl (by decide) ?_
    refine ev_icmp_ge (t := 40) (q := 9) dX1_giveValues_6 (by decide) rfl (by constructor <;> omega) (by constructor <;> omega) (fun h_6 => ?_) (fun h_6 => ?_)
    · omega
    · refine ev_bipush (q := 11) dX1_giveValues_9 rfl (by decide) ?_
      refine ev_istore_4 (q := 13) dX1_giveValues_11 rfl (by decide) ?_
      exact lp_gvC (VI_gvR h (by omega) hI k) hv h he hw hcy K 8 0 _ rfl rfl
set_option maxHeartbeats 2000000 in
theorem c_X1_giveValues {l : Launch} {M : ev_M} {v : Vw} {e : Nat} (hR : RM M) (hv : cV M 1 = v) (h : Wf v) (he : (e : Int) < vel v) (hw : ∀ p : Nat, p < 16 → M 85 (16 * e + p) = winV v e p) (hcy : ∀ p : Nat, 8 ≤ p → p < 16 → M 87 (16 * e + p) = cycV v e p) : Cx l 4 kX1_giveValues yX1_giveValues S0 M [vr 81, vr 1, vi (e : Int)] none (gvP v e 8 (gvR v e 8 M)) := by
  refine Cx.of (by decide) rfl (by decide) (Nat.le_of_ble_eq_true rfl) ?_
  refine (show Ev _ none _ _ _ _ _ 0 [_, _, _, _, _] [] _ from ?_)
  refine ev_bipush (q := 2) dX1_giveValues_0 rfl (by decide) ?_
  refine ev_istore_3 (q := 3) dX1_giveValues_2 rfl (by decide) ?_
  exact lp_gvR (M := M) (M1 := M) ⟨hR, fun _ _ _ => rfl⟩ hv h he hw hcy 8 0 _ none rfl rfl

