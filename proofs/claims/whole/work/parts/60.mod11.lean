/-- the model's queries change only its scratch -/
def Mq (M M2 : ev_M) : Prop := ∀ i, i ≠ 106 → i ≠ 107 → i ≠ 108 → i ≠ 109 → M2 i = M i
theorem O9.q {M M2 : ev_M} (h : O9 M M2) : Mq M M2 := fun i _ _ _ d => h i d
theorem stp_self {f : Nat → Int} {n : Nat} {x : Int} (h : 0 ≤ x) : stp f (n + 1) x x ≠ -1 := by
  unfold stp
  rw [if_neg (by omega), if_pos rfl]
  decide
section To
variable {l : Launch} {M : ev_M} {v : Vw} {e p : Nat}
set_option maxHeartbeats 2000000 in
theorem c_X8_settlesAll (hA : Ag (M 101) v) (hW : Wf v) (he : (e : Int) < vel v) (hP : PR v e M) : Rv l 7 kX8_settlesAll yX8_settlesAll S0 M [vr 100, vi (e : Int)] (fun M2 => SA e M M2 ∧ ∀ q, q < 16 → GE v e M2 q) := by
  refine Rv.of (by decide) rfl (by decide) (Nat.le_of_ble_eq_true rfl) ?_
  refine (show Ev _ none _ _ _ _ _ 0 [_, _, _, _, _] [] _ from ?_)
  refine ev_bipush (q := 2) dX8_settlesAll_0 rfl (by decide) ?_
  refine ev_istore_2 (q := 3) dX8_settlesAll_2 rfl (by decide) ?_
  refine lp_s1 hA hW he (fun M3 a b => ?_) 8 0 _ _ rfl rfl ⟨fun _ _ _ _ _ => rfl, fun _ _ => ⟨rfl, rfl⟩⟩ (fun q a b => by omega)
  refine ev_iconst (q := 60) dX8_settlesAll_59 rfl ?_
  refine ev_istore_2 (q := 61) dX8_settlesAll_60 rfl (by decide) ?_
  refine lp_s2 hA hW he hP (fun M4 w3 w4 c d => ?_) 8 0 _ _ _ _ rfl rfl a b (fun q _ _ z => z.elim)
  refine ev_iconst (q := 136) dX8_settlesAll_135 rfl ?_
  refine ev_istore_2 (q := 137) dX8_settlesAll_136 rfl (by decide) ?_
  exact lp_s3 hA hW he hP 8 0 _ _ _ _ rfl rfl c d (fun q hq => by omega)
def onp (v : Vw) (e d : Nat) : Prop := stp (vpar v) 16 e d ≠ -1
theorem onp_up (hW : Wf v) (he : (e : Int) < vel v) {d : Nat} (hd : d < 16) (h : onp v e d) (h0 : 0 ≤ vpar v d) : onp v e (vpar v d).toNat := by
  have h1 := hW.1
  have hf : ∀ i : Nat, (i : Int) < vel v → vpar v i < i := fun i hi => (hW.2.2.1 i hi).1.2.1
  unfold onp at h ⊢
  rw [show (((vpar v d).toNat : Nat) : Int) = vpar v d by omega]
  have key : ∀ (n : Nat) (x : Int), x < n → x < vel v → stp (vpar v) n x d ≠ -1 → stp (vpar v) n x (vpar v d) ≠ -1 := by
    intro n
    induction n with
    | zero => intro x _ _ h; exact absurd rfl h
    | succ n ih =>
      intro x hx hxv h3
      have ih := ih (vpar v x.toNat)
      have hs := stp_rng (vpar v) n (vpar v x.toNat) d
      have hs2 := stp_rng (vpar v) n (vpar v x.toNat) (vpar v d)
      unfold stp at h3 ⊢
      by_cases q : x < 0
      · rw [if_pos q] at h3; exact absurd rfl h3
      · rw [if_neg q] at h3 ⊢
        have hfx := hf x.toNat (by omega)
        by_cases q1 : x = d
        · subst q1
          rw [Int.toNat_natCast] at *
          rw [if_neg (by omega)]
          have : stp (vpar v) n (vpar v d) (vpar v d) = 0 := by
            cases n with
            | zero => omega
            | succ n => unfold stp; rw [if_neg (by omega), if_pos rfl]
          rw [this]
          decide
        · rw [if_neg q1] at h3
          by_cases q2 : stp (vpar v) n (vpar v x.toNat) d < 0
          · rw [if_pos q2] at h3; exact absurd rfl h3
          · have := ih (by omega) (by omega) (by omega)
            by_cases q3 : x = vpar v d
            · rw [if_pos q3]; decide
            · rw [if_neg q3, if_neg (by omega)]
              omega
  exact key 16 e (by omega) he h
/-- the rows on e's way up, below d, are right -/
def TI (v : Vw) (e d : Nat) (M M1 : ev_M) : Prop := Mq M M1 ∧ ∀ d', d' < d → onp v e d' → ∀ q, q < 16 → GE v d' M1 q
set_option maxHeartbeats 2000000 in
theorem lp_to (hA : Ag (M 101) v) (hW : Wf v) (he : (e : Int) < vel v) : ∀ (n d : Nat) (x : Int) (M1 : ev_M), x = (d : Int) → d + n = e + 1 → TI v e d M M1 → Ev l none 8 kX8_settlesTo (0, 0) S0 M1 2 [some (vr 100), some (vi (e : Int)), some (vi x)] [] (QV S0 (fun M2 => TI v e (e + 1) M M2)) := by
  have h1 := hW.1
  intro n
  induction n with
  | zero =>
    intro d x M1 hx hn hI
    have hd : d = e + 1 := by omega
    subst hd
    refine ev_iload_2 (q := 3) dX8_settlesTo_2 rfl ?_
    refine ev_iload_1 (q := 4) dX8_settlesTo_3 rfl ?_
    refine ev_icmp_gt (t := 27) (q := 7) dX8_settlesTo_4 (by decide) rfl (by constructor <;> omega) (by constructor <;> omega) (fun h_4 => ?_) (fun h_4 => ?_)
    · refine ev_return dX8_settlesTo_27 rfl ?_
      exact ⟨rfl, rfl, hI⟩
    · omega
  | succ n ih =>
    intro d x M1 hx hn hI
    subst hx
    have hA1 : Ag (M1 101) v := by rw [hI.1 101 (by decide) (by decide) (by decide) (by decide)]; exact hA
    have hdv : (d : Int) < vel v := by omega
    have hst := stp_rng (vpar v) 16 e d
    have hpar := (hW.2.2.1 d hdv).1
    refine ev_iload_2 (q := 3) dX8_settlesTo_2 rfl ?_
    refine ev_iload_1 (q := 4) dX8_settlesTo_3 rfl ?_
    refine ev_icmp_gt (t := 27) (q := 7) dX8_settlesTo_4 (by decide) rfl (by constructor <;> omega) (by constructor <;> omega) (fun h_4 => ?_) (fun h_4 => ?_)
    · refine ev_return dX8_settlesTo_27 rfl ?_
      omega
    · refine ev_aload_0 (q := 8) dX8_settlesTo_7 rfl ?_
      refine ev_iload_1 (q := 9) dX8_settlesTo_8 rfl ?_
      refine ev_iload_2 (q := 10) dX8_settlesTo_9 rfl ?_
      refine ev_callV2i (q := 13) dX8_settlesTo_10 vs_RX8_62 (by first | assumption | rfl) (c_X8_stepsTo hA1 hW ⟨by omega, he⟩ (by constructor <;> omega) (by omega)) (by decide) (Nat.le_of_ble_eq_true rfl) rfl (fun h_10 => ?_)
      refine ev_if_lt (t := 21) (q := 16) dX8_settlesTo_13 (by decide) rfl (by constructor <;> omega) (fun h_13 => ?_) (fun h_13 => ?_)
      · refine ev_iinc_2 (q := 24) dX8_settlesTo_21 rfl (by decide) ?_
        refine ev_goto (q := 2) dX8_settlesTo_24 (by decide) ?_
        refine ih (d + 1) _ _ (by omega) (by omega) ?_
        first
        | (refine ⟨fun i a b c f => (hq_18.1.1 i a b c f).trans (hI.1 i a b c f), fun d' hd' hon q hq => ?_⟩
           by_cases z : d' = d
           · rw [z]; exact hq_18.2 q hq
           · have hg := hI.2 d' (by omega) hon q hq
             have hs := hq_18.1.2 (16 * d' + q) (by omega)
             unfold GE at hg ⊢
             rw [hs.1, hs.2]
             exact hg)
        | (refine ⟨hI.1, fun d' hd' hon q hq => ?_⟩
           by_cases z : d' = d
           · rw [z] at hon; exact absurd hon (fun w => w (by omega))
           · exact hI.2 d' (by omega) hon q hq)
      · refine ev_aload_0 (q := 17) dX8_settlesTo_16 rfl ?_
        refine ev_iload_2 (q := 18) dX8_settlesTo_17 rfl ?_
        refine ev_callV1vR (q := 21) dX8_settlesTo_18 vs_RX8_131 (by first | assumption | rfl) (c_X8_settlesAll hA1 hW hdv (fun h0 q hq => (hI.2 (vpar v d).toNat (by omega) (onp_up hW he (by omega) (show stp (vpar v) 16 e d ≠ -1 by omega) (by omega)) q hq).1)) (by decide) (Nat.le_of_ble_eq_true rfl) rfl (fun M_18 hq_18 => ?_)
        refine ev_iinc_2 (q := 24) dX8_settlesTo_21 rfl (by decide) ?_
        refine ev_goto (q := 2) dX8_settlesTo_24 (by decide) ?_
        refine ih (d + 1) _ _ (by omega) (by omega) ?_
        first
        | (refine ⟨fun i a b c f => (hq_18.1.1 i a b c f).trans (hI.1 i a b c f), fun d' hd' hon q hq => ?_⟩
           by_cases z : d' = d
           · rw [z]; exact hq_18.2 q hq
           · have hg := hI.2 d' (by omega) hon q hq
             have hs := hq_18.1.2 (16 * d' + q) (by omega)
             unfold GE at hg ⊢
             rw [hs.1, hs.2]
             exact hg)
        | (refine ⟨hI.1, fun d' hd' hon q hq => ?_⟩
           by_cases z : d' = d
           · rw [z] at hon; exact absurd hon (fun w => w (by omega))
           · exact hI.2 d' (by omega) hon q hq)
theorem c_X8_settlesTo (hA : Ag (M 101) v) (hW : Wf v) (he : (e : Int) < vel v) : Rv l 8 kX8_settlesTo yX8_settlesTo S0 M [vr 100, vi (e : Int)] (fun M2 => TI v e (e + 1) M M2) := by
  refine Rv.of (by decide) rfl (by decide) (Nat.le_of_ble_eq_true rfl) ?_
  refine (show Ev _ none _ _ _ _ _ 0 [_, _, _] [] _ from ?_)
  refine ev_iconst (q := 1) dX8_settlesTo_0 rfl ?_
  refine ev_istore_2 (q := 2) dX8_settlesTo_1 rfl (by decide) ?_
  exact lp_to hA hW he (e + 1) 0 _ _ rfl (by omega) ⟨fun _ _ _ _ _ => rfl, fun d' hd' => by omega⟩
end To

