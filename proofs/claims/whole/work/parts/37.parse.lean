/-- how far a text is read: place, faulty in form, first fault of range, what was said -/
abbrev PS : Type := Int × Bool × Int × (Nat → Int)
abbrev pat (P : PS) : Int := P.1
abbrev pwr (P : PS) : Bool := P.2.1
abbrev pbd (P : PS) : Int := P.2.2.1
abbrev psd (P : PS) : Nat → Int := P.2.2.2
def cur (t : Nat → Int) (len : Int) (P : PS) : Int := if pwr P = false ∧ pat P < len then t (pat P).toNat else -1
def accB (t : Nat → Int) (len c : Int) (P : PS) : Prop := cur t len P = c
def accS (t : Nat → Int) (len c : Int) (P : PS) : PS := if cur t len P = c then (pat P + 1, P.2) else P
def demS (t : Nat → Int) (len c : Int) (P : PS) : PS := if cur t len P = c then (pat P + 1, P.2) else (pat P, true, P.2.2)
def numL (t : Nat → Int) (len : Int) : Nat → Int → PS → Int × PS
  | 0, v, P => (v, P)
  | n + 1, v, P => if 48 ≤ cur t len P ∧ cur t len P ≤ 57 then numL t len n (10 * v + cur t len P - 48) (pat P + 1, P.2) else (v, P)
def numE (lo hi : Int) (P : PS) (r : Int × PS) : Int × PS := if pat r.2 = pat P then (r.1, (pat r.2, true, r.2.2.2)) else if ¬ (lo ≤ r.1 ∧ r.1 ≤ hi) ∧ pbd r.2 = -1 then (r.1, (pat r.2, pwr r.2, pat P, psd r.2)) else r
def numS (t : Nat → Int) (len : Int) (d : Nat) (lo hi : Int) (P : PS) : Int × PS := numE lo hi P (numL t len d 0 P)
def EntR (M : ev_M) (f : Nat → Int) : Prop := ∀ p : Nat, p < 16 → (f (3 * p) = 0 ∧ M 99 (3 * p) = -1 ∧ M 99 (3 * p + 1) = -1 ∧ M 99 (3 * p + 2) = -1) ∨ (f (3 * p) = 1 ∧ M 99 (3 * p) = f (3 * p + 1) ∧ (0 ≤ f (3 * p + 1) ∧ f (3 * p + 1) ≤ 999) ∧ M 99 (3 * p + 1) = -1 ∧ M 99 (3 * p + 2) = -1 ∧ f (3 * p + 2) = -1) ∨ (f (3 * p) = 2 ∧ M 99 (3 * p) = -1 ∧ M 99 (3 * p + 1) = f (3 * p + 1) ∧ (0 ≤ f (3 * p + 1) ∧ f (3 * p + 1) ≤ 99) ∧ M 99 (3 * p + 2) = f (3 * p + 2) ∧ -1 ≤ f (3 * p + 2) ∧ f (3 * p + 2) ≤ 999)
/-- the class's reading, beside P -/
def RC (M : ev_M) (P : PS) : Prop := M 92 3 = pat P ∧ (0 ≤ pat P ∧ pat P ≤ M 92 1) ∧ (0 ≤ M 92 1 ∧ M 92 1 ≤ 80) ∧ (pwr P = true → M 92 4 = pat P) ∧ (pwr P = false → M 92 4 = -1 ∧ M 92 5 = pbd P ∧ (psd P 48 = 0 → EntR M (psd P))) ∧ (∀ k : Nat, (k : Int) < M 92 1 → 32 ≤ M 94 k ∧ M 94 k ≤ 126) ∧ (-1 ≤ M 92 5 ∧ M 92 5 ≤ 80) ∧ -1 ≤ pbd P
def TFr (M M' : ev_M) : Prop := (∀ i, i ≠ 92 → i ≠ 99 → M' i = M i) ∧ M' 92 1 = M 92 1
theorem TFr.rf {M : ev_M} : TFr M M := ⟨fun _ _ _ => rfl, rfl⟩
theorem TFr.tr {M M1 M2 : ev_M} (h1 : TFr M M1) (h2 : TFr M1 M2) : TFr M M2 := ⟨fun i a d => (h2.1 i a d).trans (h1.1 i a d), h2.2.trans h1.2⟩
abbrev ccur (M : ev_M) (P : PS) : Int := cur (M 94) (M 92 1) P
theorem cur_rng {M : ev_M} {P : PS} (h : RC M P) : ccur M P = -1 ∨ 32 ≤ ccur M P ∧ ccur M P ≤ 126 := by
  obtain ⟨h1, h2, h3, h4, h5, h6, -⟩ := h
  unfold ccur cur
  split
  · have := h6 (pat P).toNat (by omega)
    omega
  · exact Or.inl rfl
theorem cur_w {t : Nat → Int} {len : Int} {P : PS} (h : pwr P = true) : cur t len P = -1 := by
  unfold cur
  rw [if_neg]
  rw [h]
  simp
theorem cur_pos {t : Nat → Int} {len : Int} {P : PS} (h : cur t len P ≠ -1) : pwr P = false ∧ pat P < len := by
  unfold cur at h
  by_cases hc : pwr P = false ∧ pat P < len
  · exact hc
  · rw [if_neg hc] at h; exact absurd rfl h
/-- one character on -/
theorem RC.next {M : ev_M} {P : PS} (h : RC M P) (hc : ccur M P ≠ -1) : RC (up M 92 3 (pat P + 1)) (pat P + 1, P.2) ∧ TFr M (up M 92 3 (pat P + 1)) := by
  obtain ⟨h1, h2, h3, h4, h5, h6, h7⟩ := h
  obtain ⟨c1, c2⟩ := cur_pos hc
  refine ⟨⟨?_, ?_, ?_, fun q => ?_, fun q => ?_, ?_, ?_, ?_⟩, fun i a d => up_ne a, ?_⟩
  · rw [up_at, if_pos ⟨rfl, rfl⟩]
  · rw [up_at, if_neg (by omega)]
    show 0 ≤ pat P + 1 ∧ pat P + 1 ≤ M 92 1
    omega
  · rw [up_at, if_neg (by omega)]; exact h3
  · rw [c1] at q; cases q
  · obtain ⟨a1, a2, a3⟩ := h5 q
    rw [up_at, if_neg (by omega), up_at, if_neg (by omega)]
    refine ⟨a1, a2, fun z p hp => ?_⟩
    rw [up_ne (by decide)]
    exact a3 z p hp
  · intro k hk
    rw [up_at, if_neg (by omega)] at hk
    rw [up_ne (by decide)]
    exact h6 k hk
  · rw [up_at, if_neg (by omega)]; exact h7.1
  · exact h7.2
  · rw [up_at, if_neg (by omega)]
/-- a fault of the form -/
theorem RC.fail {M : ev_M} {P : PS} (h : RC M P) : RC (if M 92 4 = -1 then up M 92 4 (M 92 3) else M) (pat P, true, P.2.2) ∧ TFr M (if M 92 4 = -1 then up M 92 4 (M 92 3) else M) := by
  obtain ⟨h1, h2, h3, h4, h5, h6, h7⟩ := h
  by_cases hf : M 92 4 = -1
  · rw [if_pos hf]
    refine ⟨⟨?_, ?_, ?_, fun q => ?_, fun q => (by cases q), ?_, ?_, h7.2⟩, fun i a d => up_ne a, ?_⟩
    · rw [up_at, if_neg (by omega)]; exact h1
    · rw [up_at, if_neg (by omega)]; exact h2
    · rw [up_at, if_neg (by omega)]; exact h3
    · rw [up_at, if_pos ⟨rfl, rfl⟩]; exact h1
    · intro k hk
      rw [up_at, if_neg (by omega)] at hk
      rw [up_ne (by decide)]
      exact h6 k hk
    · rw [up_at, if_neg (by omega)]; exact h7.1
    · rw [up_at, if_neg (by omega)]
  · rw [if_neg hf]
    refine ⟨⟨h1, h2, h3, fun q => ?_, fun q => (by cases q), h6, h7⟩, TFr.rf⟩
    cases hw : pwr P with
    | true => exact h4 hw
    | false => exact absurd (h5 hw).1 hf
set_option maxHeartbeats 1000000 in
theorem c_X5_current {l : Launch} {M : ev_M} {P : PS} (h : RC M P) : Cx l 1 kX5_current yX5_current S0 M [vr 92] (some (vi (ccur M P))) M := by
  have hr := cur_rng h
  obtain ⟨h1, h2, h3, h4, h5, h6, h7⟩ := id h
  have hb : pwr P = true ∨ pwr P = false := by cases pwr P <;> simp
  refine Cx.of (by decide) rfl (by decide) (Nat.le_of_ble_eq_true rfl) ?_
  refine (show Ev _ none _ _ _ _ _ 0 [_] [] _ from ?_)
  refine ev_aload_0 (q := 1) dX5_current_0 rfl ?_
  refine ev_getI (q := 4) dX5_current_1 fl_RX5_38 (by first | assumption | rfl) (by rfl) rfl (fun h_1 => ?_)
  refine ev_iconst (q := 5) dX5_current_4 rfl ?_
  refine ev_icmp_ne (t := 33) (q := 8) dX5_current_5 (by decide) rfl (by constructor <;> omega) (by constructor <;> omega) (fun h_5 => ?_) (fun h_5 => ?_)
  · refine ev_iconst (q := 34) dX5_current_33 rfl ?_
    refine ev_ireturn dX5_current_34 rfl rfl (by constructor <;> omega) ?_
    refine ⟨congrArg (fun z => some (Sum.inl z)) ?_, rfl, rfl⟩
    rcases hb with hb | hb
    · first | (rw [ccur, cur_w hb]; done) | (have := h4 hb; omega)
    · have := (h5 hb).1
      rw [ccur, cur]
      first | (rw [if_pos ⟨hb, by omega⟩, h1]; done) | (rw [if_neg (fun q => by have := q.2; omega)]; done) | omega
  · refine ev_aload_0 (q := 9) dX5_current_8 rfl ?_
    refine ev_getI (q := 12) dX5_current_9 fl_RX5_35 (by first | assumption | rfl) (by rfl) rfl (fun h_9 => ?_)
    refine ev_aload_0 (q := 13) dX5_current_12 rfl ?_
    refine ev_getI (q := 16) dX5_current_13 fl_RX5_27 (by first | assumption | rfl) (by rfl) rfl (fun h_13 => ?_)
    refine ev_icmp_ge (t := 33) (q := 19) dX5_current_16 (by decide) rfl (by constructor <;> omega) (by constructor <;> omega) (fun h_16 => ?_) (fun h_16 => ?_)
    · refine ev_iconst (q := 34) dX5_current_33 rfl ?_
      refine ev_ireturn dX5_current_34 rfl rfl (by constructor <;> omega) ?_
      refine ⟨congrArg (fun z => some (Sum.inl z)) ?_, rfl, rfl⟩
      rcases hb with hb | hb
      · first | (rw [ccur, cur_w hb]; done) | (have := h4 hb; omega)
      · have := (h5 hb).1
        rw [ccur, cur]
        first | (rw [if_pos ⟨hb, by omega⟩, h1]; done) | (rw [if_neg (fun q => by have := q.2; omega)]; done) | omega
    · refine ev_aload_0 (q := 20) dX5_current_19 rfl ?_
      refine ev_getR (q := 23) dX5_current_20 fl_RX5_14 (by first | assumption | rfl) (by rfl) rfl ?_
      refine ev_aload_0 (q := 24) dX5_current_23 rfl ?_
      refine ev_getI (q := 27) dX5_current_24 fl_RX5_35 (by first | assumption | rfl) (by rfl) rfl (fun h_24 => ?_)
      refine ev_callV1i (q := 30) dX5_current_27 vs_RX5_102 (by first | assumption | rfl) (c_X2_atR (by first | assumption | rfl) (by first | assumption | rfl) (by first | decide | omega) (by omega)) (by decide) (Nat.le_of_ble_eq_true rfl) rfl (fun h_27 => ?_)
      refine ev_goto (q := 34) dX5_current_30 (by decide) ?_
      refine ev_ireturn dX5_current_34 rfl rfl (by constructor <;> omega) ?_
      refine ⟨congrArg (fun z => some (Sum.inl z)) ?_, rfl, rfl⟩
      rcases hb with hb | hb
      · first | (rw [ccur, cur_w hb]; done) | (have := h4 hb; omega)
      · have := (h5 hb).1
        rw [ccur, cur]
        first | (rw [if_pos ⟨hb, by omega⟩, h1]; done) | (rw [if_neg (fun q => by have := q.2; omega)]; done) | omega
set_option maxHeartbeats 1000000 in
theorem c_X5_failForm {l : Launch} {M : ev_M} : Cx l 0 kX5_failForm yX5_failForm S0 M [vr 92] none (if M 92 4 = -1 then up M 92 4 (M 92 3) else M) := by
  refine Cx.of (by decide) rfl (by decide) (Nat.le_of_ble_eq_true rfl) ?_
  refine (show Ev _ none _ _ _ _ _ 0 [_] [] _ from ?_)
  refine ev_aload_0 (q := 1) dX5_failForm_0 rfl ?_
  refine ev_getI (q := 4) dX5_failForm_1 fl_RX5_38 (by first | assumption | rfl) (by rfl) rfl (fun h_1 => ?_)
  refine ev_iconst (q := 5) dX5_failForm_4 rfl ?_
  refine ev_icmp_ne (t := 16) (q := 8) dX5_failForm_5 (by decide) rfl (by constructor <;> omega) (by constructor <;> omega) (fun h_5 => ?_) (fun h_5 => ?_)
  · refine ev_return dX5_failForm_16 rfl ?_
    first | exact ⟨rfl, rfl, by rw [if_pos (by assumption)]⟩ | exact ⟨rfl, rfl, by rw [if_neg (by assumption)]⟩
  · refine ev_aload_0 (q := 9) dX5_failForm_8 rfl ?_
    refine ev_aload_0 (q := 10) dX5_failForm_9 rfl ?_
    refine ev_getI (q := 13) dX5_failForm_10 fl_RX5_35 (by first | assumption | rfl) (by rfl) rfl (fun h_10 => ?_)
    refine ev_putI (q := 16) dX5_failForm_13 fl_RX5_38 (by first | assumption | rfl) (by rfl) rfl (by constructor <;> omega) ?_
    refine ev_return dX5_failForm_16 rfl ?_
    first | exact ⟨rfl, rfl, by rw [if_pos (by assumption)]⟩ | exact ⟨rfl, rfl, by rw [if_neg (by assumption)]⟩
set_option maxHeartbeats 1000000 in
theorem c_X5_failRange {l : Launch} {M : ev_M} {x : Int} (hx : inR x) : Cx l 0 kX5_failRange yX5_failRange S0 M [vr 92, vi x] none (if M 92 5 = -1 then up M 92 5 x else M) := by
  refine Cx.of (by decide) rfl (by decide) (Nat.le_of_ble_eq_true rfl) ?_
  refine (show Ev _ none _ _ _ _ _ 0 [_, _] [] _ from ?_)
  refine ev_aload_0 (q := 1) dX5_failRange_0 rfl ?_
  refine ev_getI (q := 4) dX5_failRange_1 fl_RX5_41 (by first | assumption | rfl) (by rfl) rfl (fun h_1 => ?_)
  refine ev_iconst (q := 5) dX5_failRange_4 rfl ?_
  refine ev_icmp_ne (t := 13) (q := 8) dX5_failRange_5 (by decide) rfl (by constructor <;> omega) (by constructor <;> omega) (fun h_5 => ?_) (fun h_5 => ?_)
  · refine ev_return dX5_failRange_13 rfl ?_
    first | exact ⟨rfl, rfl, by rw [if_pos (by assumption)]⟩ | exact ⟨rfl, rfl, by rw [if_neg (by assumption)]⟩
  · refine ev_aload_0 (q := 9) dX5_failRange_8 rfl ?_
    refine ev_iload_1 (q := 10) dX5_failRange_9 rfl ?_
    refine ev_putI (q := 13) dX5_failRange_10 fl_RX5_41 (by first | assumption | rfl) (by rfl) rfl (by constructor <;> omega) ?_
    refine ev_return dX5_failRange_13 rfl ?_
    first | exact ⟨rfl, rfl, by rw [if_pos (by assumption)]⟩ | exact ⟨rfl, rfl, by rw [if_neg (by assumption)]⟩
set_option maxHeartbeats 1000000 in
theorem c_X5_accepts {l : Launch} {M : ev_M} {P : PS} {c : Int} (h : RC M P) (hc : 0 ≤ c ∧ c < 1000) : Cx l 2 kX5_accepts yX5_accepts S0 M [vr 92, vi c] (some (vi (if ccur M P = c then 1 else 0))) (if ccur M P = c then up M 92 3 (pat P + 1) else M) := by
  have hr := cur_rng h
  obtain ⟨h1, h2, h3, -⟩ := id h
  refine Cx.of (by decide) rfl (by decide) (Nat.le_of_ble_eq_true rfl) ?_
  refine (show Ev _ none _ _ _ _ _ 0 [_, _] [] _ from ?_)
  refine ev_aload_0 (q := 1) dX5_accepts_0 rfl ?_
  refine ev_callV0i (q := 4) dX5_accepts_1 vs_RX5_94 (by first | assumption | rfl) (c_X5_current (by assumption)) (by decide) (Nat.le_of_ble_eq_true rfl) rfl (fun h_1 => ?_)
  refine ev_iload_1 (q := 5) dX5_accepts_4 rfl ?_
  refine ev_icmp_eq (t := 10) (q := 8) dX5_accepts_5 (by decide) rfl (by constructor <;> omega) (by constructor <;> omega) (fun h_5 => ?_) (fun h_5 => ?_)
  · refine ev_aload_0 (q := 11) dX5_accepts_10 rfl ?_
    refine ev_dup (q := 12) dX5_accepts_11 rfl ?_
    refine ev_getI (q := 15) dX5_accepts_12 fl_RX5_35 (by first | assumption | rfl) (by rfl) rfl (fun h_12 => ?_)
    refine ev_iconst (q := 16) dX5_accepts_15 rfl ?_
    refine ev_iadd (q := 17) dX5_accepts_16 rfl ?_
    refine ev_putI (q := 20) dX5_accepts_17 fl_RX5_35 (by first | assumption | rfl) (by rfl) rfl (by constructor <;> omega) ?_
    refine ev_iconst (q := 21) dX5_accepts_20 rfl ?_
    refine ev_ireturn dX5_accepts_21 rfl (by first | rfl | decide | (split <;> rfl) | (split <;> decide)) (by constructor <;> omega) ?_
    first | exact ⟨by rw [if_pos (by assumption)], rfl, by rw [if_pos (by assumption), h1]⟩ | exact ⟨by rw [if_neg (by assumption)], rfl, by rw [if_neg (by assumption)]⟩
  · refine ev_iconst (q := 9) dX5_accepts_8 rfl ?_
    refine ev_ireturn dX5_accepts_9 rfl (by first | rfl | decide | (split <;> rfl) | (split <;> decide)) (by constructor <;> omega) ?_
    first | exact ⟨by rw [if_pos (by assumption)], rfl, by rw [if_pos (by assumption), h1]⟩ | exact ⟨by rw [if_neg (by assumption)], rfl, by rw [if_neg (by assumption)]⟩
set_option maxHeartbeats 1000000 in
theorem c_X5_demand {l : Launch} {M : ev_M} {P : PS} {c : Int} (h : RC M P) (hc : 0 ≤ c ∧ c < 1000) : Rv l 2 kX5_demand yX5_demand S0 M [vr 92, vi c] (fun M' => RC M' (demS (M 94) (M 92 1) c P) ∧ TFr M M') := by
  have hr := cur_rng h
  have hf := h.fail
  obtain ⟨h1, h2, h3, -⟩ := id h
  have hn : ccur M P = c → RC (up M 92 3 (pat P + 1)) (pat P + 1, P.2) ∧ TFr M (up M 92 3 (pat P + 1)) := fun q => h.next (by omega)
  rw [← h1] at hn
  refine Rv.of (by decide) rfl (by decide) (Nat.le_of_ble_eq_true rfl) ?_
  refine (show Ev _ none _ _ _ _ _ 0 [_, _] [] _ from ?_)
  refine ev_aload_0 (q := 1) dX5_demand_0 rfl ?_
  refine ev_callV0i (q := 4) dX5_demand_1 vs_RX5_94 (by first | assumption | rfl) (c_X5_current (by assumption)) (by decide) (Nat.le_of_ble_eq_true rfl) rfl (fun h_1 => ?_)
  refine ev_iload_1 (q := 5) dX5_demand_4 rfl ?_
  refine ev_icmp_ne (t := 21) (q := 8) dX5_demand_5 (by decide) rfl (by constructor <;> omega) (by constructor <;> omega) (fun h_5 => ?_) (fun h_5 => ?_)
  · refine ev_aload_0 (q := 22) dX5_demand_21 rfl ?_
    refine ev_callV0v (q := 25) dX5_demand_22 vs_RX5_80 (by first | assumption | rfl) c_X5_failForm (by decide) (Nat.le_of_ble_eq_true rfl) rfl ?_
    refine ev_return dX5_demand_25 rfl ?_
    first | exact ⟨rfl, rfl, by rw [demS, if_pos (by assumption), ← h1]; exact hn (by assumption)⟩ | exact ⟨rfl, rfl, by rw [demS, if_neg (by assumption)]; exact hf⟩
  · refine ev_aload_0 (q := 9) dX5_demand_8 rfl ?_
    refine ev_dup (q := 10) dX5_demand_9 rfl ?_
    refine ev_getI (q := 13) dX5_demand_10 fl_RX5_35 (by first | assumption | rfl) (by rfl) rfl (fun h_10 => ?_)
    refine ev_iconst (q := 14) dX5_demand_13 rfl ?_
    refine ev_iadd (q := 15) dX5_demand_14 rfl ?_
    refine ev_putI (q := 18) dX5_demand_15 fl_RX5_35 (by first | assumption | rfl) (by rfl) rfl (by constructor <;> omega) ?_
    refine ev_goto (q := 25) dX5_demand_18 (by decide) ?_
    refine ev_return dX5_demand_25 rfl ?_
    first | exact ⟨rfl, rfl, by rw [demS, if_pos (by assumption), ← h1]; exact hn (by assumption)⟩ | exact ⟨rfl, rfl, by rw [demS, if_neg (by assumption)]; exact hf⟩

