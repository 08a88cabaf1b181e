theorem Nv.one {n : Nat} {M : ev_M} {x : ev_Sh} (hz : ∀ c, M n c = 0) : Nv n [x].length M [0] M := ⟨rfl, fun _ _ _ => rfl, fun j k hj => by
  have : j = 0 := Nat.lt_one_iff.mp hj
  subst this
  rw [Nat.add_zero, hz]
  split <;> rfl⟩
def tRow (m n : Nat) : List ev_Sh := [.inr (.inl (2, [some (some (n + 1))])), .inl (0, m)]
def wRow : List Int := [0, 0]
set_option maxHeartbeats 1000000 in
theorem c_X2_init {l : Launch} {m : Nat} (hm : m < 100000) : Cn l 1 kX2_init yX2_init (1, m) (.inr (.inl (2, [some none]))) (tRow m) wRow [vi (m : Int)] := by
  intro P M hz
  have hM := Nv.one (x := .inr (.inl (2, [some none]))) hz
  refine Ct.of (by decide) rfl (fun _ => rfl) (Nat.le_of_ble_eq_true rfl) ?_
  refine (show Ev _ none _ _ _ (P ++ [_]) _ 0 [some (vr (P.length + 0)), _] [] _ from ?_)
  refine ev_aload_0 (q := 1) dX2_init_0 rfl ?_
  refine ev_objInit (q := 4) dX2_init_1 oi_RX2_3 ob_ok (by decide) (Nat.le_of_ble_eq_true rfl) rfl ?_
  refine ev_aload_0 (q := 5) dX2_init_4 rfl ?_
  refine ev_iload_1 (q := 6) dX2_init_5 rfl ?_
  refine ev_iconst (q := 7) dX2_init_6 rfl ?_
  refine ev_mmax (q := 10) dX2_init_7 mm_RX2_9 (by decide) (Nat.le_of_ble_eq_true rfl) (by constructor <;> omega) (by constructor <;> omega) rfl ?_
  refine ev_newIN (n := m) (b2 := (0, 0)) (q := 12) hM dX2_init_10 ar_int (by omega) hm (by rfl) rfl 1 (by rfl) (L' := [.inr (.inl (2, [some none])), .inl (0, m)]) (by rfl) (v' := [0, 0]) (by rfl) (fun M hM => ?_)
  refine ev_putRN (q := 15) hM dX2_init_12 fl_RX2_15 0 1 (by rfl) pf_RX2_15 (by rfl) rfl rfl (fun _ => rfl) (fun _ => rfl) (L' := [.inr (.inl (2, [some (some (P.length + 1))])), .inl (0, m)]) (by rfl) (fun hM => ?_)
  exact ev_return dX2_init_15 rfl ⟨rfl, by rfl, hM⟩
def tTree (n : Nat) : List ev_Sh := ([.inr (.inl (6, [none, some (some (n + 1)), some (some (n + 3)), some (some (n + 5))]))] ++ tRow 16 (n + 1) ++ tRow 16 (n + 3) ++ tRow 16 (n + 5))
def wTree : List Int := ([(1)] ++ [0, (-1)] ++ wRow ++ wRow : List Int)
set_option maxHeartbeats 4000000 in
set_option maxRecDepth 20000 in
theorem c_X6_init {l : Launch} : Cn l 2 kX6_init yX6_init (6, 51) (.inr (.inl (6, [none, some none, some none, some none]))) tTree wTree [] := by
  intro P M hz
  have hM := Nv.one (x := .inr (.inl (6, [none, some none, some none, some none]))) hz
  refine Ct.of (by decide) rfl (fun _ => rfl) (Nat.le_of_ble_eq_true rfl) ?_
  refine (show Ev _ none _ _ _ (P ++ [_]) _ 0 [some (vr (P.length + 0))] [] _ from ?_)
  refine ev_aload_0 (q := 1) dX6_init_0 rfl ?_
  refine ev_objInit (q := 4) dX6_init_1 oi_RX6_3 ob_ok (by decide) (Nat.le_of_ble_eq_true rfl) rfl ?_
  refine ev_aload_0 (q := 5) dX6_init_4 rfl ?_
  refine ev_newN (b2 := (5, 50)) (q := 8) hM dX6_init_5 nw_RX6_9 (by decide) rfl rfl 1 (by rfl) (L' := ([.inr (.inl (6, [none, some none, some none, some none])), .inr (.inl (2, [some none]))])) (by rfl) (v' := ([(0), (0)] : List Int)) (by rfl) (fun M hM => ?_)
  refine ev_dup (q := 9) dX6_init_8 rfl ?_
  refine ev_bipush (q := 11) dX6_init_9 rfl (by decide) ?_
  refine ev_callN (b2 := (4, 34)) (q := 14) hM dX6_init_11 is_RX6_11 (c_X2_init (m := 16) (by decide)) (by decide) rfl ([.inr (.inl (6, [none, some none, some none, some none]))]) 1 rfl rfl (by rfl) (by rfl) (Nat.le_of_ble_eq_true rfl) rfl rfl (by rfl) (L' := ([.inr (.inl (6, [none, some none, some none, some none]))] ++ tRow 16 (P.length + 1))) (by rfl) (v' := ([(0)] ++ wRow : List Int)) (by rfl) (fun M hM => ?_)
  refine ev_putRN (q := 17) hM dX6_init_14 fl_RX6_14 0 1 (by rfl) pf_RX6_14 (by rfl) rfl rfl (fun _ => rfl) (fun _ => rfl) (L' := ([.inr (.inl (6, [none, some (some (P.length + 1)), some none, some none]))] ++ tRow 16 (P.length + 1))) (by rfl) (fun hM => ?_)
  refine ev_aload_0 (q := 18) dX6_init_17 rfl ?_
  refine ev_newN (b2 := (3, 33)) (q := 21) hM dX6_init_18 nw_RX6_9 (by decide) rfl rfl 3 (by rfl) (L' := ([.inr (.inl (6, [none, some (some (P.length + 1)), some none, some none]))] ++ tRow 16 (P.length + 1) ++ [.inr (.inl (2, [some none]))])) (by rfl) (v' := ([(0)] ++ wRow ++ [(0)] : List Int)) (by rfl) (fun M hM => ?_)
  refine ev_dup (q := 22) dX6_init_21 rfl ?_
  refine ev_bipush (q := 24) dX6_init_22 rfl (by decide) ?_
  refine ev_callN (b2 := (2, 17)) (q := 27) hM dX6_init_24 is_RX6_11 (c_X2_init (m := 16) (by decide)) (by decide) rfl ([.inr (.inl (6, [none, some (some (P.length + 1)), some none, some none]))] ++ tRow 16 (P.length + 1)) 3 rfl rfl (by rfl) (by rfl) (Nat.le_of_ble_eq_true rfl) rfl rfl (by rfl) (L' := ([.inr (.inl (6, [none, some (some (P.length + 1)), some none, some none]))] ++ tRow 16 (P.length + 1) ++ tRow 16 (P.length + 3))) (by rfl) (v' := ([(0)] ++ wRow ++ wRow : List Int)) (by rfl) (fun M hM => ?_)
  refine ev_putRN (q := 30) hM dX6_init_27 fl_RX6_20 0 3 (by rfl) pf_RX6_20 (by rfl) rfl rfl (fun _ => rfl) (fun _ => rfl) (L' := ([.inr (.inl (6, [none, some (some (P.length + 1)), some (some (P.length + 3)), some none]))] ++ tRow 16 (P.length + 1) ++ tRow 16 (P.length + 3))) (by rfl) (fun hM => ?_)
  refine ev_aload_0 (q := 31) dX6_init_30 rfl ?_
  refine ev_newN (b2 := (1, 16)) (q := 34) hM dX6_init_31 nw_RX6_9 (by decide) rfl rfl 5 (by rfl) (L' := ([.inr (.inl (6, [none, some (some (P.length + 1)), some (some (P.length + 3)), some none]))] ++ tRow 16 (P.length + 1) ++ tRow 16 (P.length + 3) ++ [.inr (.inl (2, [some none]))])) (by rfl) (v' := ([(0)] ++ wRow ++ wRow ++ [(0)] : List Int)) (by rfl) (fun M hM => ?_)
  refine ev_dup (q := 35) dX6_init_34 rfl ?_
  refine ev_bipush (q := 37) dX6_init_35 rfl (by decide) ?_
  refine ev_callN (b2 := (0, 0)) (q := 40) hM dX6_init_37 is_RX6_11 (c_X2_init (m := 16) (by decide)) (by decide) rfl ([.inr (.inl (6, [none, some (some (P.length + 1)), some (some (P.length + 3)), some none]))] ++ tRow 16 (P.length + 1) ++ tRow 16 (P.length + 3)) 5 rfl rfl (by rfl) (by rfl) (Nat.le_of_ble_eq_true rfl) rfl rfl (by rfl) (L' := ([.inr (.inl (6, [none, some (some (P.length + 1)), some (some (P.length + 3)), some none]))] ++ tRow 16 (P.length + 1) ++ tRow 16 (P.length + 3) ++ tRow 16 (P.length + 5))) (by rfl) (v' := ([(0)] ++ wRow ++ wRow ++ wRow : List Int)) (by rfl) (fun M hM => ?_)
  refine ev_putRN (q := 43) hM dX6_init_40 fl_RX6_23 0 5 (by rfl) pf_RX6_23 (by rfl) rfl rfl (fun _ => rfl) (fun _ => rfl) (L' := ([.inr (.inl (6, [none, some (some (P.length + 1)), some (some (P.length + 3)), some (some (P.length + 5))]))] ++ tRow 16 (P.length + 1) ++ tRow 16 (P.length + 3) ++ tRow 16 (P.length + 5))) (by rfl) (fun hM => ?_)
  refine ev_aload_0 (q := 44) dX6_init_43 rfl ?_
  refine ev_getR (q := 47) dX6_init_44 fl_RX6_14 (ap_at (j := 0) (by rfl)) (by rfl) rfl ?_
  refine ev_iconst (q := 48) dX6_init_47 rfl ?_
  refine ev_iconst (q := 49) dX6_init_48 rfl ?_
  refine ev_callV2v (q := 52) dX6_init_49 vs_RX6_26 (ap_at (j := 1) (by rfl)) (c_X2_put (a := P.length + 2) (n := 16) (ap_at (j := 1) (by rfl)) (ap_at (j := 2) (by rfl)) (by decide) (by constructor <;> omega) (by constructor <;> omega)) (by decide) (Nat.le_of_ble_eq_true rfl) rfl ?_
  rw [show ∀ Z : ev_M, pt Z (P.length + 2) 16 0 (-1) = up Z (P.length + 2) 0 (-1) from fun Z => if_pos (by omega)]
  replace hM := hM.up (j := 2) (x := -1) (Nat.le_of_ble_eq_true rfl)
  generalize up M (P.length + 2) 0 (-1) = M1 at hM ⊢
  revert M1; intro M hM
  refine ev_aload_0 (q := 53) dX6_init_52 rfl ?_
  refine ev_iconst (q := 54) dX6_init_53 rfl ?_
  refine ev_putIN (q := 57) hM dX6_init_54 fl_RX6_30 0 (by rfl) (by rfl) rfl (by constructor <;> omega) (v' := ([(1)] ++ [0, (-1)] ++ wRow ++ wRow : List Int)) (by rfl) (fun M hM => ?_)
  exact ev_return dX6_init_57 rfl ⟨rfl, by rfl, hM⟩
def tRules (n : Nat) : List ev_Sh := ([.inr (.inl (3, [none, some (some (n + 1)), some (some (n + 3))]))] ++ tRow 96 (n + 1) ++ tRow 768 (n + 3))
def wRules : List Int := ([(0)] ++ wRow ++ wRow : List Int)
set_option maxHeartbeats 4000000 in
set_option maxRecDepth 20000 in
theorem c_X3_init {l : Launch} : Cn l 2 kX3_init yX3_init (4, 866) (.inr (.inl (3, [none, some none, some none]))) tRules wRules [vi 16] := by
  intro P M hz
  have hM := Nv.one (x := .inr (.inl (3, [none, some none, some none]))) hz
  refine Ct.of (by decide) rfl (fun _ => rfl) (Nat.le_of_ble_eq_true rfl) ?_
  refine (show Ev _ none _ _ _ (P ++ [_]) _ 0 [some (vr (P.length + 0)), _] [] _ from ?_)
  refine ev_aload_0 (q := 1) dX3_init_0 rfl ?_
  refine ev_objInit (q := 4) dX3_init_1 oi_RX3_3 ob_ok (by decide) (Nat.le_of_ble_eq_true rfl) rfl ?_
  refine ev_aload_0 (q := 5) dX3_init_4 rfl ?_
  refine ev_newN (b2 := (3, 865)) (q := 8) hM dX3_init_5 nw_RX3_9 (by decide) rfl rfl 1 (by rfl) (L' := ([.inr (.inl (3, [none, some none, some none])), .inr (.inl (2, [some none]))])) (by rfl) (v' := ([(0), (0)] : List Int)) (by rfl) (fun M hM => ?_)
  refine ev_dup (q := 9) dX3_init_8 rfl ?_
  refine ev_iload_1 (q := 10) dX3_init_9 rfl ?_
  refine ev_bipush (q := 12) dX3_init_10 rfl (by decide) ?_
  refine ev_imul (q := 13) dX3_init_12 rfl ?_
  refine ev_callN (b2 := (2, 769)) (q := 16) hM dX3_init_13 is_RX3_11 (c_X2_init (m := 96) (by decide)) (by decide) rfl ([.inr (.inl (3, [none, some none, some none]))]) 1 rfl rfl (by rfl) (by rfl) (Nat.le_of_ble_eq_true rfl) rfl rfl (by rfl) (L' := ([.inr (.inl (3, [none, some none, some none]))] ++ tRow 96 (P.length + 1))) (by rfl) (v' := ([(0)] ++ wRow : List Int)) (by rfl) (fun M hM => ?_)
  refine ev_putRN (q := 19) hM dX3_init_16 fl_RX3_14 0 1 (by rfl) pf_RX3_14 (by rfl) rfl rfl (fun _ => rfl) (fun _ => rfl) (L' := ([.inr (.inl (3, [none, some (some (P.length + 1)), some none]))] ++ tRow 96 (P.length + 1))) (by rfl) (fun hM => ?_)
  refine ev_aload_0 (q := 20) dX3_init_19 rfl ?_
  refine ev_newN (b2 := (1, 768)) (q := 23) hM dX3_init_20 nw_RX3_9 (by decide) rfl rfl 3 (by rfl) (L' := ([.inr (.inl (3, [none, some (some (P.length + 1)), some none]))] ++ tRow 96 (P.length + 1) ++ [.inr (.inl (2, [some none]))])) (by rfl) (v' := ([(0)] ++ wRow ++ [(0)] : List Int)) (by rfl) (fun M hM => ?_)
  refine ev_dup (q := 24) dX3_init_23 rfl ?_
  refine ev_iload_1 (q := 25) dX3_init_24 rfl ?_
  refine ev_bipush (q := 27) dX3_init_25 rfl (by decide) ?_
  refine ev_imul (q := 28) dX3_init_27 rfl ?_
  refine ev_callN (b2 := (0, 0)) (q := 31) hM dX3_init_28 is_RX3_11 (c_X2_init (m := 768) (by decide)) (by decide) rfl ([.inr (.inl (3, [none, some (some (P.length + 1)), some none]))] ++ tRow 96 (P.length + 1)) 3 rfl rfl (by rfl) (by rfl) (Nat.le_of_ble_eq_true rfl) rfl rfl (by rfl) (L' := ([.inr (.inl (3, [none, some (some (P.length + 1)), some none]))] ++ tRow 96 (P.length + 1) ++ tRow 768 (P.length + 3))) (by rfl) (v' := ([(0)] ++ wRow ++ wRow : List Int)) (by rfl) (fun M hM => ?_)
  refine ev_putRN (q := 34) hM dX3_init_31 fl_RX3_20 0 3 (by rfl) pf_RX3_20 (by rfl) rfl rfl (fun _ => rfl) (fun _ => rfl) (L' := ([.inr (.inl (3, [none, some (some (P.length + 1)), some (some (P.length + 3))]))] ++ tRow 96 (P.length + 1) ++ tRow 768 (P.length + 3))) (by rfl) (fun hM => ?_)
  exact ev_return dX3_init_34 rfl ⟨rfl, by rfl, hM⟩
def tRules1 (n : Nat) : List ev_Sh := ([.inr (.inl (3, [none, some (some (n + 1)), some (some (n + 3))]))] ++ tRow 6 (n + 1) ++ tRow 48 (n + 3))
def wRules1 : List Int := ([(0)] ++ wRow ++ wRow : List Int)
set_option maxHeartbeats 4000000 in
set_option maxRecDepth 20000 in
theorem c_X3_init1 {l : Launch} : Cn l 2 kX3_init yX3_init (4, 56) (.inr (.inl (3, [none, some none, some none]))) tRules1 wRules1 [vi 1] := by
  intro P M hz
  have hM := Nv.one (x := .inr (.inl (3, [none, some none, some none]))) hz
  refine Ct.of (by decide) rfl (fun _ => rfl) (Nat.le_of_ble_eq_true rfl) ?_
  refine (show Ev _ none _ _ _ (P ++ [_]) _ 0 [some (vr (P.length + 0)), _] [] _ from ?_)
  refine ev_aload_0 (q := 1) dX3_init_0 rfl ?_
  refine ev_objInit (q := 4) dX3_init_1 oi_RX3_3 ob_ok (by decide) (Nat.le_of_ble_eq_true rfl) rfl ?_
  refine ev_aload_0 (q := 5) dX3_init_4 rfl ?_
  refine ev_newN (b2 := (3, 55)) (q := 8) hM dX3_init_5 nw_RX3_9 (by decide) rfl rfl 1 (by rfl) (L' := ([.inr (.inl (3, [none, some none, some none])), .inr (.inl (2, [some none]))])) (by rfl) (v' := ([(0), (0)] : List Int)) (by rfl) (fun M hM => ?_)
  refine ev_dup (q := 9) dX3_init_8 rfl ?_
  refine ev_iload_1 (q := 10) dX3_init_9 rfl ?_
  refine ev_bipush (q := 12) dX3_init_10 rfl (by decide) ?_
  refine ev_imul (q := 13) dX3_init_12 rfl ?_
  refine ev_callN (b2 := (2, 49)) (q := 16) hM dX3_init_13 is_RX3_11 (c_X2_init (m := 6) (by decide)) (by decide) rfl ([.inr (.inl (3, [none, some none, some none]))]) 1 rfl rfl (by rfl) (by rfl) (Nat.le_of_ble_eq_true rfl) rfl rfl (by rfl) (L' := ([.inr (.inl (3, [none, some none, some none]))] ++ tRow 6 (P.length + 1))) (by rfl) (v' := ([(0)] ++ wRow : List Int)) (by rfl) (fun M hM => ?_)
  refine ev_putRN (q := 19) hM dX3_init_16 fl_RX3_14 0 1 (by rfl) pf_RX3_14 (by rfl) rfl rfl (fun _ => rfl) (fun _ => rfl) (L' := ([.inr (.inl (3, [none, some (some (P.length + 1)), some none]))] ++ tRow 6 (P.length + 1))) (by rfl) (fun hM => ?_)
  refine ev_aload_0 (q := 20) dX3_init_19 rfl ?_
  refine ev_newN (b2 := (1, 48)) (q := 23) hM dX3_init_20 nw_RX3_9 (by decide) rfl rfl 3 (by rfl) (L' := ([.inr (.inl (3, [none, some (some (P.length + 1)), some none]))] ++ tRow 6 (P.length + 1) ++ [.inr (.inl (2, [some none]))])) (by rfl) (v' := ([(0)] ++ wRow ++ [(0)] : List Int)) (by rfl) (fun M hM => ?_)
  refine ev_dup (q := 24) dX3_init_23 rfl ?_
  refine ev_iload_1 (q := 25) dX3_init_24 rfl ?_
  refine ev_bipush (q := 27) dX3_init_25 rfl (by decide) ?_
  refine ev_imul (q := 28) dX3_init_27 rfl ?_
  refine ev_callN (b2 := (0, 0)) (q := 31) hM dX3_init_28 is_RX3_11 (c_X2_init (m := 48) (by decide)) (by decide) rfl ([.inr (.inl (3, [none, some (some (P.length + 1)), some none]))] ++ tRow 6 (P.length + 1)) 3 rfl rfl (by rfl) (by rfl) (Nat.le_of_ble_eq_true rfl) rfl rfl (by rfl) (L' := ([.inr (.inl (3, [none, some (some (P.length + 1)), some none]))] ++ tRow 6 (P.length + 1) ++ tRow 48 (P.length + 3))) (by rfl) (v' := ([(0)] ++ wRow ++ wRow : List Int)) (by rfl) (fun M hM => ?_)
  refine ev_putRN (q := 34) hM dX3_init_31 fl_RX3_20 0 3 (by rfl) pf_RX3_20 (by rfl) rfl rfl (fun _ => rfl) (fun _ => rfl) (L' := ([.inr (.inl (3, [none, some (some (P.length + 1)), some (some (P.length + 3))]))] ++ tRow 6 (P.length + 1) ++ tRow 48 (P.length + 3))) (by rfl) (fun hM => ?_)
  exact ev_return dX3_init_34 rfl ⟨rfl, by rfl, hM⟩
def tState (n : Nat) : List ev_Sh := ([.inr (.inl (4, [some (some (n + 1)), some (some (n + 8))]))] ++ tTree (n + 1) ++ tRules (n + 8))
def wState : List Int := ([(0)] ++ wTree ++ wRules : List Int)
set_option maxHeartbeats 4000000 in
set_option maxRecDepth 20000 in
theorem c_X4_init {l : Launch} : Cn l 3 kX4_init yX4_init (12, 924) (.inr (.inl (4, [some none, some none]))) tState wState [] := by
  intro P M hz
  have hM := Nv.one (x := .inr (.inl (4, [some none, some none]))) hz
  refine Ct.of (by decide) rfl (fun _ => rfl) (Nat.le_of_ble_eq_true rfl) ?_
  refine (show Ev _ none _ _ _ (P ++ [_]) _ 0 [some (vr (P.length + 0))] [] _ from ?_)
  refine ev_aload_0 (q := 1) dX4_init_0 rfl ?_
  refine ev_objInit (q := 4) dX4_init_1 oi_RX4_3 ob_ok (by decide) (Nat.le_of_ble_eq_true rfl) rfl ?_
  refine ev_aload_0 (q := 5) dX4_init_4 rfl ?_
  refine ev_newN (b2 := (11, 920)) (q := 8) hM dX4_init_5 nw_RX4_9 (by decide) rfl rfl 1 (by rfl) (L' := ([.inr (.inl (4, [some none, some none])), .inr (.inl (6, [none, some none, some none, some none]))])) (by rfl) (v' := ([(0), (0)] : List Int)) (by rfl) (fun M hM => ?_)
  refine ev_dup (q := 9) dX4_init_8 rfl ?_
  refine ev_callN (b2 := (5, 869)) (q := 12) hM dX4_init_9 is_RX4_11 c_X6_init (by decide) rfl ([.inr (.inl (4, [some none, some none]))]) 1 rfl rfl (by rfl) (by rfl) (Nat.le_of_ble_eq_true rfl) rfl rfl (by rfl) (L' := ([.inr (.inl (4, [some none, some none]))] ++ tTree (P.length + 1))) (by rfl) (v' := ([(0)] ++ wTree : List Int)) (by rfl) (fun M hM => ?_)
  refine ev_putRN (q := 15) hM dX4_init_12 fl_RX4_12 0 1 (by rfl) pf_RX4_12 (by rfl) rfl rfl (fun _ => rfl) (fun _ => rfl) (L' := ([.inr (.inl (4, [some (some (P.length + 1)), some none]))] ++ tTree (P.length + 1))) (by rfl) (fun hM => ?_)
  refine ev_aload_0 (q := 16) dX4_init_15 rfl ?_
  refine ev_newN (b2 := (4, 866)) (q := 19) hM dX4_init_16 nw_RX4_18 (by decide) rfl rfl 8 (by rfl) (L' := ([.inr (.inl (4, [some (some (P.length + 1)), some none]))] ++ tTree (P.length + 1) ++ [.inr (.inl (3, [none, some none, some none]))])) (by rfl) (v' := ([(0)] ++ wTree ++ [(0)] : List Int)) (by rfl) (fun M hM => ?_)
  refine ev_dup (q := 20) dX4_init_19 rfl ?_
  refine ev_bipush (q := 22) dX4_init_20 rfl (by decide) ?_
  refine ev_callN (b2 := (0, 0)) (q := 25) hM dX4_init_22 is_RX4_20 c_X3_init (by decide) rfl ([.inr (.inl (4, [some (some (P.length + 1)), some none]))] ++ tTree (P.length + 1)) 8 rfl rfl (by rfl) (by rfl) (Nat.le_of_ble_eq_true rfl) rfl rfl (by rfl) (L' := ([.inr (.inl (4, [some (some (P.length + 1)), some none]))] ++ tTree (P.length + 1) ++ tRules (P.length + 8))) (by rfl) (v' := ([(0)] ++ wTree ++ wRules : List Int)) (by rfl) (fun M hM => ?_)
  refine ev_putRN (q := 28) hM dX4_init_25 fl_RX4_23 0 8 (by rfl) pf_RX4_23 (by rfl) rfl rfl (fun _ => rfl) (fun _ => rfl) (L' := ([.inr (.inl (4, [some (some (P.length + 1)), some (some (P.length + 8))]))] ++ tTree (P.length + 1) ++ tRules (P.length + 8))) (by rfl) (fun hM => ?_)
  exact ev_return dX4_init_28 rfl ⟨rfl, by rfl, hM⟩
def tHist (n : Nat) : List ev_Sh := ([.inr (.inl (0, [some (some (n + 1)), none, none])), .inr (.inr (3, 5, (va_up (va_up (va_up (va_up (va_up (fun _ => none) 0 (some (n + 2))) 1 (some (n + 15))) 2 (some (n + 28))) 3 (some (n + 41))) 4 (some (n + 54)))))] ++ tState (n + 2) ++ tState (n + 15) ++ tState (n + 28) ++ tState (n + 41) ++ tState (n + 54))
def wHist : List Int := ([(0), (0)] ++ wState ++ wState ++ wState ++ wState ++ wState : List Int)
set_option maxHeartbeats 4000000 in
set_option maxRecDepth 20000 in
theorem c_X0_init {l : Launch} : Cn l 4 kX0_init yX0_init (66, 4635) (.inr (.inl (0, [some none, none, none]))) tHist wHist [] := by
  intro P M hz
  have hM := Nv.one (x := .inr (.inl (0, [some none, none, none]))) hz
  refine Ct.of (by decide) rfl (fun _ => rfl) (Nat.le_of_ble_eq_true rfl) ?_
  refine (show Ev _ none _ _ _ (P ++ [_]) _ 0 [some (vr (P.length + 0)), _] [] _ from ?_)
  refine ev_aload_0 (q := 1) dX0_init_0 rfl ?_
  refine ev_objInit (q := 4) dX0_init_1 oi_RX0_3 ob_ok (by decide) (Nat.le_of_ble_eq_true rfl) rfl ?_
  refine ev_aload_0 (q := 5) dX0_init_4 rfl ?_
  refine ev_iconst (q := 6) dX0_init_5 rfl ?_
  refine ev_anewN (n := 5) (b2 := (65, 4630)) (q := 9) hM dX0_init_6 cl_RX0_9 (by rfl) (by decide) rfl rfl 1 (by rfl) (L' := ([.inr (.inl (0, [some none, none, none])), .inr (.inr (3, 5, (fun _ => none)))])) (by rfl) (v' := ([(0), (0)] : List Int)) (by rfl) (fun M hM => ?_)
  refine ev_putRN (q := 12) hM dX0_init_9 fl_RX0_11 0 1 (by rfl) pf_RX0_11 (by rfl) rfl rfl (fun _ => rfl) (fun _ => rfl) (L' := ([.inr (.inl (0, [some (some (P.length + 1)), none, none])), .inr (.inr (3, 5, (fun _ => none)))])) (by rfl) (fun hM => ?_)
  refine ev_iconst (q := 13) dX0_init_12 rfl ?_
  refine ev_istore_1 (q := 14) dX0_init_13 rfl (by decide) ?_
  refine ev_iload_1 (q := 15) dX0_init_14 rfl ?_
  refine ev_aload_0 (q := 16) dX0_init_15 rfl ?_
  refine ev_getR (q := 19) dX0_init_16 fl_RX0_11 (ap_at (j := 0) (by rfl)) (by rfl) rfl ?_
  refine ev_alenR (q := 20) dX0_init_19 (ap_at (j := 1) (by rfl)) rfl ?_
  refine ev_icmp_ge (t := 42) (q := 23) dX0_init_20 (by decide) rfl (by constructor <;> omega) (by constructor <;> omega) (fun h => absurd h (by omega)) (fun h => ?_)
  refine ev_aload_0 (q := 24) dX0_init_23 rfl ?_
  refine ev_getR (q := 27) dX0_init_24 fl_RX0_11 (ap_at (j := 0) (by rfl)) (by rfl) rfl ?_
  refine ev_iload_1 (q := 28) dX0_init_27 rfl ?_
  refine ev_newN (b2 := (64, 4628)) (q := 31) hM dX0_init_28 nw_RX0_9 (by decide) rfl rfl 2 (by rfl) (L' := ([.inr (.inl (0, [some (some (P.length + 1)), none, none])), .inr (.inr (3, 5, (fun _ => none))), .inr (.inl (4, [some none, some none]))])) (by rfl) (v' := ([(0), (0), (0)] : List Int)) (by rfl) (fun M hM => ?_)
  refine ev_dup (q := 32) dX0_init_31 rfl ?_
  refine ev_callN (b2 := (52, 3704)) (q := 35) hM dX0_init_32 is_RX0_17 c_X4_init (by decide) rfl ([.inr (.inl (0, [some (some (P.length + 1)), none, none])), .inr (.inr (3, 5, (fun _ => none)))]) 2 rfl rfl (by rfl) (by rfl) (Nat.le_of_ble_eq_true rfl) rfl rfl (by rfl) (L' := ([.inr (.inl (0, [some (some (P.length + 1)), none, none])), .inr (.inr (3, 5, (fun _ => none)))] ++ tState (P.length + 2))) (by rfl) (v' := ([(0), (0)] ++ wState : List Int)) (by rfl) (fun M hM => ?_)
  refine ev_aastoreN (q := 36) hM dX0_init_35 1 2 (by rfl) (by rfl) ⟨_, _, rfl⟩ (by omega) (by decide) rfl (L' := ([.inr (.inl (0, [some (some (P.length + 1)), none, none])), .inr (.inr (3, 5, (va_up (fun _ => none) 0 (some (P.length + 2)))))] ++ tState (P.length + 2))) (by rfl) (fun hM => ?_)
  refine ev_iinc_1 (q := 39) dX0_init_36 rfl (by decide) ?_
  refine ev_goto (q := 14) dX0_init_39 (by decide) ?_
  refine ev_iload_1 (q := 15) dX0_init_14 rfl ?_
  refine ev_aload_0 (q := 16) dX0_init_15 rfl ?_
  refine ev_getR (q := 19) dX0_init_16 fl_RX0_11 (ap_at (j := 0) (by rfl)) (by rfl) rfl ?_
  refine ev_alenR (q := 20) dX0_init_19 (ap_at (j := 1) (by rfl)) rfl ?_
  refine ev_icmp_ge (t := 42) (q := 23) dX0_init_20 (by decide) rfl (by constructor <;> omega) (by constructor <;> omega) (fun h => absurd h (by omega)) (fun h => ?_)
  refine ev_aload_0 (q := 24) dX0_init_23 rfl ?_
  refine ev_getR (q := 27) dX0_init_24 fl_RX0_11 (ap_at (j := 0) (by rfl)) (by rfl) rfl ?_
  refine ev_iload_1 (q := 28) dX0_init_27 rfl ?_
  refine ev_newN (b2 := (51, 3702)) (q := 31) hM dX0_init_28 nw_RX0_9 (by decide) rfl rfl 15 (by rfl) (L' := ([.inr (.inl (0, [some (some (P.length + 1)), none, none])), .inr (.inr (3, 5, (va_up (fun _ => none) 0 (some (P.length + 2)))))] ++ tState (P.length + 2) ++ [.inr (.inl (4, [some none, some none]))])) (by rfl) (v' := ([(0), (0)] ++ wState ++ [(0)] : List Int)) (by rfl) (fun M hM => ?_)
  refine ev_dup (q := 32) dX0_init_31 rfl ?_
  refine ev_callN (b2 := (39, 2778)) (q := 35) hM dX0_init_32 is_RX0_17 c_X4_init (by decide) rfl ([.inr (.inl (0, [some (some (P.length + 1)), none, none])), .inr (.inr (3, 5, (va_up (fun _ => none) 0 (some (P.length + 2)))))] ++ tState (P.length + 2)) 15 rfl rfl (by rfl) (by rfl) (Nat.le_of_ble_eq_true rfl) rfl rfl (by rfl) (L' := ([.inr (.inl (0, [some (some (P.length + 1)), none, none])), .inr (.inr (3, 5, (va_up (fun _ => none) 0 (some (P.length + 2)))))] ++ tState (P.length + 2) ++ tState (P.length + 15))) (by rfl) (v' := ([(0), (0)] ++ wState ++ wState : List Int)) (by rfl) (fun M hM => ?_)
  refine ev_aastoreN (q := 36) hM dX0_init_35 1 15 (by rfl) (by rfl) ⟨_, _, rfl⟩ (by omega) (by decide) rfl (L' := ([.inr (.inl (0, [some (some (P.length + 1)), none, none])), .inr (.inr (3, 5, (va_up (va_up (fun _ => none) 0 (some (P.length + 2))) 1 (some (P.length + 15)))))] ++ tState (P.length + 2) ++ tState (P.length + 15))) (by rfl) (fun hM => ?_)
  refine ev_iinc_1 (q := 39) dX0_init_36 rfl (by decide) ?_
  refine ev_goto (q := 14) dX0_init_39 (by decide) ?_
  refine ev_iload_1 (q := 15) dX0_init_14 rfl ?_
  refine ev_aload_0 (q := 16) dX0_init_15 rfl ?_
  refine ev_getR (q := 19) dX0_init_16 fl_RX0_11 (ap_at (j := 0) (by rfl)) (by rfl) rfl ?_
  refine ev_alenR (q := 20) dX0_init_19 (ap_at (j := 1) (by rfl)) rfl ?_
  refine ev_icmp_ge (t := 42) (q := 23) dX0_init_20 (by decide) rfl (by constructor <;> omega) (by constructor <;> omega) (fun h => absurd h (by omega)) (fun h => ?_)
  refine ev_aload_0 (q := 24) dX0_init_23 rfl ?_
  refine ev_getR (q := 27) dX0_init_24 fl_RX0_11 (ap_at (j := 0) (by rfl)) (by rfl) rfl ?_
  refine ev_iload_1 (q := 28) dX0_init_27 rfl ?_
  refine ev_newN (b2 := (38, 2776)) (q := 31) hM dX0_init_28 nw_RX0_9 (by decide) rfl rfl 28 (by rfl) (L' := ([.inr (.inl (0, [some (some (P.length + 1)), none, none])), .inr (.inr (3, 5, (va_up (va_up (fun _ => none) 0 (some (P.length + 2))) 1 (some (P.length + 15)))))] ++ tState (P.length + 2) ++ tState (P.length + 15) ++ [.inr (.inl (4, [some none, some none]))])) (by rfl) (v' := ([(0), (0)] ++ wState ++ wState ++ [(0)] : List Int)) (by rfl) (fun M hM => ?_)
  refine ev_dup (q := 32) dX0_init_31 rfl ?_
  refine ev_callN (b2 := (26, 1852)) (q := 35) hM dX0_init_32 is_RX0_17 c_X4_init (by decide) rfl ([.inr (.inl (0, [some (some (P.length + 1)), none, none])), .inr (.inr (3, 5, (va_up (va_up (fun _ => none) 0 (some (P.length + 2))) 1 (some (P.length + 15)))))] ++ tState (P.length + 2) ++ tState (P.length + 15)) 28 rfl rfl (by rfl) (by rfl) (Nat.le_of_ble_eq_true rfl) rfl rfl (by rfl) (L' := ([.inr (.inl (0, [some (some (P.length + 1)), none, none])), .inr (.inr (3, 5, (va_up (va_up (fun _ => none) 0 (some (P.length + 2))) 1 (some (P.length + 15)))))] ++ tState (P.length + 2) ++ tState (P.length + 15) ++ tState (P.length + 28))) (by rfl) (v' := ([(0), (0)] ++ wState ++ wState ++ wState : List Int)) (by rfl) (fun M hM => ?_)
  refine ev_aastoreN (q := 36) hM dX0_init_35 1 28 (by rfl) (by rfl) ⟨_, _, rfl⟩ (by omega) (by decide) rfl (L' := ([.inr (.inl (0, [some (some (P.length + 1)), none, none])), .inr (.inr (3, 5, (va_up (va_up (va_up (fun _ => none) 0 (some (P.length + 2))) 1 (some (P.length + 15))) 2 (some (P.length + 28)))))] ++ tState (P.length + 2) ++ tState (P.length + 15) ++ tState (P.length + 28))) (by rfl) (fun hM => ?_)
  refine ev_iinc_1 (q := 39) dX0_init_36 rfl (by decide) ?_
  refine ev_goto (q := 14) dX0_init_39 (by decide) ?_
  refine ev_iload_1 (q := 15) dX0_init_14 rfl ?_
  refine ev_aload_0 (q := 16) dX0_init_15 rfl ?_
  refine ev_getR (q := 19) dX0_init_16 fl_RX0_11 (ap_at (j := 0) (by rfl)) (by rfl) rfl ?_
  refine ev_alenR (q := 20) dX0_init_19 (ap_at (j := 1) (by rfl)) rfl ?_
  refine ev_icmp_ge (t := 42) (q := 23) dX0_init_20 (by decide) rfl (by constructor <;> omega) (by constructor <;> omega) (fun h => absurd h (by omega)) (fun h => ?_)
  refine ev_aload_0 (q := 24) dX0_init_23 rfl ?_
  refine ev_getR (q := 27) dX0_init_24 fl_RX0_11 (ap_at (j := 0) (by rfl)) (by rfl) rfl ?_
  refine ev_iload_1 (q := 28) dX0_init_27 rfl ?_
  refine ev_newN (b2 := (25, 1850)) (q := 31) hM dX0_init_28 nw_RX0_9 (by decide) rfl rfl 41 (by rfl) (L' := ([.inr (.inl (0, [some (some (P.length + 1)), none, none])), .inr (.inr (3, 5, (va_up (va_up (va_up (fun _ => none) 0 (some (P.length + 2))) 1 (some (P.length + 15))) 2 (some (P.length + 28)))))] ++ tState (P.length + 2) ++ tState (P.length + 15) ++ tState (P.length + 28) ++ [.inr (.inl (4, [some none, some none]))])) (by rfl) (v' := ([(0), (0)] ++ wState ++ wState ++ wState ++ [(0)] : List Int)) (by rfl) (fun M hM => ?_)
  refine ev_dup (q := 32) dX0_init_31 rfl ?_
  refine ev_callN (b2 := (13, 926)) (q := 35) hM dX0_init_32 is_RX0_17 c_X4_init (by decide) rfl ([.inr (.inl (0, [some (some (P.length + 1)), none, none])), .inr (.inr (3, 5, (va_up (va_up (va_up (fun _ => none) 0 (some (P.length + 2))) 1 (some (P.length + 15))) 2 (some (P.length + 28)))))] ++ tState (P.length + 2) ++ tState (P.length + 15) ++ tState (P.length + 28)) 41 rfl rfl (by rfl) (by rfl) (Nat.le_of_ble_eq_true rfl) rfl rfl (by rfl) (L' := ([.inr (.inl (0, [some (some (P.length + 1)), none, none])), .inr (.inr (3, 5, (va_up (va_up (va_up (fun _ => none) 0 (some (P.length + 2))) 1 (some (P.length + 15))) 2 (some (P.length + 28)))))] ++ tState (P.length + 2) ++ tState (P.length + 15) ++ tState (P.length + 28) ++ tState (P.length + 41))) (by rfl) (v' := ([(0), (0)] ++ wState ++ wState ++ wState ++ wState : List Int)) (by rfl) (fun M hM => ?_)
  refine ev_aastoreN (q := 36) hM dX0_init_35 1 41 (by rfl) (by rfl) ⟨_, _, rfl⟩ (by omega) (by decide) rfl (L' := ([.inr (.inl (0, [some (some (P.length + 1)), none, none])), .inr (.inr (3, 5, (va_up (va_up (va_up (va_up (fun _ => none) 0 (some (P.length + 2))) 1 (some (P.length + 15))) 2 (some (P.length + 28))) 3 (some (P.length + 41)))))] ++ tState (P.length + 2) ++ tState (P.length + 15) ++ tState (P.length + 28) ++ tState (P.length + 41))) (by rfl) (fun hM => ?_)
  refine ev_iinc_1 (q := 39) dX0_init_36 rfl (by decide) ?_
  refine ev_goto (q := 14) dX0_init_39 (by decide) ?_
  refine ev_iload_1 (q := 15) dX0_init_14 rfl ?_
  refine ev_aload_0 (q := 16) dX0_init_15 rfl ?_
  refine ev_getR (q := 19) dX0_init_16 fl_RX0_11 (ap_at (j := 0) (by rfl)) (by rfl) rfl ?_
  refine ev_alenR (q := 20) dX0_init_19 (ap_at (j := 1) (by rfl)) rfl ?_
  refine ev_icmp_ge (t := 42) (q := 23) dX0_init_20 (by decide) rfl (by constructor <;> omega) (by constructor <;> omega) (fun h => absurd h (by omega)) (fun h => ?_)
  refine ev_aload_0 (q := 24) dX0_init_23 rfl ?_
  refine ev_getR (q := 27) dX0_init_24 fl_RX0_11 (ap_at (j := 0) (by rfl)) (by rfl) rfl ?_
  refine ev_iload_1 (q := 28) dX0_init_27 rfl ?_
  refine ev_newN (b2 := (12, 924)) (q := 31) hM dX0_init_28 nw_RX0_9 (by decide) rfl rfl 54 (by rfl) (L' := ([.inr (.inl (0, [some (some (P.length + 1)), none, none])), .inr (.inr (3, 5, (va_up (va_up (va_up (va_up (fun _ => none) 0 (some (P.length + 2))) 1 (some (P.length + 15))) 2 (some (P.length + 28))) 3 (some (P.length + 41)))))] ++ tState (P.length + 2) ++ tState (P.length + 15) ++ tState (P.length + 28) ++ tState (P.length + 41) ++ [.inr (.inl (4, [some none, some none]))])) (by rfl) (v' := ([(0), (0)] ++ wState ++ wState ++ wState ++ wState ++ [(0)] : List Int)) (by rfl) (fun M hM => ?_)
  refine ev_dup (q := 32) dX0_init_31 rfl ?_
  refine ev_callN (b2 := (0, 0)) (q := 35) hM dX0_init_32 is_RX0_17 c_X4_init (by decide) rfl ([.inr (.inl (0, [some (some (P.length + 1)), none, none])), .inr (.inr (3, 5, (va_up (va_up (va_up (va_up (fun _ => none) 0 (some (P.length + 2))) 1 (some (P.length + 15))) 2 (some (P.length + 28))) 3 (some (P.length + 41)))))] ++ tState (P.length + 2) ++ tState (P.length + 15) ++ tState (P.length + 28) ++ tState (P.length + 41)) 54 rfl rfl (by rfl) (by rfl) (Nat.le_of_ble_eq_true rfl) rfl rfl (by rfl) (L' := ([.inr (.inl (0, [some (some (P.length + 1)), none, none])), .inr (.inr (3, 5, (va_up (va_up (va_up (va_up (fun _ => none) 0 (some (P.length + 2))) 1 (some (P.length + 15))) 2 (some (P.length + 28))) 3 (some (P.length + 41)))))] ++ tState (P.length + 2) ++ tState (P.length + 15) ++ tState (P.length + 28) ++ tState (P.length + 41) ++ tState (P.length + 54))) (by rfl) (v' := ([(0), (0)] ++ wState ++ wState ++ wState ++ wState ++ wState : List Int)) (by rfl) (fun M hM => ?_)
  refine ev_aastoreN (q := 36) hM dX0_init_35 1 54 (by rfl) (by rfl) ⟨_, _, rfl⟩ (by omega) (by decide) rfl (L' := ([.inr (.inl (0, [some (some (P.length + 1)), none, none])), .inr (.inr (3, 5, (va_up (va_up (va_up (va_up (va_up (fun _ => none) 0 (some (P.length + 2))) 1 (some (P.length + 15))) 2 (some (P.length + 28))) 3 (some (P.length + 41))) 4 (some (P.length + 54)))))] ++ tState (P.length + 2) ++ tState (P.length + 15) ++ tState (P.length + 28) ++ tState (P.length + 41) ++ tState (P.length + 54))) (by rfl) (fun hM => ?_)
  refine ev_iinc_1 (q := 39) dX0_init_36 rfl (by decide) ?_
  refine ev_goto (q := 14) dX0_init_39 (by decide) ?_
  refine ev_iload_1 (q := 15) dX0_init_14 rfl ?_
  refine ev_aload_0 (q := 16) dX0_init_15 rfl ?_
  refine ev_getR (q := 19) dX0_init_16 fl_RX0_11 (ap_at (j := 0) (by rfl)) (by rfl) rfl ?_
  refine ev_alenR (q := 20) dX0_init_19 (ap_at (j := 1) (by rfl)) rfl ?_
  refine ev_icmp_ge (t := 42) (q := 23) dX0_init_20 (by decide) rfl (by constructor <;> omega) (by constructor <;> omega) (fun h => ?_) (fun h => absurd h (by omega))
  exact ev_return dX0_init_42 rfl ⟨rfl, by rfl, hM⟩
def tOutc (n : Nat) : List ev_Sh := ([.inr (.inl (1, [none, none, none, some (some (n + 1)), some (some (n + 3)), some (some (n + 5)), some (some (n + 7)), some (some (n + 9))]))] ++ tRow 256 (n + 1) ++ tRow 256 (n + 3) ++ tRow 256 (n + 5) ++ tRow 256 (n + 7) ++ tRow 256 (n + 9))
def wOutc : List Int := ([(0)] ++ wRow ++ wRow ++ wRow ++ wRow ++ wRow : List Int)
set_option maxHeartbeats 4000000 in
set_option maxRecDepth 20000 in
theorem c_X1_init {l : Launch} : Cn l 2 kX1_init yX1_init (10, 1285) (.inr (.inl (1, [none, none, none, some none, some none, some none, some none, some none]))) tOutc wOutc [] := by
  intro P M hz
  have hM := Nv.one (x := .inr (.inl (1, [none, none, none, some none, some none, some none, some none, some none]))) hz
  refine Ct.of (by decide) rfl (fun _ => rfl) (Nat.le_of_ble_eq_true rfl) ?_
  refine (show Ev _ none _ _ _ (P ++ [_]) _ 0 [some (vr (P.length + 0))] [] _ from ?_)
  refine ev_aload_0 (q := 1) dX1_init_0 rfl ?_
  refine ev_objInit (q := 4) dX1_init_1 oi_RX1_3 ob_ok (by decide) (Nat.le_of_ble_eq_true rfl) rfl ?_
  refine ev_aload_0 (q := 5) dX1_init_4 rfl ?_
  refine ev_newN (b2 := (9, 1284)) (q := 8) hM dX1_init_5 nw_RX1_9 (by decide) rfl rfl 1 (by rfl) (L' := ([.inr (.inl (1, [none, none, none, some none, some none, some none, some none, some none])), .inr (.inl (2, [some none]))])) (by rfl) (v' := ([(0), (0)] : List Int)) (by rfl) (fun M hM => ?_)
  refine ev_dup (q := 9) dX1_init_8 rfl ?_
  refine ev_sipush (q := 12) dX1_init_9 rfl (by decide) ?_
  refine ev_callN (b2 := (8, 1028)) (q := 15) hM dX1_init_12 is_RX1_11 (c_X2_init (m := 256) (by decide)) (by decide) rfl ([.inr (.inl (1, [none, none, none, some none, some none, some none, some none, some none]))]) 1 rfl rfl (by rfl) (by rfl) (Nat.le_of_ble_eq_true rfl) rfl rfl (by rfl) (L' := ([.inr (.inl (1, [none, none, none, some none, some none, some none, some none, some none]))] ++ tRow 256 (P.length + 1))) (by rfl) (v' := ([(0)] ++ wRow : List Int)) (by rfl) (fun M hM => ?_)
  refine ev_putRN (q := 18) hM dX1_init_15 fl_RX1_14 0 1 (by rfl) pf_RX1_14 (by rfl) rfl rfl (fun _ => rfl) (fun _ => rfl) (L' := ([.inr (.inl (1, [none, none, none, some (some (P.length + 1)), some none, some none, some none, some none]))] ++ tRow 256 (P.length + 1))) (by rfl) (fun hM => ?_)
  refine ev_aload_0 (q := 19) dX1_init_18 rfl ?_
  refine ev_newN (b2 := (7, 1027)) (q := 22) hM dX1_init_19 nw_RX1_9 (by decide) rfl rfl 3 (by rfl) (L' := ([.inr (.inl (1, [none, none, none, some (some (P.length + 1)), some none, some none, some none, some none]))] ++ tRow 256 (P.length + 1) ++ [.inr (.inl (2, [some none]))])) (by rfl) (v' := ([(0)] ++ wRow ++ [(0)] : List Int)) (by rfl) (fun M hM => ?_)
  refine ev_dup (q := 23) dX1_init_22 rfl ?_
  refine ev_sipush (q := 26) dX1_init_23 rfl (by decide) ?_
  refine ev_callN (b2 := (6, 771)) (q := 29) hM dX1_init_26 is_RX1_11 (c_X2_init (m := 256) (by decide)) (by decide) rfl ([.inr (.inl (1, [none, none, none, some (some (P.length + 1)), some none, some none, some none, some none]))] ++ tRow 256 (P.length + 1)) 3 rfl rfl (by rfl) (by rfl) (Nat.le_of_ble_eq_true rfl) rfl rfl (by rfl) (L' := ([.inr (.inl (1, [none, none, none, some (some (P.length + 1)), some none, some none, some none, some none]))] ++ tRow 256 (P.length + 1) ++ tRow 256 (P.length + 3))) (by rfl) (v' := ([(0)] ++ wRow ++ wRow : List Int)) (by rfl) (fun M hM => ?_)
  refine ev_putRN (q := 32) hM dX1_init_29 fl_RX1_20 0 3 (by rfl) pf_RX1_20 (by rfl) rfl rfl (fun _ => rfl) (fun _ => rfl) (L' := ([.inr (.inl (1, [none, none, none, some (some (P.length + 1)), some (some (P.length + 3)), some none, some none, some none]))] ++ tRow 256 (P.length + 1) ++ tRow 256 (P.length + 3))) (by rfl) (fun hM => ?_)
  refine ev_aload_0 (q := 33) dX1_init_32 rfl ?_
  refine ev_newN (b2 := (5, 770)) (q := 36) hM dX1_init_33 nw_RX1_9 (by decide) rfl rfl 5 (by rfl) (L' := ([.inr (.inl (1, [none, none, none, some (some (P.length + 1)), some (some (P.length + 3)), some none, some none, some none]))] ++ tRow 256 (P.length + 1) ++ tRow 256 (P.length + 3) ++ [.inr (.inl (2, [some none]))])) (by rfl) (v' := ([(0)] ++ wRow ++ wRow ++ [(0)] : List Int)) (by rfl) (fun M hM => ?_)
  refine ev_dup (q := 37) dX1_init_36 rfl ?_
  refine ev_sipush (q := 40) dX1_init_37 rfl (by decide) ?_
  refine ev_callN (b2 := (4, 514)) (q := 43) hM dX1_init_40 is_RX1_11 (c_X2_init (m := 256) (by decide)) (by decide) rfl ([.inr (.inl (1, [none, none, none, some (some (P.length + 1)), some (some (P.length + 3)), some none, some none, some none]))] ++ tRow 256 (P.length + 1) ++ tRow 256 (P.length + 3)) 5 rfl rfl (by rfl) (by rfl) (Nat.le_of_ble_eq_true rfl) rfl rfl (by rfl) (L' := ([.inr (.inl (1, [none, none, none, some (some (P.length + 1)), some (some (P.length + 3)), some none, some none, some none]))] ++ tRow 256 (P.length + 1) ++ tRow 256 (P.length + 3) ++ tRow 256 (P.length + 5))) (by rfl) (v' := ([(0)] ++ wRow ++ wRow ++ wRow : List Int)) (by rfl) (fun M hM => ?_)
  refine ev_putRN (q := 46) hM dX1_init_43 fl_RX1_23 0 5 (by rfl) pf_RX1_23 (by rfl) rfl rfl (fun _ => rfl) (fun _ => rfl) (L' := ([.inr (.inl (1, [none, none, none, some (some (P.length + 1)), some (some (P.length + 3)), some (some (P.length + 5)), some none, some none]))] ++ tRow 256 (P.length + 1) ++ tRow 256 (P.length + 3) ++ tRow 256 (P.length + 5))) (by rfl) (fun hM => ?_)
  refine ev_aload_0 (q := 47) dX1_init_46 rfl ?_
  refine ev_newN (b2 := (3, 513)) (q := 50) hM dX1_init_47 nw_RX1_9 (by decide) rfl rfl 7 (by rfl) (L' := ([.inr (.inl (1, [none, none, none, some (some (P.length + 1)), some (some (P.length + 3)), some (some (P.length + 5)), some none, some none]))] ++ tRow 256 (P.length + 1) ++ tRow 256 (P.length + 3) ++ tRow 256 (P.length + 5) ++ [.inr (.inl (2, [some none]))])) (by rfl) (v' := ([(0)] ++ wRow ++ wRow ++ wRow ++ [(0)] : List Int)) (by rfl) (fun M hM => ?_)
  refine ev_dup (q := 51) dX1_init_50 rfl ?_
  refine ev_sipush (q := 54) dX1_init_51 rfl (by decide) ?_
  refine ev_callN (b2 := (2, 257)) (q := 57) hM dX1_init_54 is_RX1_11 (c_X2_init (m := 256) (by decide)) (by decide) rfl ([.inr (.inl (1, [none, none, none, some (some (P.length + 1)), some (some (P.length + 3)), some (some (P.length + 5)), some none, some none]))] ++ tRow 256 (P.length + 1) ++ tRow 256 (P.length + 3) ++ tRow 256 (P.length + 5)) 7 rfl rfl (by rfl) (by rfl) (Nat.le_of_ble_eq_true rfl) rfl rfl (by rfl) (L' := ([.inr (.inl (1, [none, none, none, some (some (P.length + 1)), some (some (P.length + 3)), some (some (P.length + 5)), some none, some none]))] ++ tRow 256 (P.length + 1) ++ tRow 256 (P.length + 3) ++ tRow 256 (P.length + 5) ++ tRow 256 (P.length + 7))) (by rfl) (v' := ([(0)] ++ wRow ++ wRow ++ wRow ++ wRow : List Int)) (by rfl) (fun M hM => ?_)
  refine ev_putRN (q := 60) hM dX1_init_57 fl_RX1_26 0 7 (by rfl) pf_RX1_26 (by rfl) rfl rfl (fun _ => rfl) (fun _ => rfl) (L' := ([.inr (.inl (1, [none, none, none, some (some (P.length + 1)), some (some (P.length + 3)), some (some (P.length + 5)), some (some (P.length + 7)), some none]))] ++ tRow 256 (P.length + 1) ++ tRow 256 (P.length + 3) ++ tRow 256 (P.length + 5) ++ tRow 256 (P.length + 7))) (by rfl) (fun hM => ?_)
  refine ev_aload_0 (q := 61) dX1_init_60 rfl ?_
  refine ev_newN (b2 := (1, 256)) (q := 64) hM dX1_init_61 nw_RX1_9 (by decide) rfl rfl 9 (by rfl) (L' := ([.inr (.inl (1, [none, none, none, some (some (P.length + 1)), some (some (P.length + 3)), some (some (P.length + 5)), some (some (P.length + 7)), some none]))] ++ tRow 256 (P.length + 1) ++ tRow 256 (P.length + 3) ++ tRow 256 (P.length + 5) ++ tRow 256 (P.length + 7) ++ [.inr (.inl (2, [some none]))])) (by rfl) (v' := ([(0)] ++ wRow ++ wRow ++ wRow ++ wRow ++ [(0)] : List Int)) (by rfl) (fun M hM => ?_)
  refine ev_dup (q := 65) dX1_init_64 rfl ?_
  refine ev_sipush (q := 68) dX1_init_65 rfl (by decide) ?_
  refine ev_callN (b2 := (0, 0)) (q := 71) hM dX1_init_68 is_RX1_11 (c_X2_init (m := 256) (by decide)) (by decide) rfl ([.inr (.inl (1, [none, none, none, some (some (P.length + 1)), some (some (P.length + 3)), some (some (P.length + 5)), some (some (P.length + 7)), some none]))] ++ tRow 256 (P.length + 1) ++ tRow 256 (P.length + 3) ++ tRow 256 (P.length + 5) ++ tRow 256 (P.length + 7)) 9 rfl rfl (by rfl) (by rfl) (Nat.le_of_ble_eq_true rfl) rfl rfl (by rfl) (L' := ([.inr (.inl (1, [none, none, none, some (some (P.length + 1)), some (some (P.length + 3)), some (some (P.length + 5)), some (some (P.length + 7)), some none]))] ++ tRow 256 (P.length + 1) ++ tRow 256 (P.length + 3) ++ tRow 256 (P.length + 5) ++ tRow 256 (P.length + 7) ++ tRow 256 (P.length + 9))) (by rfl) (v' := ([(0)] ++ wRow ++ wRow ++ wRow ++ wRow ++ wRow : List Int)) (by rfl) (fun M hM => ?_)
  refine ev_putRN (q := 74) hM dX1_init_71 fl_RX1_29 0 9 (by rfl) pf_RX1_29 (by rfl) rfl rfl (fun _ => rfl) (fun _ => rfl) (L' := ([.inr (.inl (1, [none, none, none, some (some (P.length + 1)), some (some (P.length + 3)), some (some (P.length + 5)), some (some (P.length + 7)), some (some (P.length + 9))]))] ++ tRow 256 (P.length + 1) ++ tRow 256 (P.length + 3) ++ tRow 256 (P.length + 5) ++ tRow 256 (P.length + 7) ++ tRow 256 (P.length + 9))) (by rfl) (fun hM => ?_)
  exact ev_return dX1_init_74 rfl ⟨rfl, by rfl, hM⟩
def tText (n : Nat) : List ev_Sh := ([.inr (.inl (5, [some (some (n + 1)), none, some (some (n + 3)), none, none, none]))] ++ tRow 80 (n + 1) ++ tRules1 (n + 3))
def wText : List Int := ([(0)] ++ wRow ++ wRules1 : List Int)
set_option maxHeartbeats 4000000 in
set_option maxRecDepth 20000 in
theorem c_X5_init {l : Launch} : Cn l 3 kX5_init yX5_init (7, 140) (.inr (.inl (5, [some none, none, some none, none, none, none]))) tText wText [] := by
  intro P M hz
  have hM := Nv.one (x := .inr (.inl (5, [some none, none, some none, none, none, none]))) hz
  refine Ct.of (by decide) rfl (fun _ => rfl) (Nat.le_of_ble_eq_true rfl) ?_
  refine (show Ev _ none _ _ _ (P ++ [_]) _ 0 [some (vr (P.length + 0))] [] _ from ?_)
  refine ev_aload_0 (q := 1) dX5_init_0 rfl ?_
  refine ev_objInit (q := 4) dX5_init_1 oi_RX5_3 ob_ok (by decide) (Nat.le_of_ble_eq_true rfl) rfl ?_
  refine ev_aload_0 (q := 5) dX5_init_4 rfl ?_
  refine ev_newN (b2 := (6, 139)) (q := 8) hM dX5_init_5 nw_RX5_9 (by decide) rfl rfl 1 (by rfl) (L' := ([.inr (.inl (5, [some none, none, some none, none, none, none])), .inr (.inl (2, [some none]))])) (by rfl) (v' := ([(0), (0)] : List Int)) (by rfl) (fun M hM => ?_)
  refine ev_dup (q := 9) dX5_init_8 rfl ?_
  refine ev_bipush (q := 11) dX5_init_9 rfl (by decide) ?_
  refine ev_callN (b2 := (5, 59)) (q := 14) hM dX5_init_11 is_RX5_11 (c_X2_init (m := 80) (by decide)) (by decide) rfl ([.inr (.inl (5, [some none, none, some none, none, none, none]))]) 1 rfl rfl (by rfl) (by rfl) (Nat.le_of_ble_eq_true rfl) rfl rfl (by rfl) (L' := ([.inr (.inl (5, [some none, none, some none, none, none, none]))] ++ tRow 80 (P.length + 1))) (by rfl) (v' := ([(0)] ++ wRow : List Int)) (by rfl) (fun M hM => ?_)
  refine ev_putRN (q := 17) hM dX5_init_14 fl_RX5_14 0 1 (by rfl) pf_RX5_14 (by rfl) rfl rfl (fun _ => rfl) (fun _ => rfl) (L' := ([.inr (.inl (5, [some (some (P.length + 1)), none, some none, none, none, none]))] ++ tRow 80 (P.length + 1))) (by rfl) (fun hM => ?_)
  refine ev_aload_0 (q := 18) dX5_init_17 rfl ?_
  refine ev_newN (b2 := (4, 56)) (q := 21) hM dX5_init_18 nw_RX5_20 (by decide) rfl rfl 3 (by rfl) (L' := ([.inr (.inl (5, [some (some (P.length + 1)), none, some none, none, none, none]))] ++ tRow 80 (P.length + 1) ++ [.inr (.inl (3, [none, some none, some none]))])) (by rfl) (v' := ([(0)] ++ wRow ++ [(0)] : List Int)) (by rfl) (fun M hM => ?_)
  refine ev_dup (q := 22) dX5_init_21 rfl ?_
  refine ev_iconst (q := 23) dX5_init_22 rfl ?_
  refine ev_callN (b2 := (0, 0)) (q := 26) hM dX5_init_23 is_RX5_22 c_X3_init1 (by decide) rfl ([.inr (.inl (5, [some (some (P.length + 1)), none, some none, none, none, none]))] ++ tRow 80 (P.length + 1)) 3 rfl rfl (by rfl) (by rfl) (Nat.le_of_ble_eq_true rfl) rfl rfl (by rfl) (L' := ([.inr (.inl (5, [some (some (P.length + 1)), none, some none, none, none, none]))] ++ tRow 80 (P.length + 1) ++ tRules1 (P.length + 3))) (by rfl) (v' := ([(0)] ++ wRow ++ wRules1 : List Int)) (by rfl) (fun M hM => ?_)
  refine ev_putRN (q := 29) hM dX5_init_26 fl_RX5_23 0 3 (by rfl) pf_RX5_23 (by rfl) rfl rfl (fun _ => rfl) (fun _ => rfl) (L' := ([.inr (.inl (5, [some (some (P.length + 1)), none, some (some (P.length + 3)), none, none, none]))] ++ tRow 80 (P.length + 1) ++ tRules1 (P.length + 3))) (by rfl) (fun hM => ?_)
  exact ev_return dX5_init_29 rfl ⟨rfl, by rfl, hM⟩
def tClass (n : Nat) : List ev_Sh := ([.inr (.inl (7, [some (some (n + 1)), some (some (n + 14)), some (some (n + 81)), some (some (n + 92))]))] ++ tState (n + 1) ++ tHist (n + 14) ++ tOutc (n + 81) ++ tText (n + 92))
def wClass : List Int := ([(0)] ++ wState ++ wHist ++ wOutc ++ wText : List Int)
set_option maxHeartbeats 4000000 in
set_option maxRecDepth 20000 in
theorem c_X7_init {l : Launch} : Cn l 5 kX7_init yX7_init (99, 7003) (.inr (.inl (7, [some none, some none, some none, some none]))) tClass wClass [] := by
  intro P M hz
  have hM := Nv.one (x := .inr (.inl (7, [some none, some none, some none, some none]))) hz
  refine Ct.of (by decide) rfl (fun _ => rfl) (Nat.le_of_ble_eq_true rfl) ?_
  refine (show Ev _ none _ _ _ (P ++ [_]) _ 0 [some (vr (P.length + 0))] [] _ from ?_)
  refine ev_aload_0 (q := 1) dX7_init_0 rfl ?_
  refine ev_objInit (q := 4) dX7_init_1 oi_RX7_1 ob_ok (by decide) (Nat.le_of_ble_eq_true rfl) rfl ?_
  refine ev_aload_0 (q := 5) dX7_init_4 rfl ?_
  refine ev_newN (b2 := (98, 7001)) (q := 8) hM dX7_init_5 nw_RX7_7 (by decide) rfl rfl 1 (by rfl) (L' := ([.inr (.inl (7, [some none, some none, some none, some none])), .inr (.inl (4, [some none, some none]))])) (by rfl) (v' := ([(0), (0)] : List Int)) (by rfl) (fun M hM => ?_)
  refine ev_dup (q := 9) dX7_init_8 rfl ?_
  refine ev_callN (b2 := (86, 6077)) (q := 12) hM dX7_init_9 is_RX7_9 c_X4_init (by decide) rfl ([.inr (.inl (7, [some none, some none, some none, some none]))]) 1 rfl rfl (by rfl) (by rfl) (Nat.le_of_ble_eq_true rfl) rfl rfl (by rfl) (L' := ([.inr (.inl (7, [some none, some none, some none, some none]))] ++ tState (P.length + 1))) (by rfl) (v' := ([(0)] ++ wState : List Int)) (by rfl) (fun M hM => ?_)
  refine ev_putRN (q := 15) hM dX7_init_12 fl_RX7_10 0 1 (by rfl) pf_RX7_10 (by rfl) rfl rfl (fun _ => rfl) (fun _ => rfl) (L' := ([.inr (.inl (7, [some (some (P.length + 1)), some none, some none, some none]))] ++ tState (P.length + 1))) (by rfl) (fun hM => ?_)
  refine ev_aload_0 (q := 16) dX7_init_15 rfl ?_
  refine ev_newN (b2 := (85, 6074)) (q := 19) hM dX7_init_16 nw_RX7_16 (by decide) rfl rfl 14 (by rfl) (L' := ([.inr (.inl (7, [some (some (P.length + 1)), some none, some none, some none]))] ++ tState (P.length + 1) ++ [.inr (.inl (0, [some none, none, none]))])) (by rfl) (v' := ([(0)] ++ wState ++ [(0)] : List Int)) (by rfl) (fun M hM => ?_)
  refine ev_dup (q := 20) dX7_init_19 rfl ?_
  refine ev_callN (b2 := (19, 1439)) (q := 23) hM dX7_init_20 is_RX7_18 c_X0_init (by decide) rfl ([.inr (.inl (7, [some (some (P.length + 1)), some none, some none, some none]))] ++ tState (P.length + 1)) 14 rfl rfl (by rfl) (by rfl) (Nat.le_of_ble_eq_true rfl) rfl rfl (by rfl) (L' := ([.inr (.inl (7, [some (some (P.length + 1)), some none, some none, some none]))] ++ tState (P.length + 1) ++ tHist (P.length + 14))) (by rfl) (v' := ([(0)] ++ wState ++ wHist : List Int)) (by rfl) (fun M hM => ?_)
  refine ev_putRN (q := 26) hM dX7_init_23 fl_RX7_19 0 14 (by rfl) pf_RX7_19 (by rfl) rfl rfl (fun _ => rfl) (fun _ => rfl) (L' := ([.inr (.inl (7, [some (some (P.length + 1)), some (some (P.length + 14)), some none, some none]))] ++ tState (P.length + 1) ++ tHist (P.length + 14))) (by rfl) (fun hM => ?_)
  refine ev_aload_0 (q := 27) dX7_init_26 rfl ?_
  refine ev_newN (b2 := (18, 1431)) (q := 30) hM dX7_init_27 nw_RX7_23 (by decide) rfl rfl 81 (by rfl) (L' := ([.inr (.inl (7, [some (some (P.length + 1)), some (some (P.length + 14)), some none, some none]))] ++ tState (P.length + 1) ++ tHist (P.length + 14) ++ [.inr (.inl (1, [none, none, none, some none, some none, some none, some none, some none]))])) (by rfl) (v' := ([(0)] ++ wState ++ wHist ++ [(0)] : List Int)) (by rfl) (fun M hM => ?_)
  refine ev_dup (q := 31) dX7_init_30 rfl ?_
  refine ev_callN (b2 := (8, 146)) (q := 34) hM dX7_init_31 is_RX7_25 c_X1_init (by decide) rfl ([.inr (.inl (7, [some (some (P.length + 1)), some (some (P.length + 14)), some none, some none]))] ++ tState (P.length + 1) ++ tHist (P.length + 14)) 81 rfl rfl (by rfl) (by rfl) (Nat.le_of_ble_eq_true rfl) rfl rfl (by rfl) (L' := ([.inr (.inl (7, [some (some (P.length + 1)), some (some (P.length + 14)), some none, some none]))] ++ tState (P.length + 1) ++ tHist (P.length + 14) ++ tOutc (P.length + 81))) (by rfl) (v' := ([(0)] ++ wState ++ wHist ++ wOutc : List Int)) (by rfl) (fun M hM => ?_)
  refine ev_putRN (q := 37) hM dX7_init_34 fl_RX7_26 0 81 (by rfl) pf_RX7_26 (by rfl) rfl rfl (fun _ => rfl) (fun _ => rfl) (L' := ([.inr (.inl (7, [some (some (P.length + 1)), some (some (P.length + 14)), some (some (P.length + 81)), some none]))] ++ tState (P.length + 1) ++ tHist (P.length + 14) ++ tOutc (P.length + 81))) (by rfl) (fun hM => ?_)
  refine ev_aload_0 (q := 38) dX7_init_37 rfl ?_
  refine ev_newN (b2 := (7, 140)) (q := 41) hM dX7_init_38 nw_RX7_30 (by decide) rfl rfl 92 (by rfl) (L' := ([.inr (.inl (7, [some (some (P.length + 1)), some (some (P.length + 14)), some (some (P.length + 81)), some none]))] ++ tState (P.length + 1) ++ tHist (P.length + 14) ++ tOutc (P.length + 81) ++ [.inr (.inl (5, [some none, none, some none, none, none, none]))])) (by rfl) (v' := ([(0)] ++ wState ++ wHist ++ wOutc ++ [(0)] : List Int)) (by rfl) (fun M hM => ?_)
  refine ev_dup (q := 42) dX7_init_41 rfl ?_
  refine ev_callN (b2 := (0, 0)) (q := 45) hM dX7_init_42 is_RX7_32 c_X5_init (by decide) rfl ([.inr (.inl (7, [some (some (P.length + 1)), some (some (P.length + 14)), some (some (P.length + 81)), some none]))] ++ tState (P.length + 1) ++ tHist (P.length + 14) ++ tOutc (P.length + 81)) 92 rfl rfl (by rfl) (by rfl) (Nat.le_of_ble_eq_true rfl) rfl rfl (by rfl) (L' := ([.inr (.inl (7, [some (some (P.length + 1)), some (some (P.length + 14)), some (some (P.length + 81)), some none]))] ++ tState (P.length + 1) ++ tHist (P.length + 14) ++ tOutc (P.length + 81) ++ tText (P.length + 92))) (by rfl) (v' := ([(0)] ++ wState ++ wHist ++ wOutc ++ wText : List Int)) (by rfl) (fun M hM => ?_)
  refine ev_putRN (q := 48) hM dX7_init_45 fl_RX7_33 0 92 (by rfl) pf_RX7_33 (by rfl) rfl rfl (fun _ => rfl) (fun _ => rfl) (L' := ([.inr (.inl (7, [some (some (P.length + 1)), some (some (P.length + 14)), some (some (P.length + 81)), some (some (P.length + 92))]))] ++ tState (P.length + 1) ++ tHist (P.length + 14) ++ tOutc (P.length + 81) ++ tText (P.length + 92))) (by rfl) (fun hM => ?_)
  exact ev_return dX7_init_48 rfl ⟨rfl, by rfl, hM⟩
