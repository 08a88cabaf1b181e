section SettAll2
variable {l : Launch} {M : ev_M} {v : Vw} {e : Nat} {Q : Option ev_V → List ev_Sh → ev_M → Prop}
/-- the parent's row is right -/
def PR (v : Vw) (e : Nat) (M : ev_M) : Prop := e ≠ 0 → ∀ q, q < 16 → M 106 (16 * (vpar v e).toNat + q) = nz q (Tv v (vpar v e).toNat q)
theorem PR.sa {M1 : ev_M} (hW : Wf v) (he : (e : Int) < vel v) (h : PR v e M) (hS : SA e M M1) {p : Nat} (hp : p < 16) : (if e = 0 then -1 else M1 106 (16 * (vpar v e).toNat + p)) = (if e = 0 then -1 else nz p (Tv v (vpar v e).toNat p)) := by
  have hpar := (hW.2.2.1 e he).1
  by_cases h0 : e = 0
  · rw [if_pos h0, if_pos h0]
  · rw [if_neg h0, if_neg h0, (hS.2 _ (by omega)).1, h h0 p hp]
set_option maxHeartbeats 2000000 in
theorem lp_s2i {k : Nat} {w : Int} (hA : Ag (M 101) v) (hW : Wf v) (he : (e : Int) < vel v) (hP : PR v e M) (K : ∀ (M3 : ev_M) (w4 : Option ev_V), SA e M M3 → KC v e M3 → (∀ q, 8 ≤ q → q < 16 → Dn v e (k + 1) q → M3 108 q = 1) → Ev l none 7 kX8_settlesAll (0, 0) S0 M3 129 [some (vr 100), some (vi (e : Int)), some (vi w), some (vi 16), w4] [] Q) : ∀ (n j : Nat) (x : Int) (M1 : ev_M) (w4 : Option ev_V), x = 8 + (j : Int) → j + n = 8 → SA e M M1 → KC v e M1 → (∀ q, 8 ≤ q → q < 16 → Dn v e k q → M1 108 q = 1) → (∀ q, 8 ≤ q → q < 8 + j → Dn v e (k + 1) q → M1 108 q = 1) → Ev l none 7 kX8_settlesAll (0, 0) S0 M1 70 [some (vr 100), some (vi (e : Int)), some (vi w), some (vi x), w4] [] Q := by
  have h1 := hW.1
  intro n
  induction n with
  | zero =>
    intro j x M1 w4 hx hn hS hK hk hj
    refine ev_iload_3 (q := 71) dX8_settlesAll_70 rfl ?_
    refine ev_bipush (q := 73) dX8_settlesAll_71 rfl (by decide) ?_
    refine ev_icmp_ge (t := 129) (q := 76) dX8_settlesAll_73 (by decide) rfl (by constructor <;> omega) (by constructor <;> omega) (fun h_73 => ?_) (fun h_73 => ?_)
    · rw [show x = 16 by omega]
      exact K M1 _ hS hK (fun q a b => hj q a (by omega))
    · omega
  | succ n ih =>
    intro j x M1 w4 hx hn hS hK hk hj
    have hA1 := hS.ag hA
    obtain ⟨p, rfl⟩ : ∃ p : Nat, x = p := ⟨x.toNat, by omega⟩
    have hp : 8 ≤ p ∧ p < 16 := by omega
    have hld := ldV_rng hW e (pl := (p : Int)) (by omega)
    have hskip : ∀ (M2 : ev_M) (y : Int), O9 M1 M2 → (Dn v e (k + 1) p → M1 108 p = 1) → Ev l none 7 kX8_settlesAll (0, 0) S0 M2 123 [some (vr 100), some (vi (e : Int)), some (vi w), some (vi (p : Int)), some (vi y)] [] Q := by
      intro M2 y hO hd
      refine ev_iinc_3 (q := 126) dX8_settlesAll_123 rfl (by decide) ?_
      refine ev_goto (q := 70) dX8_settlesAll_126 (by decide) ?_
      refine ih (j + 1) _ _ _ (by omega) (by omega) (hS.o hO) (hK.o hO) (fun q a b c => ?_) (fun q a b c => ?_)
      · rw [hO 108 (by decide)]; exact hk q a b c
      · rw [hO 108 (by decide)]
        by_cases q1 : q = p
        · rw [q1] at c ⊢; exact hd c
        · exact hj q a (by omega) c
    have hset : ∀ (M2 : ev_M) (y : Int), O9 M1 M2 → RM M2 → ¬ cyB v e p → gvn v e (fun q => M2 106 (16 * e + q)) p = gvn v e (Tv v e) p → Ev l none 7 kX8_settlesAll (0, 0) S0 M2 109 [some (vr 100), some (vi (e : Int)), some (vi w), some (vi (p : Int)), some (vi y)] [] Q := by
      intro M2 y hO hR hnc hg
      have hap := PR.sa hW he hP (hS.o hO) hp.2
      have hA2 := hO.ag hA1
      refine ev_aload_0 (q := 110) dX8_settlesAll_109 rfl ?_
      refine ev_iload_1 (q := 111) dX8_settlesAll_110 rfl ?_
      refine ev_iload_3 (q := 112) dX8_settlesAll_111 rfl ?_
      refine ev_iconst (q := 113) dX8_settlesAll_112 rfl ?_
      refine ev_callV3vR (q := 116) dX8_settlesAll_113 vs_RX8_127 (by first | assumption | rfl) (c_X8_settles (b := true) hA2 hW he hp.2 (gvn_rng hW hp.2 (fun q => hR _ _))) (by decide) (Nat.le_of_ble_eq_true rfl) rfl (fun M_113 hq_113 => ?_)
      obtain ⟨M3, o3, rfl⟩ := hq_113
      refine ev_aload_0 (q := 117) dX8_settlesAll_116 rfl ?_
      refine ev_getR (q := 120) dX8_settlesAll_117 fl_RX8_33 (by first | assumption | rfl) (by rfl) rfl ?_
      refine ev_iload_3 (q := 121) dX8_settlesAll_120 rfl ?_
      refine ev_iconst (q := 122) dX8_settlesAll_121 rfl ?_
      refine ev_bastore (q := 123) dX8_settlesAll_122 (by first | assumption | rfl) (by omega) (by first | decide | omega) (by constructor <;> omega) (by first | exact Or.inl rfl | exact Or.inr rfl | omega) rfl ?_
      rw [Int.toNat_natCast]
      refine ev_iinc_3 (q := 126) dX8_settlesAll_123 rfl (by decide) ?_
      refine ev_goto (q := 70) dX8_settlesAll_126 (by decide) ?_
      have hkc := KC.set (a := (if e = 0 then -1 else M2 106 (16 * (vpar v e).toNat + p))) (b := true) hW he hp.2 hp.1 hnc (hK.o hO) o3 hg hap ⟨fun _ => Or.inl hp.1, fun _ => rfl⟩
      have hmono : ∀ q, 8 ≤ q → q < 16 → M1 108 q = 1 → up (setM M3 e p (gvn v e (fun q => M2 106 (16 * e + q)) p) true (if e = 0 then -1 else M2 106 (16 * (vpar v e).toNat + p))) 108 p 1 108 q = 1 := fun q a b c => by
        by_cases q1 : q = p
        · exact if_pos ⟨rfl, q1⟩
        · rw [show up (setM M3 e p (gvn v e (fun q => M2 106 (16 * e + q)) p) true (if e = 0 then -1 else M2 106 (16 * (vpar v e).toNat + p))) 108 p 1 108 q = setM M3 e p (gvn v e (fun q => M2 106 (16 * e + q)) p) true (if e = 0 then -1 else M2 106 (16 * (vpar v e).toNat + p)) 108 q from if_neg (fun z => q1 z.2)]
          unfold setM
          rw [up_ne (show (108 : Nat) ≠ 106 by decide), up_ne (show (108 : Nat) ≠ 107 by decide), o3 108 (by decide), hO 108 (by decide)]
          exact c
      refine ih (j + 1) _ _ _ (by omega) (by omega) (((hS.o hO).o o3).set hp.2).k hkc (fun q a b c => hmono q a b (hk q a b c)) (fun q a b c => ?_)
      by_cases q1 : q = p
      · exact if_pos ⟨rfl, q1⟩
      · exact hmono q a (by omega) (hj q a (by omega) c)
    refine ev_iload_3 (q := 71) dX8_settlesAll_70 rfl ?_
    refine ev_bipush (q := 73) dX8_settlesAll_71 rfl (by decide) ?_
    refine ev_icmp_ge (t := 129) (q := 76) dX8_settlesAll_73 (by decide) rfl (by constructor <;> omega) (by constructor <;> omega) (fun h_73 => ?_) (fun h_73 => ?_)
    · omega
    · refine ev_aload_0 (q := 77) dX8_settlesAll_76 rfl ?_
      refine ev_iload_1 (q := 78) dX8_settlesAll_77 rfl ?_
      refine ev_iload_3 (q := 79) dX8_settlesAll_78 rfl ?_
      refine ev_callV2iR (q := 82) dX8_settlesAll_79 vs_RX8_121 (by first | assumption | rfl) (c_X8_leadsTo hA1 hW he (by omega)) (by decide) (Nat.le_of_ble_eq_true rfl) rfl (fun x_79 M_79 hq_79 h_79 => ?_)
      obtain ⟨rfl, o2⟩ := hq_79
      refine Ev_RM (fun hR => ?_)
      have hA2 := o2.ag hA1
      have hS2 := hS.o o2
      have hK2 := hK.o o2
      have hKp := hK2 p hp.1 hp.2
      generalize hy : ldV v e (p : Int) = y at *
      refine ev_istore_4 (q := 84) dX8_settlesAll_82 rfl (by decide) ?_
      refine ev_aload_0 (q := 85) dX8_settlesAll_84 rfl ?_
      refine ev_getR (q := 88) dX8_settlesAll_85 fl_RX8_33 (by first | assumption | rfl) (by rfl) rfl ?_
      refine ev_iload_3 (q := 89) dX8_settlesAll_88 rfl ?_
      refine ev_baload (q := 90) dX8_settlesAll_89 (by first | assumption | rfl) (by omega) (by first | decide | omega) rfl (fun h_89 => ?_)
      rw [Int.toNat_natCast] at h_89 ⊢
      refine ev_if_ne (t := 123) (q := 93) dX8_settlesAll_90 (by decide) rfl (by constructor <;> omega) (fun h_90 => ?_) (fun h_90 => ?_)
      · first
        | exact hskip _ _ o2 (fun c => absurd c (nokn hW hp.2 hk (by rcases hKp with z | z <;> first | omega | exact z.2) (by rw [hy]; exact h_96) (by rw [hy, ← o2 108 (by decide)]; exact h_106)))
        | (have hk1 : M_79 108 p = 1 := by
             rcases hKp with z | z
             · exact z.1
             · exact absurd z.1 h_90
           exact hskip _ _ o2 (fun _ => by rw [← o2 108 (by decide)]; exact hk1))
      · refine ev_iload_4 (q := 95) dX8_settlesAll_93 rfl ?_
        refine ev_iconst (q := 96) dX8_settlesAll_95 rfl ?_
        refine ev_icmp_eq (t := 109) (q := 99) dX8_settlesAll_96 (by decide) rfl (by constructor <;> omega) (by constructor <;> omega) (fun h_96 => ?_) (fun h_96 => ?_)
        · have hnc : ¬ cyB v e p := by rcases hKp with z | z <;> first | omega | exact z.2
          have hto : ldV v e (p : Int) = -1 ∨ M_79 108 (ldV v e (p : Int)).toNat = 1 := by
            rw [hy]
            first | exact Or.inl h_96 | (rcases hKy with z | z <;> first | exact Or.inr z.1 | omega)
          have hg := kn_eq hW hp.2 hK2 hto
          exact hset _ _ o2 hR hnc hg
        · refine ev_aload_0 (q := 100) dX8_settlesAll_99 rfl ?_
          refine ev_getR (q := 103) dX8_settlesAll_100 fl_RX8_33 (by first | assumption | rfl) (by rfl) rfl ?_
          refine ev_iload_4 (q := 105) dX8_settlesAll_103 rfl ?_
          refine ev_baload (q := 106) dX8_settlesAll_105 (by first | assumption | rfl) (by omega) (by first | decide | omega) rfl (fun h_105 => ?_)
          have hKy := hK2 y.toNat (by omega) (by omega)
          refine ev_if_eq (t := 123) (q := 109) dX8_settlesAll_106 (by decide) rfl (by constructor <;> omega) (fun h_106 => ?_) (fun h_106 => ?_)
          · first
            | exact hskip _ _ o2 (fun c => absurd c (nokn hW hp.2 hk (by rcases hKp with z | z <;> first | omega | exact z.2) (by rw [hy]; exact h_96) (by rw [hy, ← o2 108 (by decide)]; exact h_106)))
            | (have hk1 : M_79 108 p = 1 := by
                 rcases hKp with z | z
                 · exact z.1
                 · exact absurd z.1 h_90
               exact hskip _ _ o2 (fun _ => by rw [← o2 108 (by decide)]; exact hk1))
          · have hnc : ¬ cyB v e p := by rcases hKp with z | z <;> first | omega | exact z.2
            have hto : ldV v e (p : Int) = -1 ∨ M_79 108 (ldV v e (p : Int)).toNat = 1 := by
              rw [hy]
              first | exact Or.inl h_96 | (rcases hKy with z | z <;> first | exact Or.inr z.1 | omega)
            have hg := kn_eq hW hp.2 hK2 hto
            exact hset _ _ o2 hR hnc hg
set_option maxHeartbeats 2000000 in
theorem lp_s2 (hA : Ag (M 101) v) (hW : Wf v) (he : (e : Int) < vel v) (hP : PR v e M) (K : ∀ (M3 : ev_M) (w3 w4 : Option ev_V), SA e M M3 → (∀ q, 8 ≤ q → q < 16 → GE v e M3 q) → Ev l none 7 kX8_settlesAll (0, 0) S0 M3 135 [some (vr 100), some (vi (e : Int)), some (vi 8), w3, w4] [] Q) : ∀ (n k : Nat) (x : Int) (M1 : ev_M) (w3 w4 : Option ev_V), x = (k : Int) → k + n = 8 → SA e M M1 → KC v e M1 → (∀ q, 8 ≤ q → q < 16 → Dn v e k q → M1 108 q = 1) → Ev l none 7 kX8_settlesAll (0, 0) S0 M1 61 [some (vr 100), some (vi (e : Int)), some (vi x), w3, w4] [] Q := by
  have h1 := hW.1
  intro n
  induction n with
  | zero =>
    intro k x M1 w3 w4 hx hn hS hK hk
    have hk8 : k = 8 := by omega
    subst hk8
    refine ev_iload_2 (q := 62) dX8_settlesAll_61 rfl ?_
    refine ev_bipush (q := 64) dX8_settlesAll_62 rfl (by decide) ?_
    refine ev_icmp_ge (t := 135) (q := 67) dX8_settlesAll_64 (by decide) rfl (by constructor <;> omega) (by constructor <;> omega) (fun h_64 => ?_) (fun h_64 => ?_)
    · rw [hx]
      refine K M1 _ _ hS (fun q a b => ?_)
      have := hk q a b (Dn_all hW ⟨a, b⟩)
      rcases hK q a b with z | z
      · exact z.2
      · omega
    · omega
  | succ n ih =>
    intro k x M1 w3 w4 hx hn hS hK hk
    refine ev_iload_2 (q := 62) dX8_settlesAll_61 rfl ?_
    refine ev_bipush (q := 64) dX8_settlesAll_62 rfl (by decide) ?_
    refine ev_icmp_ge (t := 135) (q := 67) dX8_settlesAll_64 (by decide) rfl (by constructor <;> omega) (by constructor <;> omega) (fun h_64 => ?_) (fun h_64 => ?_)
    · omega
    · refine ev_bipush (q := 69) dX8_settlesAll_67 rfl (by decide) ?_
      refine ev_istore_3 (q := 70) dX8_settlesAll_69 rfl (by decide) ?_
      refine lp_s2i (k := k) hA hW he hP (fun M3 w5 a b c => ?_) 8 0 _ _ _ rfl rfl hS hK hk (fun q a b => by omega)
      refine ev_iinc_2 (q := 132) dX8_settlesAll_129 rfl (by decide) ?_
      refine ev_goto (q := 61) dX8_settlesAll_132 (by decide) ?_
      exact ih (k + 1) _ _ _ _ (by omega) (by omega) a b c
/-- plain properties: what the model gives, before and after none becomes 0 -/
theorem kn_pl {M1 : ev_M} {p : Nat} (h : Wf v) (hp : p < 8) (hG : ∀ q, 8 ≤ q → q < 16 → GE v e M1 q) : gvn v e (fun q => M1 106 (16 * e + q)) p = gvn v e (Tv v e) p := by
  refine gvn_congr ?_
  by_cases hw : winV v e p = -1
  · exact Or.inl hw
  · refine Or.inr ?_
    have hn := winV_ent h (e := e) (show p < 16 by omega) hw
    by_cases h0 : ven v (winV v e p).toNat p 0 = -1
    · refine Or.inr ?_
      have h8 := hn.2.1 h0
      have hr : 8 ≤ rf v e p ∧ rf v e p < 16 := by unfold rf; omega
      have := (hG _ hr.1 hr.2).1
      rw [nz8 hr.1] at this
      exact this
    · exact Or.inl h0
set_option maxHeartbeats 2000000 in
theorem lp_s3 (hA : Ag (M 101) v) (hW : Wf v) (he : (e : Int) < vel v) (hP : PR v e M) : ∀ (n j : Nat) (x : Int) (M1 : ev_M) (w3 w4 : Option ev_V), x = (j : Int) → j + n = 8 → SA e M M1 → (∀ q, 8 ≤ q → q < 16 → GE v e M1 q) → (∀ q, q < j → GE v e M1 q) → Ev l none 7 kX8_settlesAll (0, 0) S0 M1 137 [some (vr 100), some (vi (e : Int)), some (vi x), w3, w4] [] (QV S0 (fun M2 => SA e M M2 ∧ ∀ q, q < 16 → GE v e M2 q)) := by
  have h1 := hW.1
  intro n
  induction n with
  | zero =>
    intro j x M1 w3 w4 hx hn hS hG hj
    refine ev_iload_2 (q := 138) dX8_settlesAll_137 rfl ?_
    refine ev_bipush (q := 140) dX8_settlesAll_138 rfl (by decide) ?_
    refine ev_icmp_ge (t := 199) (q := 143) dX8_settlesAll_140 (by decide) rfl (by constructor <;> omega) (by constructor <;> omega) (fun h_140 => ?_) (fun h_140 => ?_)
    · refine ev_return dX8_settlesAll_199 rfl ?_
      exact ⟨rfl, rfl, hS, fun q hq => by
        by_cases q8 : 8 ≤ q
        · exact hG q q8 hq
        · exact hj q (by omega)⟩
    · omega
  | succ n ih =>
    intro j x M1 w3 w4 hx hn hS hG hj
    subst hx
    have hA1 := hS.ag hA
    have hj16 : j < 16 := by omega
    have ei : (16 * (e : Int) + (j : Int)).toNat = 16 * e + j := by omega
    have hg := kn_pl (p := j) hW (by omega) hG
    have hap := PR.sa hW he hP hS hj16
    have hnc : ¬ cyB v e j := fun z => by omega
    have hfin : ∀ (M2 : ev_M) (y : Int), (∃ M3, O9 M1 M3 ∧ M2 = setM M3 e j (gvn v e (fun q => M1 106 (16 * e + q)) j) (decide (j % 2 = 0)) (if e = 0 then -1 else M1 106 (16 * (vpar v e).toNat + j))) → y = (if M2 106 (16 * e + j) = -1 then 0 else M2 106 (16 * e + j)) → Ev l none 7 kX8_settlesAll (0, 0) S0 (up M2 106 (16 * e + j) y) 193 [some (vr 100), some (vi (e : Int)), some (vi (j : Int)), some (vi (16 * (e : Int) + (j : Int))), w4] [] (QV S0 (fun M2 => SA e M M2 ∧ ∀ q, q < 16 → GE v e M2 q)) := by
      intro M2 y hM hy
      obtain ⟨M3, o3, rfl⟩ := hM
      have hs := set_good hW he hj16 hnc (M3 := M3) hg hap (by rw [decide_eq_true_iff]; exact ⟨Or.inr, fun z => z.elim (fun w => by omega) id⟩) (b := decide (j % 2 = 0))
      generalize hz : setM M3 e j (gvn v e (fun q => M1 106 (16 * e + q)) j) (decide (j % 2 = 0)) (if e = 0 then -1 else M1 106 (16 * (vpar v e).toNat + j)) = Z at *
      have hS2 : SA e M Z := by rw [← hz]; exact (hS.o o3).set hj16
      have hne : ∀ q, q ≠ j → Z 106 (16 * e + q) = M1 106 (16 * e + q) ∧ Z 107 (16 * e + q) = M1 107 (16 * e + q) := fun q hq => by
        rw [← hz, (setM_ne hq).1, (setM_ne hq).2, o3 106 (by decide), o3 107 (by decide)]
        exact ⟨rfl, rfl⟩
      have hpres : ∀ q, q ≠ j → GE v e M1 q → GE v e (up Z 106 (16 * e + j) y) q := fun q hq hge => by
        unfold GE at hge ⊢
        rw [show up Z 106 (16 * e + j) y 106 (16 * e + q) = Z 106 (16 * e + q) from if_neg (fun z => hq (by have := z.2; omega)), up_ne (show (107 : Nat) ≠ 106 by decide), (hne q hq).1, (hne q hq).2]
        exact hge
      have hown : GE v e (up Z 106 (16 * e + j) y) j := by
        refine ⟨?_, ?_⟩
        · rw [show up Z 106 (16 * e + j) y 106 (16 * e + j) = y from if_pos ⟨rfl, rfl⟩, hy, ← hs.1]
          unfold nz
          by_cases z : Z 106 (16 * e + j) = -1
          · rw [if_pos z, if_pos ⟨by omega, z⟩]
          · rw [if_neg z, if_neg (fun w => z w.2)]
        · rw [up_ne (show (107 : Nat) ≠ 106 by decide)]; exact hs.2
      refine ev_iinc_2 (q := 196) dX8_settlesAll_193 rfl (by decide) ?_
      refine ev_goto (q := 137) dX8_settlesAll_196 (by decide) ?_
      exact ih (j + 1) _ _ _ _ (by omega) (by omega) (hS2.vv hj16) (fun q a b => hpres q (by omega) (hG q a b)) (fun q hq => by
        by_cases z : q = j
        · rw [z]; exact hown
        · exact hpres q z (hj q (by omega)))
    refine Ev_RM (fun hR => ?_)
    refine ev_iload_2 (q := 138) dX8_settlesAll_137 rfl ?_
    refine ev_bipush (q := 140) dX8_settlesAll_138 rfl (by decide) ?_
    refine ev_icmp_ge (t := 199) (q := 143) dX8_settlesAll_140 (by decide) rfl (by constructor <;> omega) (by constructor <;> omega) (fun h_140 => ?_) (fun h_140 => ?_)
    · refine ev_return dX8_settlesAll_199 rfl ?_
      omega
    · refine ev_aload_0 (q := 144) dX8_settlesAll_143 rfl ?_
      refine ev_iload_1 (q := 145) dX8_settlesAll_144 rfl ?_
      refine ev_iload_2 (q := 146) dX8_settlesAll_145 rfl ?_
      refine ev_iload_2 (q := 147) dX8_settlesAll_146 rfl ?_
      refine ev_iconst (q := 148) dX8_settlesAll_147 rfl ?_
      refine ev_irem (q := 149) dX8_settlesAll_148 rfl (by constructor <;> omega) ?_
      refine ev_if_ne (t := 156) (q := 152) dX8_settlesAll_149 (by decide) rfl (by constructor <;> omega) (fun h_149 => ?_) (fun h_149 => ?_)
      · refine ev_iconst (q := 157) dX8_settlesAll_156 rfl ?_
        first
        | rw [show vi 1 = vi (b01 (decide (j % 2 = 0))) by rw [decide_eq_true (by omega)]; rfl]
        | rw [show vi 0 = vi (b01 (decide (j % 2 = 0))) by rw [decide_eq_false (by omega)]; rfl]
        refine ev_callV3vR (q := 160) dX8_settlesAll_157 vs_RX8_127 (by first | assumption | rfl) (c_X8_settles (b := decide (j % 2 = 0)) hA1 hW he hj16 (gvn_rng hW hj16 (fun q => hR _ _))) (by decide) (Nat.le_of_ble_eq_true rfl) rfl (fun M_157 hq_157 => ?_)
        refine ev_bipush (q := 162) dX8_settlesAll_160 rfl (by decide) ?_
        refine ev_iload_1 (q := 163) dX8_settlesAll_162 rfl ?_
        refine ev_imul (q := 164) dX8_settlesAll_163 rfl ?_
        refine ev_iload_2 (q := 165) dX8_settlesAll_164 rfl ?_
        refine ev_iadd (q := 166) dX8_settlesAll_165 rfl ?_
        refine ev_istore_3 (q := 167) dX8_settlesAll_166 rfl (by decide) ?_
        refine ev_aload_0 (q := 168) dX8_settlesAll_167 rfl ?_
        refine ev_getR (q := 171) dX8_settlesAll_168 fl_RX8_26 (by first | assumption | rfl) (by rfl) rfl ?_
        refine ev_iload_3 (q := 172) dX8_settlesAll_171 rfl ?_
        refine ev_aload_0 (q := 173) dX8_settlesAll_172 rfl ?_
        refine ev_getR (q := 176) dX8_settlesAll_173 fl_RX8_26 (by first | assumption | rfl) (by rfl) rfl ?_
        refine ev_iload_3 (q := 177) dX8_settlesAll_176 rfl ?_
        refine ev_iaload (q := 178) dX8_settlesAll_177 (by first | assumption | rfl) (by omega) (by first | decide | omega) rfl (fun h_177 => ?_)
        rw [ei] at h_177 ⊢
        refine ev_iconst (q := 179) dX8_settlesAll_178 rfl ?_
        refine ev_icmp_ne (t := 186) (q := 182) dX8_settlesAll_179 (by decide) rfl (by constructor <;> omega) (by constructor <;> omega) (fun h_179 => ?_) (fun h_179 => ?_)
        · refine ev_aload_0 (q := 187) dX8_settlesAll_186 rfl ?_
          refine ev_getR (q := 190) dX8_settlesAll_187 fl_RX8_26 (by first | assumption | rfl) (by rfl) rfl ?_
          refine ev_iload_3 (q := 191) dX8_settlesAll_190 rfl ?_
          refine ev_iaload (q := 192) dX8_settlesAll_191 (by first | assumption | rfl) (by omega) (by first | decide | omega) rfl (fun h_191 => ?_)
          first | rw [ei] at h_191 ⊢ | skip
          refine ev_iastore (q := 193) dX8_settlesAll_192 (by first | assumption | rfl) (by omega) (by first | decide | omega) (by constructor <;> omega) rfl ?_
          rw [ei]
          exact hfin _ _ hq_157 (by first | rw [if_pos h_179] | rw [if_neg h_179])
        · refine ev_iconst (q := 183) dX8_settlesAll_182 rfl ?_
          refine ev_goto (q := 192) dX8_settlesAll_183 (by decide) ?_
          first | rw [ei] at h_191 ⊢ | skip
          refine ev_iastore (q := 193) dX8_settlesAll_192 (by first | assumption | rfl) (by omega) (by first | decide | omega) (by constructor <;> omega) rfl ?_
          rw [ei]
          exact hfin _ _ hq_157 (by first | rw [if_pos h_179] | rw [if_neg h_179])
      · refine ev_iconst (q := 153) dX8_settlesAll_152 rfl ?_
        refine ev_goto (q := 157) dX8_settlesAll_153 (by decide) ?_
        first
        | rw [show vi 1 = vi (b01 (decide (j % 2 = 0))) by rw [decide_eq_true (by omega)]; rfl]
        | rw [show vi 0 = vi (b01 (decide (j % 2 = 0))) by rw [decide_eq_false (by omega)]; rfl]
        refine ev_callV3vR (q := 160) dX8_settlesAll_157 vs_RX8_127 (by first | assumption | rfl) (c_X8_settles (b := decide (j % 2 = 0)) hA1 hW he hj16 (gvn_rng hW hj16 (fun q => hR _ _))) (by decide) (Nat.le_of_ble_eq_true rfl) rfl (fun M_157 hq_157 => ?_)
        refine ev_bipush (q := 162) dX8_settlesAll_160 rfl (by decide) ?_
        refine ev_iload_1 (q := 163) dX8_settlesAll_162 rfl ?_
        refine ev_imul (q := 164) dX8_settlesAll_163 rfl ?_
        refine ev_iload_2 (q := 165) dX8_settlesAll_164 rfl ?_
        refine ev_iadd (q := 166) dX8_settlesAll_165 rfl ?_
        refine ev_istore_3 (q := 167) dX8_settlesAll_166 rfl (by decide) ?_
        refine ev_aload_0 (q := 168) dX8_settlesAll_167 rfl ?_
        refine ev_getR (q := 171) dX8_settlesAll_168 fl_RX8_26 (by first | assumption | rfl) (by rfl) rfl ?_
        refine ev_iload_3 (q := 172) dX8_settlesAll_171 rfl ?_
        refine ev_aload_0 (q := 173) dX8_settlesAll_172 rfl ?_
        refine ev_getR (q := 176) dX8_settlesAll_173 fl_RX8_26 (by first | assumption | rfl) (by rfl) rfl ?_
        refine ev_iload_3 (q := 177) dX8_settlesAll_176 rfl ?_
        refine ev_iaload (q := 178) dX8_settlesAll_177 (by first | assumption | rfl) (by omega) (by first | decide | omega) rfl (fun h_177 => ?_)
        rw [ei] at h_177 ⊢
        refine ev_iconst (q := 179) dX8_settlesAll_178 rfl ?_
        refine ev_icmp_ne (t := 186) (q := 182) dX8_settlesAll_179 (by decide) rfl (by constructor <;> omega) (by constructor <;> omega) (fun h_179 => ?_) (fun h_179 => ?_)
        · refine ev_aload_0 (q := 187) dX8_settlesAll_186 rfl ?_
          refine ev_getR (q := 190) dX8_settlesAll_187 fl_RX8_26 (by first | assumption | rfl) (by rfl) rfl ?_
          refine ev_iload_3 (q := 191) dX8_settlesAll_190 rfl ?_
          refine ev_iaload (q := 192) dX8_settlesAll_191 (by first | assumption | rfl) (by omega) (by first | decide | omega) rfl (fun h_191 => ?_)
          first | rw [ei] at h_191 ⊢ | skip
          refine ev_iastore (q := 193) dX8_settlesAll_192 (by first | assumption | rfl) (by omega) (by first | decide | omega) (by constructor <;> omega) rfl ?_
          rw [ei]
          exact hfin _ _ hq_157 (by first | rw [if_pos h_179] | rw [if_neg h_179])
        · refine ev_iconst (q := 183) dX8_settlesAll_182 rfl ?_
          refine ev_goto (q := 192) dX8_settlesAll_183 (by decide) ?_
          first | rw [ei] at h_191 ⊢ | skip
          refine ev_iastore (q := 193) dX8_settlesAll_192 (by first | assumption | rfl) (by omega) (by first | decide | omega) (by constructor <;> omega) rfl ?_
          rw [ei]
          exact hfin _ _ hq_157 (by first | rw [if_pos h_179] | rw [if_neg h_179])
end SettAll2

