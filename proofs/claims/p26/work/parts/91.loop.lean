section Loop
variable {l : Launch} {L : Nat} {xs : Nat → Int}
set_option maxHeartbeats 4000000 in
theorem L_loop (hL : L ≤ 260) : ∀ (n : Nat) (M : ev_M) (v : Vw) (k : Int) (w4 w5 w6 w7 w8 w9 w10 : Option ev_V), J v [] M → 0 ≤ k → k + n = 36 → Ev l (some (L, xs)) 10 kL_law (0, 0) S0 M 15 [some vs, some (vr 0), some (vi 1), some (vi k), w4, w5, w6, w7, w8, w9, w10] [] QL := by
  intro n
  induction n with
  | zero =>
    intro M v k w4 w5 w6 w7 w8 w9 w10 h h0 hk
    refine ev_iload_3 (q := 16) dL_law_15 rfl ?_
    refine ev_bipush (q := 18) dL_law_16 rfl (by decide) ?_
    refine ev_icmp_ge (t := 558) (q := 21) dL_law_18 (by decide) rfl (by constructor <;> omega) (by constructor <;> omega) (fun h_18 => ?_) (fun h_18 => ?_)
    · refine ev_iload_2 (q := 559) dL_law_558 rfl ?_
      refine ev_if_eq (t := 573) (q := 562) dL_law_559 (by decide) rfl (by constructor <;> omega) (fun h_559 => ?_) (fun h_559 => ?_)
      · exact absurd h_559 (by omega)
      · refine ev_aload_1 (q := 563) dL_law_562 rfl ?_
        refine ev_callS1iR (q := 566) dL_law_563 ss_RL_59 (c_L_holds h) (by decide) (Nat.le_of_ble_eq_true rfl) rfl (fun x_563 M_563 hq_563 h_563 => ?_)
        obtain ⟨e_563, h2⟩ := hq_563
        refine ev_if_eq (t := 573) (q := 569) dL_law_566 (by decide) rfl (by constructor <;> omega) (fun h_566 => ?_) (fun h_566 => ?_)
        · exact absurd h_566 (by omega)
        · refine ev_iconst (q := 570) dL_law_569 rfl ?_
          refine ev_goto (q := 574) dL_law_570 (by decide) ?_
          refine ev_ireturn dL_law_574 rfl (by first | rfl | decide | (split <;> rfl) | (split <;> decide)) (by constructor <;> omega) ?_
          rfl
    · exact absurd h_18 (by omega)
  | succ n ih =>
    intro M v k w4 w5 w6 w7 w8 w9 w10 h h0 hk
    have hk2 : 0 ≤ k ∧ k < 36 := by omega
    have hW := h.wf
    have hb := hW.1
    have hb2 := hW.2.1
    have K : KN l L xs k := fun M2 v2 a4 a5 a6 a7 a8 a9 a10 h2 => ih M2 v2 (k + 1) a4 a5 a6 a7 a8 a9 a10 h2 (by omega) (by omega)
    refine ev_iload_3 (q := 16) dL_law_15 rfl ?_
    refine ev_bipush (q := 18) dL_law_16 rfl (by decide) ?_
    refine ev_icmp_ge (t := 558) (q := 21) dL_law_18 (by decide) rfl (by constructor <;> omega) (by constructor <;> omega) (fun h_18 => ?_) (fun h_18 => ?_)
    · exact absurd h_18 (by omega)
    · refine ev_iload_2 (q := 22) dL_law_21 rfl ?_
      refine ev_if_eq (t := 558) (q := 25) dL_law_22 (by decide) rfl (by constructor <;> omega) (fun h_22 => ?_) (fun h_22 => ?_)
      · exact absurd h_22 (by omega)
      · refine ev_aload_0 (q := 26) dL_law_25 rfl ?_
        refine ev_iload_3 (q := 27) dL_law_26 rfl ?_
        refine ev_callSX (b2 := (0, 0)) (st := []) (q := 30) rfl dL_law_27 ss_RL_63 (c_L_cell (M := M) hL hk2) (by decide) rfl rfl (by decide) rfl rfl (fun v0 S1 M1 hq hv0 => ?_)
        obtain ⟨y, rfl, rfl, rfl, hy0⟩ := hq
        have hyr := hv0 y rfl
        refine ev_istore_4 (q := 32) dL_law_30 rfl (by decide) ?_
        refine ev_iload_4 (q := 34) dL_law_32 rfl ?_
        refine ev_bipush (q := 36) dL_law_34 rfl (by decide) ?_
        refine ev_idiv (q := 37) dL_law_36 rfl ⟨by constructor <;> omega, by constructor <;> omega, by omega, by omega⟩ ?_
        have hz : 0 ≤ y / 8 ∧ y / 8 < 268435456 := by omega
        refine ev_istore_5 (q := 39) dL_law_37 rfl (by decide) ?_
        refine ev_aload_1 (q := 40) dL_law_39 rfl ?_
        refine ev_iconst (q := 41) dL_law_40 rfl ?_
        refine ev_callV1iR (q := 44) dL_law_41 vs_RL_27 (by first | assumption | rfl) (w_count0 h) (by decide) (Nat.le_of_ble_eq_true rfl) rfl (fun x_41 M_41 hq_41 h_41 => ?_)
        obtain ⟨e_41, h2⟩ := hq_41
        subst e_41
        refine ev_istore_6 (q := 46) dL_law_44 rfl (by decide) ?_
        refine ev_aload_1 (q := 47) dL_law_46 rfl ?_
        refine ev_iconst (q := 48) dL_law_47 rfl ?_
        refine ev_callV1iR (q := 51) dL_law_48 vs_RL_27 (by first | assumption | rfl) (w_count1 h2) (by decide) (Nat.le_of_ble_eq_true rfl) rfl (fun x_48 M_48 hq_48 h_48 => ?_)
        obtain ⟨e_48, h3⟩ := hq_48
        subst e_48
        refine ev_istore_7 (q := 53) dL_law_51 rfl (by decide) ?_
        refine ev_iload_4 (q := 55) dL_law_53 rfl ?_
        refine ev_bipush (q := 57) dL_law_55 rfl (by decide) ?_
        refine ev_irem (q := 58) dL_law_57 rfl ⟨by constructor <;> omega, by constructor <;> omega, by omega, by omega⟩ ?_
        by_cases g_58 : y % 8 < 0 ∨ 6 < y % 8
        · refine ev_tableOut (t := 430) dL_law_58 (by constructor <;> omega) g_58 (by decide) ?_
          exact L_c7 hk2 hz K h3
        · have g2_58 : y % 8 = 0 ∨ y % 8 = 1 ∨ y % 8 = 2 ∨ y % 8 = 3 ∨ y % 8 = 4 ∨ y % 8 = 5 ∨ y % 8 = 6 := by omega
          rcases g2_58 with g_58 | g_58 | g_58 | g_58 | g_58 | g_58 | g_58
          · refine ev_tableIn (t := 100) dL_law_58 (by constructor <;> omega) (by omega) (by omega) (by rw [g_58]; rfl) (by decide) ?_
            exact L_c0 hk2 hz K h3
          · refine ev_tableIn (t := 145) dL_law_58 (by constructor <;> omega) (by omega) (by omega) (by rw [g_58]; rfl) (by decide) ?_
            exact L_c1 hk2 hz K h3
          · refine ev_tableIn (t := 145) dL_law_58 (by constructor <;> omega) (by omega) (by omega) (by rw [g_58]; rfl) (by decide) ?_
            exact L_c1 hk2 hz K h3
          · refine ev_tableIn (t := 256) dL_law_58 (by constructor <;> omega) (by omega) (by omega) (by rw [g_58]; rfl) (by decide) ?_
            exact L_c3 hk2 hz K h3
          · refine ev_tableIn (t := 301) dL_law_58 (by constructor <;> omega) (by omega) (by omega) (by rw [g_58]; rfl) (by decide) ?_
            exact L_c4 hk2 hz K h3
          · refine ev_tableIn (t := 301) dL_law_58 (by constructor <;> omega) (by omega) (by omega) (by rw [g_58]; rfl) (by decide) ?_
            exact L_c4 hk2 hz K h3
          · refine ev_tableIn (t := 373) dL_law_58 (by constructor <;> omega) (by omega) (by omega) (by rw [g_58]; rfl) (by decide) ?_
            exact L_c6 hk2 hz K h3
end Loop

