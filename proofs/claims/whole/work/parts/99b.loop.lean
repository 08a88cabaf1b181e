section Loop
variable {l : Launch} {L : Nat} {xs : Nat → Int} {b : Nat × Nat}
abbrev QL : Option ev_V → List ev_Sh → ev_M → Prop := fun v _ _ => v = some (vi 1)
set_option maxHeartbeats 4000000 in
theorem L_loop (hL : L ≤ 3584) (hxs : ∀ j, inR (xs j)) : ∀ (n : Nat) (M : ev_M) (i : Int), Rel M → 0 ≤ i → i ≤ 3584 → (L : Int) ≤ i + n → Ev l (some (L, xs)) 12 kL_law b S0 M 18 (ls_L i) [] QL := by
  intro n
  induction n with
  | zero =>
    intro M i h h0 h1 h2
    refine ev_iload_3 (q := 19) dL_law_18 rfl ?_
    refine ev_aload_0 (q := 20) dL_law_19 rfl ?_
    refine ev_slen (q := 21) rfl dL_law_20 rfl ?_
    refine ev_bipush (q := 23) dL_law_21 rfl (by decide) ?_
    refine ev_isub (q := 24) dL_law_23 rfl ?_
    refine ev_icmp_gt (t := 897) (q := 27) dL_law_24 (by decide) rfl (by constructor <;> omega) (by constructor <;> omega) (fun h_24 => ?_) (fun h_24 => absurd h_24 (by omega))
    refine ev_iconst (q := 898) dL_law_897 rfl ?_
    exact ev_ireturn dL_law_898 rfl rfl (by constructor <;> omega) rfl
  | succ n ih =>
    intro M i h h0 h1 h2
    refine ev_iload_3 (q := 19) dL_law_18 rfl ?_
    refine ev_aload_0 (q := 20) dL_law_19 rfl ?_
    refine ev_slen (q := 21) rfl dL_law_20 rfl ?_
    refine ev_bipush (q := 23) dL_law_21 rfl (by decide) ?_
    refine ev_isub (q := 24) dL_law_23 rfl ?_
    refine ev_icmp_gt (t := 897) (q := 27) dL_law_24 (by decide) rfl (by constructor <;> omega) (by constructor <;> omega) (fun h_24 => ?_) (fun h_24 => ?_)
    · refine ev_iconst (q := 898) dL_law_897 rfl ?_
      exact ev_ireturn dL_law_898 rfl rfl (by constructor <;> omega) rfl
    · have hi : 0 ≤ i ∧ i + 7 ≤ (L : Int) := by omega
      have K : ∀ M2, Rel M2 → Ev l (some (L, xs)) 12 kL_law b S0 M2 891 (ls_L i) [] QL := fun M2 h2' => by
        refine ev_iinc_3 (q := 894) dL_law_891 rfl (by decide) ?_
        refine ev_goto (q := 18) dL_law_894 (by decide) ?_
        exact ih M2 (i + 7) h2' (by omega) (by omega) (by omega)
      refine ev_aload_0 (q := 28) dL_law_27 rfl ?_
      refine ev_iload_3 (q := 29) dL_law_28 rfl ?_
      refine ev_sld (q := 30) rfl dL_law_29 (by omega) (by omega) rfl ?_
      refine ev_bipush (q := 32) dL_law_30 rfl (by decide) ?_
      refine ev_iand (q := 33) dL_law_32 rfl ?_
      have r1 := (Int32.ofInt (xs i.toNat) &&& Int32.ofInt 31).toInt_lt
      have r2 := (Int32.ofInt (xs i.toNat) &&& Int32.ofInt 31).le_toInt
      generalize (Int32.ofInt (xs i.toNat) &&& Int32.ofInt 31).toInt = z at r1 r2 ⊢
      have rz : inR z := by constructor <;> omega
      by_cases g : z < 0 ∨ 22 < z
      · exact ev_tableOut (t := 891) dL_law_33 rz g (by decide) (K M h)
      · have g2 : z = 0 ∨ z = 1 ∨ z = 2 ∨ z = 3 ∨ z = 4 ∨ z = 5 ∨ z = 6 ∨ z = 7 ∨ z = 8 ∨ z = 9 ∨ z = 10 ∨ z = 11 ∨ z = 12 ∨ z = 13 ∨ z = 14 ∨ z = 15 ∨ z = 16 ∨ z = 17 ∨ z = 18 ∨ z = 19 ∨ z = 20 ∨ z = 21 ∨ z = 22 := by omega
        rcases g2 with rfl | rfl | rfl | rfl | rfl | rfl | rfl | rfl | rfl | rfl | rfl | rfl | rfl | rfl | rfl | rfl | rfl | rfl | rfl | rfl | rfl | rfl | rfl
        · exact ev_tableIn (t := 140) dL_law_33 rz (by decide) (by decide) rfl (by decide) (L_add hL hxs hi h K)
        · exact ev_tableIn (t := 183) dL_law_33 rz (by decide) (by decide) rfl (by decide) (L_remove hL hxs hi h K)
        · exact ev_tableIn (t := 196) dL_law_33 rz (by decide) (by decide) rfl (by decide) (L_dress hL hxs hi h K)
        · exact ev_tableIn (t := 239) dL_law_33 rz (by decide) (by decide) rfl (by decide) (L_element hL hxs hi h K)
        · exact ev_tableIn (t := 272) dL_law_33 rz (by decide) (by decide) rfl (by decide) (L_count hL hxs hi h K)
        · exact ev_tableIn (t := 295) dL_law_33 rz (by decide) (by decide) rfl (by decide) (L_undo hL hxs hi h K)
        · exact ev_tableIn (t := 308) dL_law_33 rz (by decide) (by decide) rfl (by decide) (L_rule hL hxs hi h K)
        · exact ev_tableIn (t := 383) dL_law_33 rz (by decide) (by decide) rfl (by decide) (L_drop hL hxs hi h K)
        · exact ev_tableIn (t := 406) dL_law_33 rz (by decide) (by decide) rfl (by decide) (L_declare hL hxs hi h K)
        · exact ev_tableIn (t := 449) dL_law_33 rz (by decide) (by decide) rfl (by decide) (L_refer hL hxs hi h K)
        · exact ev_tableIn (t := 502) dL_law_33 rz (by decide) (by decide) rfl (by decide) (L_undeclare hL hxs hi h K)
        · exact ev_tableIn (t := 535) dL_law_33 rz (by decide) (by decide) rfl (by decide) (L_ruleOf hL hxs hi h K)
        · exact ev_tableIn (t := 568) dL_law_33 rz (by decide) (by decide) rfl (by decide) (L_declared hL hxs hi h K)
        · exact ev_tableIn (t := 611) dL_law_33 rz (by decide) (by decide) rfl (by decide) (L_matches hL hxs hi h K)
        · exact ev_tableIn (t := 644) dL_law_33 rz (by decide) (by decide) rfl (by decide) (L_value hL hxs hi h K)
        · exact ev_tableIn (t := 677) dL_law_33 rz (by decide) (by decide) rfl (by decide) (L_winner hL hxs hi h K)
        · exact ev_tableIn (t := 710) dL_law_33 rz (by decide) (by decide) rfl (by decide) (L_why hL hxs hi h K)
        · exact ev_tableIn (t := 763) dL_law_33 rz (by decide) (by decide) rfl (by decide) (L_from hL hxs hi h K)
        · exact ev_tableIn (t := 796) dL_law_33 rz (by decide) (by decide) rfl (by decide) (L_cycle hL hxs hi h K)
        · exact ev_tableIn (t := 829) dL_law_33 rz (by decide) (by decide) rfl (by decide) (L_type hL hxs hi h K)
        · exact ev_tableIn (t := 852) dL_law_33 rz (by decide) (by decide) rfl (by decide) (L_clearText hL hxs hi h K)
        · exact ev_tableIn (t := 865) dL_law_33 rz (by decide) (by decide) rfl (by decide) (L_fault hL hxs hi h K)
        · exact ev_tableIn (t := 878) dL_law_33 rz (by decide) (by decide) rfl (by decide) (L_read hL hxs hi h K)
end Loop

