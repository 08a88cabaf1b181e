section EvRules
variable {l : Launch} {X : Option (Nat × (Nat → Int))} {d : Nat} {k : ev_K} {b : Nat × Nat} {S : List ev_Sh} {M : ev_M} {pc q : Nat} {ls tl : List (Option ev_V)} {st : List ev_V} {Q : Option ev_V → List ev_Sh → ev_M → Prop}

theorem ev_iconst {n : Int} (hd : decode k.1 pc = .ok (.iconst n, 1)) (hq : pc + 1 = q) (K : Ev l X d k b S M q ls (vi n :: st) Q) : Ev l X d k b S M pc ls st Q := by
  intro hR p e R s m args below meth c G ca sb o hC H locs cells slots lsr hW h1 h2 hL
  obtain ⟨hx, hb, hr, hlk, hml, hown, hts, hex, hin, hf, hlo, hK, hos, hX⟩ := id hC
  subst hq
  exact lv_iconst hx hb hd rfl (K hR p e R s m args below meth c G ca sb o hC H locs cells slots lsr hW h1 h2 hL)
theorem ev_bipush {n : Int} (hd : decode k.1 pc = .ok (.bipush n, 2)) (hq : pc + 2 = q) (hn : -128 ≤ n ∧ n < 128) (K : Ev l X d k b S M q ls (vi n :: st) Q) : Ev l X d k b S M pc ls st Q := by
  intro hR p e R s m args below meth c G ca sb o hC H locs cells slots lsr hW h1 h2 hL
  obtain ⟨hx, hb, hr, hlk, hml, hown, hts, hex, hin, hf, hlo, hK, hos, hX⟩ := id hC
  subst hq
  exact lv_bipush hx hb hd (Int8.toInt32_ofInt (by rw [show Int8.minValue.toInt = -128 from rfl]; omega) (by rw [show Int8.maxValue.toInt = 127 from rfl]; omega)) (K hR p e R s m args below meth c G ca sb o hC H locs cells slots lsr hW h1 h2 hL)
theorem ev_sipush {n : Int} (hd : decode k.1 pc = .ok (.sipush n, 3)) (hq : pc + 3 = q) (hn : -32768 ≤ n ∧ n < 32768) (K : Ev l X d k b S M q ls (vi n :: st) Q) : Ev l X d k b S M pc ls st Q := by
  intro hR p e R s m args below meth c G ca sb o hC H locs cells slots lsr hW h1 h2 hL
  obtain ⟨hx, hb, hr, hlk, hml, hown, hts, hex, hin, hf, hlo, hK, hos, hX⟩ := id hC
  subst hq
  exact lv_sipush hx hb hd (Int16.toInt32_ofInt (by rw [show Int16.minValue.toInt = -32768 from rfl]; omega) (by rw [show Int16.maxValue.toInt = 32767 from rfl]; omega)) (K hR p e R s m args below meth c G ca sb o hC H locs cells slots lsr hW h1 h2 hL)
theorem ev_ldc {n : Int} {v : Int32} {idx : Nat} (hd : decode k.1 pc = .ok (.ldc idx, 2)) (hq : pc + 2 = q) (hw : Cond.constant k.2.1 idx v ∈ ev_T) (hv : v = Int32.ofInt n) (K : Ev l X d k b S M q ls (vi n :: st) Q) : Ev l X d k b S M pc ls st Q := by
  intro hR p e R s m args below meth c G ca sb o hC H locs cells slots lsr hW h1 h2 hL
  obtain ⟨hx, hb, hr, hlk, hml, hown, hts, hex, hin, hf, hlo, hK, hos, hX⟩ := id hC
  subst hq
  subst hv
  exact lv_ldc hx hb hown (hts _ hw) hd (K hR p e R s m args below meth c G ca sb o hC H locs cells slots lsr hW h1 h2 hL)
theorem ev_ldcw {n : Int} {v : Int32} {idx : Nat} (hd : decode k.1 pc = .ok (.ldc_w idx, 3)) (hq : pc + 3 = q) (hw : Cond.constant k.2.1 idx v ∈ ev_T) (hv : v = Int32.ofInt n) (K : Ev l X d k b S M q ls (vi n :: st) Q) : Ev l X d k b S M pc ls st Q := by
  intro hR p e R s m args below meth c G ca sb o hC H locs cells slots lsr hW h1 h2 hL
  obtain ⟨hx, hb, hr, hlk, hml, hown, hts, hex, hin, hf, hlo, hK, hos, hX⟩ := id hC
  subst hq
  subst hv
  exact lv_ldcw hx hb hown (hts _ hw) hd (K hR p e R s m args below meth c G ca sb o hC H locs cells slots lsr hW h1 h2 hL)
theorem ev_null (hd : decode k.1 pc = .ok (.aconst_null, 1)) (hq : pc + 1 = q) (K : Ev l X d k b S M q ls (vn :: st) Q) : Ev l X d k b S M pc ls st Q := by
  intro hR p e R s m args below meth c G ca sb o hC H locs cells slots lsr hW h1 h2 hL
  obtain ⟨hx, hb, hr, hlk, hml, hown, hts, hex, hin, hf, hlo, hK, hos, hX⟩ := id hC
  subst hq
  exact lv_null hx hb hd (K hR p e R s m args below meth c G ca sb o hC H locs cells slots lsr hW h1 h2 hL)

theorem ev_iload_g {i : Nat} {x : Int} (hd : (∃ j : Fin 4, (j : Nat) = i ∧ decode k.1 pc = .ok (.iload_n j, 1) ∧ pc + 1 = q) ∨ (decode k.1 pc = .ok (.iload i, 2) ∧ pc + 2 = q)) (hl : ls[i]? = some (some (vi x))) (K : Ev l X d k b S M q ls (vi x :: st) Q) : Ev l X d k b S M pc ls st Q := by
  intro hR p e R s m args below meth c G ca sb o hC H locs cells slots lsr hW h1 h2 hL
  obtain ⟨hx, hb, hr, hlk, hml, hown, hts, hex, hin, hf, hlo, hK, hos, hX⟩ := id hC
  have hv := hL.2.2 i _ hl
  rcases hd with ⟨j, hj, hd, hq⟩ | ⟨hd, hq⟩ <;> subst hq
  · exact lv_iload_n hx hb hd hj hv (K hR p e R s m args below meth c G ca sb o hC H locs cells slots lsr hW h1 h2 hL)
  · exact lv_iload hx hb hd hv (K hR p e R s m args below meth c G ca sb o hC H locs cells slots lsr hW h1 h2 hL)
theorem ev_aload_g {i : Nat} {r : Option (Option Nat)} (hd : (∃ j : Fin 4, (j : Nat) = i ∧ decode k.1 pc = .ok (.aload_n j, 1) ∧ pc + 1 = q) ∨ (decode k.1 pc = .ok (.aload i, 2) ∧ pc + 2 = q)) (hl : ls[i]? = some (some (.inr r))) (K : Ev l X d k b S M q ls (.inr r :: st) Q) : Ev l X d k b S M pc ls st Q := by
  intro hR p e R s m args below meth c G ca sb o hC H locs cells slots lsr hW h1 h2 hL
  obtain ⟨hx, hb, hr, hlk, hml, hown, hts, hex, hin, hf, hlo, hK, hos, hX⟩ := id hC
  have hv := hL.2.2 i _ hl
  rcases hd with ⟨j, hj, hd, hq⟩ | ⟨hd, hq⟩ <;> subst hq <;> rcases r with _ | r
  · exact lv_aload_nN hx hb hd hj hv (K hR p e R s m args below meth c G ca sb o hC H locs cells slots lsr hW h1 h2 hL)
  · rcases r with _ | r
    · exact lv_aload_n hx hb hd hj hv (K hR p e R s m args below meth c G ca sb o hC H locs cells slots lsr hW h1 h2 hL)
    · exact lv_aload_n hx hb hd hj hv (K hR p e R s m args below meth c G ca sb o hC H locs cells slots lsr hW h1 h2 hL)
  · exact lv_aloadN hx hb hd hv (K hR p e R s m args below meth c G ca sb o hC H locs cells slots lsr hW h1 h2 hL)
  · rcases r with _ | r
    · exact lv_aload hx hb hd hv (K hR p e R s m args below meth c G ca sb o hC H locs cells slots lsr hW h1 h2 hL)
    · exact lv_aload hx hb hd hv (K hR p e R s m args below meth c G ca sb o hC H locs cells slots lsr hW h1 h2 hL)
theorem ev_istore_g {i : Nat} {x : Int} (hd : (∃ j : Fin 4, (j : Nat) = i ∧ decode k.1 pc = .ok (.istore_n j, 1) ∧ pc + 1 = q) ∨ (decode k.1 pc = .ok (.istore i, 2) ∧ pc + 2 = q)) (hi : i < k.2.2.1) (K : Ev l X d k b S M q (ls.set i (some (vi x))) st Q) : Ev l X d k b S M pc ls (vi x :: st) Q := by
  intro hR p e R s m args below meth c G ca sb o hC H locs cells slots lsr hW h1 h2 hL
  obtain ⟨hx, hb, hr, hlk, hml, hown, hts, hex, hin, hf, hlo, hK, hos, hX⟩ := id hC
  have hh := hL.has
  rcases hd with ⟨j, hj, hd, hq⟩ | ⟨hd, hq⟩ <;> subst hq
  · exact lv_istore_n hx hb hd hj hh hi rfl (fun lsr' h' => K hR p e R s m args below meth c G ca sb o hC H locs cells slots lsr' hW h1 h2 (ev_Ls.of_store (v := vi x) h'))
  · exact lv_istore hx hb hd hh hi rfl (fun lsr' h' => K hR p e R s m args below meth c G ca sb o hC H locs cells slots lsr' hW h1 h2 (ev_Ls.of_store (v := vi x) h'))
theorem ev_astore_g {i : Nat} {r : Option (Option Nat)} (hd : (∃ j : Fin 4, (j : Nat) = i ∧ decode k.1 pc = .ok (.astore_n j, 1) ∧ pc + 1 = q) ∨ (decode k.1 pc = .ok (.astore i, 2) ∧ pc + 2 = q)) (hi : i < k.2.2.1) (K : Ev l X d k b S M q (ls.set i (some (.inr r))) st Q) : Ev l X d k b S M pc ls (.inr r :: st) Q := by
  intro hR p e R s m args below meth c G ca sb o hC H locs cells slots lsr hW h1 h2 hL
  obtain ⟨hx, hb, hr, hlk, hml, hown, hts, hex, hin, hf, hlo, hK, hos, hX⟩ := id hC
  have hh := hL.has
  rcases hd with ⟨j, hj, hd, hq⟩ | ⟨hd, hq⟩ <;> subst hq <;> rcases r with _ | r
  · exact lv_astore_nN hx hb hd hj hh hi rfl (fun lsr' h' => K hR p e R s m args below meth c G ca sb o hC H locs cells slots lsr' hW h1 h2 (ev_Ls.of_store (v := vn) h'))
  · rcases r with _ | r
    · exact lv_astore_n hx hb hd hj hh hi rfl (fun lsr' h' => K hR p e R s m args below meth c G ca sb o hC H locs cells slots lsr' hW h1 h2 (ev_Ls.of_store (v := vs) h'))
    · exact lv_astore_n hx hb hd hj hh hi rfl (fun lsr' h' => K hR p e R s m args below meth c G ca sb o hC H locs cells slots lsr' hW h1 h2 (ev_Ls.of_store (v := vr r) h'))
  · exact lv_astoreN hx hb hd hh hi rfl (fun lsr' h' => K hR p e R s m args below meth c G ca sb o hC H locs cells slots lsr' hW h1 h2 (ev_Ls.of_store (v := vn) h'))
  · rcases r with _ | r
    · exact lv_astore hx hb hd hh hi rfl (fun lsr' h' => K hR p e R s m args below meth c G ca sb o hC H locs cells slots lsr' hW h1 h2 (ev_Ls.of_store (v := vs) h'))
    · exact lv_astore hx hb hd hh hi rfl (fun lsr' h' => K hR p e R s m args below meth c G ca sb o hC H locs cells slots lsr' hW h1 h2 (ev_Ls.of_store (v := vr r) h'))
theorem ev_iinc_g {i : Nat} {x n : Int} (hd : decode k.1 pc = .ok (.iinc i n, 3)) (hq : pc + 3 = q) (hi : i < k.2.2.1) (hl : ls[i]? = some (some (vi x))) (K : Ev l X d k b S M q (ls.set i (some (vi (x + n)))) st Q) : Ev l X d k b S M pc ls st Q := by
  intro hR p e R s m args below meth c G ca sb o hC H locs cells slots lsr hW h1 h2 hL
  obtain ⟨hx, hb, hr, hlk, hml, hown, hts, hex, hin, hf, hlo, hK, hos, hX⟩ := id hC
  have hh := hL.has
  obtain ⟨j, hj⟩ := List.getElem?_of_mem (ev_lst_mem (sb := sb) (o := o) hl)
  subst hq
  exact lv_iinc (v := Int32.ofInt (x + n)) hx hb hd hh hj (oi_add x n) hi rfl (fun lsr' h' => K hR p e R s m args below meth c G ca sb o hC H locs cells slots lsr' hW h1 h2 (ev_Ls.of_store (v := vi (x + n)) h'))

theorem ev_iload_0 {x : Int} (hd : decode k.1 pc = .ok (.iload_n 0, 1)) (hq : pc + 1 = q) (K : Ev l X d k b S M q (some (vi x) :: tl) (vi x :: st) Q) : Ev l X d k b S M pc (some (vi x) :: tl) st Q := ev_iload_g (Or.inl ⟨0, rfl, hd, hq⟩) rfl K
theorem ev_aload_0 {r : Option (Option Nat)} (hd : decode k.1 pc = .ok (.aload_n 0, 1)) (hq : pc + 1 = q) (K : Ev l X d k b S M q (some (.inr r) :: tl) (.inr r :: st) Q) : Ev l X d k b S M pc (some (.inr r) :: tl) st Q := ev_aload_g (Or.inl ⟨0, rfl, hd, hq⟩) rfl K
theorem ev_istore_0 { z : Option ev_V} {x : Int} (hd : decode k.1 pc = .ok (.istore_n 0, 1)) (hq : pc + 1 = q) (hi : 0 < k.2.2.1) (K : Ev l X d k b S M q (some (vi x) :: tl) st Q) : Ev l X d k b S M pc (z :: tl) (vi x :: st) Q := ev_istore_g (Or.inl ⟨0, rfl, hd, hq⟩) hi K
theorem ev_astore_0 { z : Option ev_V} {r : Option (Option Nat)} (hd : decode k.1 pc = .ok (.astore_n 0, 1)) (hq : pc + 1 = q) (hi : 0 < k.2.2.1) (K : Ev l X d k b S M q (some (.inr r) :: tl) st Q) : Ev l X d k b S M pc (z :: tl) (.inr r :: st) Q := ev_astore_g (Or.inl ⟨0, rfl, hd, hq⟩) hi K
theorem ev_iinc_0 {x n : Int} (hd : decode k.1 pc = .ok (.iinc 0 n, 3)) (hq : pc + 3 = q) (hi : 0 < k.2.2.1) (K : Ev l X d k b S M q (some (vi (x + n)) :: tl) st Q) : Ev l X d k b S M pc (some (vi x) :: tl) st Q := ev_iinc_g hd hq hi rfl K
theorem ev_iload_1 {a0 : Option ev_V} {x : Int} (hd : decode k.1 pc = .ok (.iload_n 1, 1)) (hq : pc + 1 = q) (K : Ev l X d k b S M q (a0 :: some (vi x) :: tl) (vi x :: st) Q) : Ev l X d k b S M pc (a0 :: some (vi x) :: tl) st Q := ev_iload_g (Or.inl ⟨1, rfl, hd, hq⟩) rfl K
theorem ev_aload_1 {a0 : Option ev_V} {r : Option (Option Nat)} (hd : decode k.1 pc = .ok (.aload_n 1, 1)) (hq : pc + 1 = q) (K : Ev l X d k b S M q (a0 :: some (.inr r) :: tl) (.inr r :: st) Q) : Ev l X d k b S M pc (a0 :: some (.inr r) :: tl) st Q := ev_aload_g (Or.inl ⟨1, rfl, hd, hq⟩) rfl K
theorem ev_istore_1 {a0 z : Option ev_V} {x : Int} (hd : decode k.1 pc = .ok (.istore_n 1, 1)) (hq : pc + 1 = q) (hi : 1 < k.2.2.1) (K : Ev l X d k b S M q (a0 :: some (vi x) :: tl) st Q) : Ev l X d k b S M pc (a0 :: z :: tl) (vi x :: st) Q := ev_istore_g (Or.inl ⟨1, rfl, hd, hq⟩) hi K
theorem ev_astore_1 {a0 z : Option ev_V} {r : Option (Option Nat)} (hd : decode k.1 pc = .ok (.astore_n 1, 1)) (hq : pc + 1 = q) (hi : 1 < k.2.2.1) (K : Ev l X d k b S M q (a0 :: some (.inr r) :: tl) st Q) : Ev l X d k b S M pc (a0 :: z :: tl) (.inr r :: st) Q := ev_astore_g (Or.inl ⟨1, rfl, hd, hq⟩) hi K
theorem ev_iinc_1 {a0 : Option ev_V} {x n : Int} (hd : decode k.1 pc = .ok (.iinc 1 n, 3)) (hq : pc + 3 = q) (hi : 1 < k.2.2.1) (K : Ev l X d k b S M q (a0 :: some (vi (x + n)) :: tl) st Q) : Ev l X d k b S M pc (a0 :: some (vi x) :: tl) st Q := ev_iinc_g hd hq hi rfl K
theorem ev_iload_2 {a0 a1 : Option ev_V} {x : Int} (hd : decode k.1 pc = .ok (.iload_n 2, 1)) (hq : pc + 1 = q) (K : Ev l X d k b S M q (a0 :: a1 :: some (vi x) :: tl) (vi x :: st) Q) : Ev l X d k b S M pc (a0 :: a1 :: some (vi x) :: tl) st Q := ev_iload_g (Or.inl ⟨2, rfl, hd, hq⟩) rfl K
theorem ev_aload_2 {a0 a1 : Option ev_V} {r : Option (Option Nat)} (hd : decode k.1 pc = .ok (.aload_n 2, 1)) (hq : pc + 1 = q) (K : Ev l X d k b S M q (a0 :: a1 :: some (.inr r) :: tl) (.inr r :: st) Q) : Ev l X d k b S M pc (a0 :: a1 :: some (.inr r) :: tl) st Q := ev_aload_g (Or.inl ⟨2, rfl, hd, hq⟩) rfl K
theorem ev_istore_2 {a0 a1 z : Option ev_V} {x : Int} (hd : decode k.1 pc = .ok (.istore_n 2, 1)) (hq : pc + 1 = q) (hi : 2 < k.2.2.1) (K : Ev l X d k b S M q (a0 :: a1 :: some (vi x) :: tl) st Q) : Ev l X d k b S M pc (a0 :: a1 :: z :: tl) (vi x :: st) Q := ev_istore_g (Or.inl ⟨2, rfl, hd, hq⟩) hi K
theorem ev_astore_2 {a0 a1 z : Option ev_V} {r : Option (Option Nat)} (hd : decode k.1 pc = .ok (.astore_n 2, 1)) (hq : pc + 1 = q) (hi : 2 < k.2.2.1) (K : Ev l X d k b S M q (a0 :: a1 :: some (.inr r) :: tl) st Q) : Ev l X d k b S M pc (a0 :: a1 :: z :: tl) (.inr r :: st) Q := ev_astore_g (Or.inl ⟨2, rfl, hd, hq⟩) hi K
theorem ev_iinc_2 {a0 a1 : Option ev_V} {x n : Int} (hd : decode k.1 pc = .ok (.iinc 2 n, 3)) (hq : pc + 3 = q) (hi : 2 < k.2.2.1) (K : Ev l X d k b S M q (a0 :: a1 :: some (vi (x + n)) :: tl) st Q) : Ev l X d k b S M pc (a0 :: a1 :: some (vi x) :: tl) st Q := ev_iinc_g hd hq hi rfl K
theorem ev_iload_3 {a0 a1 a2 : Option ev_V} {x : Int} (hd : decode k.1 pc = .ok (.iload_n 3, 1)) (hq : pc + 1 = q) (K : Ev l X d k b S M q (a0 :: a1 :: a2 :: some (vi x) :: tl) (vi x :: st) Q) : Ev l X d k b S M pc (a0 :: a1 :: a2 :: some (vi x) :: tl) st Q := ev_iload_g (Or.inl ⟨3, rfl, hd, hq⟩) rfl K
theorem ev_aload_3 {a0 a1 a2 : Option ev_V} {r : Option (Option Nat)} (hd : decode k.1 pc = .ok (.aload_n 3, 1)) (hq : pc + 1 = q) (K : Ev l X d k b S M q (a0 :: a1 :: a2 :: some (.inr r) :: tl) (.inr r :: st) Q) : Ev l X d k b S M pc (a0 :: a1 :: a2 :: some (.inr r) :: tl) st Q := ev_aload_g (Or.inl ⟨3, rfl, hd, hq⟩) rfl K
theorem ev_istore_3 {a0 a1 a2 z : Option ev_V} {x : Int} (hd : decode k.1 pc = .ok (.istore_n 3, 1)) (hq : pc + 1 = q) (hi : 3 < k.2.2.1) (K : Ev l X d k b S M q (a0 :: a1 :: a2 :: some (vi x) :: tl) st Q) : Ev l X d k b S M pc (a0 :: a1 :: a2 :: z :: tl) (vi x :: st) Q := ev_istore_g (Or.inl ⟨3, rfl, hd, hq⟩) hi K
theorem ev_astore_3 {a0 a1 a2 z : Option ev_V} {r : Option (Option Nat)} (hd : decode k.1 pc = .ok (.astore_n 3, 1)) (hq : pc + 1 = q) (hi : 3 < k.2.2.1) (K : Ev l X d k b S M q (a0 :: a1 :: a2 :: some (.inr r) :: tl) st Q) : Ev l X d k b S M pc (a0 :: a1 :: a2 :: z :: tl) (.inr r :: st) Q := ev_astore_g (Or.inl ⟨3, rfl, hd, hq⟩) hi K
theorem ev_iinc_3 {a0 a1 a2 : Option ev_V} {x n : Int} (hd : decode k.1 pc = .ok (.iinc 3 n, 3)) (hq : pc + 3 = q) (hi : 3 < k.2.2.1) (K : Ev l X d k b S M q (a0 :: a1 :: a2 :: some (vi (x + n)) :: tl) st Q) : Ev l X d k b S M pc (a0 :: a1 :: a2 :: some (vi x) :: tl) st Q := ev_iinc_g hd hq hi rfl K
theorem ev_iload_4 {a0 a1 a2 a3 : Option ev_V} {x : Int} (hd : decode k.1 pc = .ok (.iload 4, 2)) (hq : pc + 2 = q) (K : Ev l X d k b S M q (a0 :: a1 :: a2 :: a3 :: some (vi x) :: tl) (vi x :: st) Q) : Ev l X d k b S M pc (a0 :: a1 :: a2 :: a3 :: some (vi x) :: tl) st Q := ev_iload_g (Or.inr ⟨hd, hq⟩) rfl K
theorem ev_aload_4 {a0 a1 a2 a3 : Option ev_V} {r : Option (Option Nat)} (hd : decode k.1 pc = .ok (.aload 4, 2)) (hq : pc + 2 = q) (K : Ev l X d k b S M q (a0 :: a1 :: a2 :: a3 :: some (.inr r) :: tl) (.inr r :: st) Q) : Ev l X d k b S M pc (a0 :: a1 :: a2 :: a3 :: some (.inr r) :: tl) st Q := ev_aload_g (Or.inr ⟨hd, hq⟩) rfl K
theorem ev_istore_4 {a0 a1 a2 a3 z : Option ev_V} {x : Int} (hd : decode k.1 pc = .ok (.istore 4, 2)) (hq : pc + 2 = q) (hi : 4 < k.2.2.1) (K : Ev l X d k b S M q (a0 :: a1 :: a2 :: a3 :: some (vi x) :: tl) st Q) : Ev l X d k b S M pc (a0 :: a1 :: a2 :: a3 :: z :: tl) (vi x :: st) Q := ev_istore_g (Or.inr ⟨hd, hq⟩) hi K
theorem ev_astore_4 {a0 a1 a2 a3 z : Option ev_V} {r : Option (Option Nat)} (hd : decode k.1 pc = .ok (.astore 4, 2)) (hq : pc + 2 = q) (hi : 4 < k.2.2.1) (K : Ev l X d k b S M q (a0 :: a1 :: a2 :: a3 :: some (.inr r) :: tl) st Q) : Ev l X d k b S M pc (a0 :: a1 :: a2 :: a3 :: z :: tl) (.inr r :: st) Q := ev_astore_g (Or.inr ⟨hd, hq⟩) hi K
theorem ev_iinc_4 {a0 a1 a2 a3 : Option ev_V} {x n : Int} (hd : decode k.1 pc = .ok (.iinc 4 n, 3)) (hq : pc + 3 = q) (hi : 4 < k.2.2.1) (K : Ev l X d k b S M q (a0 :: a1 :: a2 :: a3 :: some (vi (x + n)) :: tl) st Q) : Ev l X d k b S M pc (a0 :: a1 :: a2 :: a3 :: some (vi x) :: tl) st Q := ev_iinc_g hd hq hi rfl K
theorem ev_iload_5 {a0 a1 a2 a3 a4 : Option ev_V} {x : Int} (hd : decode k.1 pc = .ok (.iload 5, 2)) (hq : pc + 2 = q) (K : Ev l X d k b S M q (a0 :: a1 :: a2 :: a3 :: a4 :: some (vi x) :: tl) (vi x :: st) Q) : Ev l X d k b S M pc (a0 :: a1 :: a2 :: a3 :: a4 :: some (vi x) :: tl) st Q := ev_iload_g (Or.inr ⟨hd, hq⟩) rfl K
theorem ev_aload_5 {a0 a1 a2 a3 a4 : Option ev_V} {r : Option (Option Nat)} (hd : decode k.1 pc = .ok (.aload 5, 2)) (hq : pc + 2 = q) (K : Ev l X d k b S M q (a0 :: a1 :: a2 :: a3 :: a4 :: some (.inr r) :: tl) (.inr r :: st) Q) : Ev l X d k b S M pc (a0 :: a1 :: a2 :: a3 :: a4 :: some (.inr r) :: tl) st Q := ev_aload_g (Or.inr ⟨hd, hq⟩) rfl K
theorem ev_istore_5 {a0 a1 a2 a3 a4 z : Option ev_V} {x : Int} (hd : decode k.1 pc = .ok (.istore 5, 2)) (hq : pc + 2 = q) (hi : 5 < k.2.2.1) (K : Ev l X d k b S M q (a0 :: a1 :: a2 :: a3 :: a4 :: some (vi x) :: tl) st Q) : Ev l X d k b S M pc (a0 :: a1 :: a2 :: a3 :: a4 :: z :: tl) (vi x :: st) Q := ev_istore_g (Or.inr ⟨hd, hq⟩) hi K
theorem ev_astore_5 {a0 a1 a2 a3 a4 z : Option ev_V} {r : Option (Option Nat)} (hd : decode k.1 pc = .ok (.astore 5, 2)) (hq : pc + 2 = q) (hi : 5 < k.2.2.1) (K : Ev l X d k b S M q (a0 :: a1 :: a2 :: a3 :: a4 :: some (.inr r) :: tl) st Q) : Ev l X d k b S M pc (a0 :: a1 :: a2 :: a3 :: a4 :: z :: tl) (.inr r :: st) Q := ev_astore_g (Or.inr ⟨hd, hq⟩) hi K
theorem ev_iinc_5 {a0 a1 a2 a3 a4 : Option ev_V} {x n : Int} (hd : decode k.1 pc = .ok (.iinc 5 n, 3)) (hq : pc + 3 = q) (hi : 5 < k.2.2.1) (K : Ev l X d k b S M q (a0 :: a1 :: a2 :: a3 :: a4 :: some (vi (x + n)) :: tl) st Q) : Ev l X d k b S M pc (a0 :: a1 :: a2 :: a3 :: a4 :: some (vi x) :: tl) st Q := ev_iinc_g hd hq hi rfl K
theorem ev_iload_6 {a0 a1 a2 a3 a4 a5 : Option ev_V} {x : Int} (hd : decode k.1 pc = .ok (.iload 6, 2)) (hq : pc + 2 = q) (K : Ev l X d k b S M q (a0 :: a1 :: a2 :: a3 :: a4 :: a5 :: some (vi x) :: tl) (vi x :: st) Q) : Ev l X d k b S M pc (a0 :: a1 :: a2 :: a3 :: a4 :: a5 :: some (vi x) :: tl) st Q := ev_iload_g (Or.inr ⟨hd, hq⟩) rfl K
theorem ev_aload_6 {a0 a1 a2 a3 a4 a5 : Option ev_V} {r : Option (Option Nat)} (hd : decode k.1 pc = .ok (.aload 6, 2)) (hq : pc + 2 = q) (K : Ev l X d k b S M q (a0 :: a1 :: a2 :: a3 :: a4 :: a5 :: some (.inr r) :: tl) (.inr r :: st) Q) : Ev l X d k b S M pc (a0 :: a1 :: a2 :: a3 :: a4 :: a5 :: some (.inr r) :: tl) st Q := ev_aload_g (Or.inr ⟨hd, hq⟩) rfl K
theorem ev_istore_6 {a0 a1 a2 a3 a4 a5 z : Option ev_V} {x : Int} (hd : decode k.1 pc = .ok (.istore 6, 2)) (hq : pc + 2 = q) (hi : 6 < k.2.2.1) (K : Ev l X d k b S M q (a0 :: a1 :: a2 :: a3 :: a4 :: a5 :: some (vi x) :: tl) st Q) : Ev l X d k b S M pc (a0 :: a1 :: a2 :: a3 :: a4 :: a5 :: z :: tl) (vi x :: st) Q := ev_istore_g (Or.inr ⟨hd, hq⟩) hi K
theorem ev_astore_6 {a0 a1 a2 a3 a4 a5 z : Option ev_V} {r : Option (Option Nat)} (hd : decode k.1 pc = .ok (.astore 6, 2)) (hq : pc + 2 = q) (hi : 6 < k.2.2.1) (K : Ev l X d k b S M q (a0 :: a1 :: a2 :: a3 :: a4 :: a5 :: some (.inr r) :: tl) st Q) : Ev l X d k b S M pc (a0 :: a1 :: a2 :: a3 :: a4 :: a5 :: z :: tl) (.inr r :: st) Q := ev_astore_g (Or.inr ⟨hd, hq⟩) hi K
theorem ev_iinc_6 {a0 a1 a2 a3 a4 a5 : Option ev_V} {x n : Int} (hd : decode k.1 pc = .ok (.iinc 6 n, 3)) (hq : pc + 3 = q) (hi : 6 < k.2.2.1) (K : Ev l X d k b S M q (a0 :: a1 :: a2 :: a3 :: a4 :: a5 :: some (vi (x + n)) :: tl) st Q) : Ev l X d k b S M pc (a0 :: a1 :: a2 :: a3 :: a4 :: a5 :: some (vi x) :: tl) st Q := ev_iinc_g hd hq hi rfl K
theorem ev_iload_7 {a0 a1 a2 a3 a4 a5 a6 : Option ev_V} {x : Int} (hd : decode k.1 pc = .ok (.iload 7, 2)) (hq : pc + 2 = q) (K : Ev l X d k b S M q (a0 :: a1 :: a2 :: a3 :: a4 :: a5 :: a6 :: some (vi x) :: tl) (vi x :: st) Q) : Ev l X d k b S M pc (a0 :: a1 :: a2 :: a3 :: a4 :: a5 :: a6 :: some (vi x) :: tl) st Q := ev_iload_g (Or.inr ⟨hd, hq⟩) rfl K
theorem ev_aload_7 {a0 a1 a2 a3 a4 a5 a6 : Option ev_V} {r : Option (Option Nat)} (hd : decode k.1 pc = .ok (.aload 7, 2)) (hq : pc + 2 = q) (K : Ev l X d k b S M q (a0 :: a1 :: a2 :: a3 :: a4 :: a5 :: a6 :: some (.inr r) :: tl) (.inr r :: st) Q) : Ev l X d k b S M pc (a0 :: a1 :: a2 :: a3 :: a4 :: a5 :: a6 :: some (.inr r) :: tl) st Q := ev_aload_g (Or.inr ⟨hd, hq⟩) rfl K
theorem ev_istore_7 {a0 a1 a2 a3 a4 a5 a6 z : Option ev_V} {x : Int} (hd : decode k.1 pc = .ok (.istore 7, 2)) (hq : pc + 2 = q) (hi : 7 < k.2.2.1) (K : Ev l X d k b S M q (a0 :: a1 :: a2 :: a3 :: a4 :: a5 :: a6 :: some (vi x) :: tl) st Q) : Ev l X d k b S M pc (a0 :: a1 :: a2 :: a3 :: a4 :: a5 :: a6 :: z :: tl) (vi x :: st) Q := ev_istore_g (Or.inr ⟨hd, hq⟩) hi K
theorem ev_astore_7 {a0 a1 a2 a3 a4 a5 a6 z : Option ev_V} {r : Option (Option Nat)} (hd : decode k.1 pc = .ok (.astore 7, 2)) (hq : pc + 2 = q) (hi : 7 < k.2.2.1) (K : Ev l X d k b S M q (a0 :: a1 :: a2 :: a3 :: a4 :: a5 :: a6 :: some (.inr r) :: tl) st Q) : Ev l X d k b S M pc (a0 :: a1 :: a2 :: a3 :: a4 :: a5 :: a6 :: z :: tl) (.inr r :: st) Q := ev_astore_g (Or.inr ⟨hd, hq⟩) hi K
theorem ev_iinc_7 {a0 a1 a2 a3 a4 a5 a6 : Option ev_V} {x n : Int} (hd : decode k.1 pc = .ok (.iinc 7 n, 3)) (hq : pc + 3 = q) (hi : 7 < k.2.2.1) (K : Ev l X d k b S M q (a0 :: a1 :: a2 :: a3 :: a4 :: a5 :: a6 :: some (vi (x + n)) :: tl) st Q) : Ev l X d k b S M pc (a0 :: a1 :: a2 :: a3 :: a4 :: a5 :: a6 :: some (vi x) :: tl) st Q := ev_iinc_g hd hq hi rfl K
theorem ev_iload_8 {a0 a1 a2 a3 a4 a5 a6 a7 : Option ev_V} {x : Int} (hd : decode k.1 pc = .ok (.iload 8, 2)) (hq : pc + 2 = q) (K : Ev l X d k b S M q (a0 :: a1 :: a2 :: a3 :: a4 :: a5 :: a6 :: a7 :: some (vi x) :: tl) (vi x :: st) Q) : Ev l X d k b S M pc (a0 :: a1 :: a2 :: a3 :: a4 :: a5 :: a6 :: a7 :: some (vi x) :: tl) st Q := ev_iload_g (Or.inr ⟨hd, hq⟩) rfl K
theorem ev_aload_8 {a0 a1 a2 a3 a4 a5 a6 a7 : Option ev_V} {r : Option (Option Nat)} (hd : decode k.1 pc = .ok (.aload 8, 2)) (hq : pc + 2 = q) (K : Ev l X d k b S M q (a0 :: a1 :: a2 :: a3 :: a4 :: a5 :: a6 :: a7 :: some (.inr r) :: tl) (.inr r :: st) Q) : Ev l X d k b S M pc (a0 :: a1 :: a2 :: a3 :: a4 :: a5 :: a6 :: a7 :: some (.inr r) :: tl) st Q := ev_aload_g (Or.inr ⟨hd, hq⟩) rfl K
theorem ev_istore_8 {a0 a1 a2 a3 a4 a5 a6 a7 z : Option ev_V} {x : Int} (hd : decode k.1 pc = .ok (.istore 8, 2)) (hq : pc + 2 = q) (hi : 8 < k.2.2.1) (K : Ev l X d k b S M q (a0 :: a1 :: a2 :: a3 :: a4 :: a5 :: a6 :: a7 :: some (vi x) :: tl) st Q) : Ev l X d k b S M pc (a0 :: a1 :: a2 :: a3 :: a4 :: a5 :: a6 :: a7 :: z :: tl) (vi x :: st) Q := ev_istore_g (Or.inr ⟨hd, hq⟩) hi K
theorem ev_astore_8 {a0 a1 a2 a3 a4 a5 a6 a7 z : Option ev_V} {r : Option (Option Nat)} (hd : decode k.1 pc = .ok (.astore 8, 2)) (hq : pc + 2 = q) (hi : 8 < k.2.2.1) (K : Ev l X d k b S M q (a0 :: a1 :: a2 :: a3 :: a4 :: a5 :: a6 :: a7 :: some (.inr r) :: tl) st Q) : Ev l X d k b S M pc (a0 :: a1 :: a2 :: a3 :: a4 :: a5 :: a6 :: a7 :: z :: tl) (.inr r :: st) Q := ev_astore_g (Or.inr ⟨hd, hq⟩) hi K
theorem ev_iinc_8 {a0 a1 a2 a3 a4 a5 a6 a7 : Option ev_V} {x n : Int} (hd : decode k.1 pc = .ok (.iinc 8 n, 3)) (hq : pc + 3 = q) (hi : 8 < k.2.2.1) (K : Ev l X d k b S M q (a0 :: a1 :: a2 :: a3 :: a4 :: a5 :: a6 :: a7 :: some (vi (x + n)) :: tl) st Q) : Ev l X d k b S M pc (a0 :: a1 :: a2 :: a3 :: a4 :: a5 :: a6 :: a7 :: some (vi x) :: tl) st Q := ev_iinc_g hd hq hi rfl K
theorem ev_iload_9 {a0 a1 a2 a3 a4 a5 a6 a7 a8 : Option ev_V} {x : Int} (hd : decode k.1 pc = .ok (.iload 9, 2)) (hq : pc + 2 = q) (K : Ev l X d k b S M q (a0 :: a1 :: a2 :: a3 :: a4 :: a5 :: a6 :: a7 :: a8 :: some (vi x) :: tl) (vi x :: st) Q) : Ev l X d k b S M pc (a0 :: a1 :: a2 :: a3 :: a4 :: a5 :: a6 :: a7 :: a8 :: some (vi x) :: tl) st Q := ev_iload_g (Or.inr ⟨hd, hq⟩) rfl K
theorem ev_aload_9 {a0 a1 a2 a3 a4 a5 a6 a7 a8 : Option ev_V} {r : Option (Option Nat)} (hd : decode k.1 pc = .ok (.aload 9, 2)) (hq : pc + 2 = q) (K : Ev l X d k b S M q (a0 :: a1 :: a2 :: a3 :: a4 :: a5 :: a6 :: a7 :: a8 :: some (.inr r) :: tl) (.inr r :: st) Q) : Ev l X d k b S M pc (a0 :: a1 :: a2 :: a3 :: a4 :: a5 :: a6 :: a7 :: a8 :: some (.inr r) :: tl) st Q := ev_aload_g (Or.inr ⟨hd, hq⟩) rfl K
theorem ev_istore_9 {a0 a1 a2 a3 a4 a5 a6 a7 a8 z : Option ev_V} {x : Int} (hd : decode k.1 pc = .ok (.istore 9, 2)) (hq : pc + 2 = q) (hi : 9 < k.2.2.1) (K : Ev l X d k b S M q (a0 :: a1 :: a2 :: a3 :: a4 :: a5 :: a6 :: a7 :: a8 :: some (vi x) :: tl) st Q) : Ev l X d k b S M pc (a0 :: a1 :: a2 :: a3 :: a4 :: a5 :: a6 :: a7 :: a8 :: z :: tl) (vi x :: st) Q := ev_istore_g (Or.inr ⟨hd, hq⟩) hi K
theorem ev_astore_9 {a0 a1 a2 a3 a4 a5 a6 a7 a8 z : Option ev_V} {r : Option (Option Nat)} (hd : decode k.1 pc = .ok (.astore 9, 2)) (hq : pc + 2 = q) (hi : 9 < k.2.2.1) (K : Ev l X d k b S M q (a0 :: a1 :: a2 :: a3 :: a4 :: a5 :: a6 :: a7 :: a8 :: some (.inr r) :: tl) st Q) : Ev l X d k b S M pc (a0 :: a1 :: a2 :: a3 :: a4 :: a5 :: a6 :: a7 :: a8 :: z :: tl) (.inr r :: st) Q := ev_astore_g (Or.inr ⟨hd, hq⟩) hi K
theorem ev_iinc_9 {a0 a1 a2 a3 a4 a5 a6 a7 a8 : Option ev_V} {x n : Int} (hd : decode k.1 pc = .ok (.iinc 9 n, 3)) (hq : pc + 3 = q) (hi : 9 < k.2.2.1) (K : Ev l X d k b S M q (a0 :: a1 :: a2 :: a3 :: a4 :: a5 :: a6 :: a7 :: a8 :: some (vi (x + n)) :: tl) st Q) : Ev l X d k b S M pc (a0 :: a1 :: a2 :: a3 :: a4 :: a5 :: a6 :: a7 :: a8 :: some (vi x) :: tl) st Q := ev_iinc_g hd hq hi rfl K
theorem ev_iload_10 {a0 a1 a2 a3 a4 a5 a6 a7 a8 a9 : Option ev_V} {x : Int} (hd : decode k.1 pc = .ok (.iload 10, 2)) (hq : pc + 2 = q) (K : Ev l X d k b S M q (a0 :: a1 :: a2 :: a3 :: a4 :: a5 :: a6 :: a7 :: a8 :: a9 :: some (vi x) :: tl) (vi x :: st) Q) : Ev l X d k b S M pc (a0 :: a1 :: a2 :: a3 :: a4 :: a5 :: a6 :: a7 :: a8 :: a9 :: some (vi x) :: tl) st Q := ev_iload_g (Or.inr ⟨hd, hq⟩) rfl K
theorem ev_aload_10 {a0 a1 a2 a3 a4 a5 a6 a7 a8 a9 : Option ev_V} {r : Option (Option Nat)} (hd : decode k.1 pc = .ok (.aload 10, 2)) (hq : pc + 2 = q) (K : Ev l X d k b S M q (a0 :: a1 :: a2 :: a3 :: a4 :: a5 :: a6 :: a7 :: a8 :: a9 :: some (.inr r) :: tl) (.inr r :: st) Q) : Ev l X d k b S M pc (a0 :: a1 :: a2 :: a3 :: a4 :: a5 :: a6 :: a7 :: a8 :: a9 :: some (.inr r) :: tl) st Q := ev_aload_g (Or.inr ⟨hd, hq⟩) rfl K
theorem ev_istore_10 {a0 a1 a2 a3 a4 a5 a6 a7 a8 a9 z : Option ev_V} {x : Int} (hd : decode k.1 pc = .ok (.istore 10, 2)) (hq : pc + 2 = q) (hi : 10 < k.2.2.1) (K : Ev l X d k b S M q (a0 :: a1 :: a2 :: a3 :: a4 :: a5 :: a6 :: a7 :: a8 :: a9 :: some (vi x) :: tl) st Q) : Ev l X d k b S M pc (a0 :: a1 :: a2 :: a3 :: a4 :: a5 :: a6 :: a7 :: a8 :: a9 :: z :: tl) (vi x :: st) Q := ev_istore_g (Or.inr ⟨hd, hq⟩) hi K
theorem ev_astore_10 {a0 a1 a2 a3 a4 a5 a6 a7 a8 a9 z : Option ev_V} {r : Option (Option Nat)} (hd : decode k.1 pc = .ok (.astore 10, 2)) (hq : pc + 2 = q) (hi : 10 < k.2.2.1) (K : Ev l X d k b S M q (a0 :: a1 :: a2 :: a3 :: a4 :: a5 :: a6 :: a7 :: a8 :: a9 :: some (.inr r) :: tl) st Q) : Ev l X d k b S M pc (a0 :: a1 :: a2 :: a3 :: a4 :: a5 :: a6 :: a7 :: a8 :: a9 :: z :: tl) (.inr r :: st) Q := ev_astore_g (Or.inr ⟨hd, hq⟩) hi K
theorem ev_iinc_10 {a0 a1 a2 a3 a4 a5 a6 a7 a8 a9 : Option ev_V} {x n : Int} (hd : decode k.1 pc = .ok (.iinc 10 n, 3)) (hq : pc + 3 = q) (hi : 10 < k.2.2.1) (K : Ev l X d k b S M q (a0 :: a1 :: a2 :: a3 :: a4 :: a5 :: a6 :: a7 :: a8 :: a9 :: some (vi (x + n)) :: tl) st Q) : Ev l X d k b S M pc (a0 :: a1 :: a2 :: a3 :: a4 :: a5 :: a6 :: a7 :: a8 :: a9 :: some (vi x) :: tl) st Q := ev_iinc_g hd hq hi rfl K
theorem ev_iload_11 {a0 a1 a2 a3 a4 a5 a6 a7 a8 a9 a10 : Option ev_V} {x : Int} (hd : decode k.1 pc = .ok (.iload 11, 2)) (hq : pc + 2 = q) (K : Ev l X d k b S M q (a0 :: a1 :: a2 :: a3 :: a4 :: a5 :: a6 :: a7 :: a8 :: a9 :: a10 :: some (vi x) :: tl) (vi x :: st) Q) : Ev l X d k b S M pc (a0 :: a1 :: a2 :: a3 :: a4 :: a5 :: a6 :: a7 :: a8 :: a9 :: a10 :: some (vi x) :: tl) st Q := ev_iload_g (Or.inr ⟨hd, hq⟩) rfl K
theorem ev_aload_11 {a0 a1 a2 a3 a4 a5 a6 a7 a8 a9 a10 : Option ev_V} {r : Option (Option Nat)} (hd : decode k.1 pc = .ok (.aload 11, 2)) (hq : pc + 2 = q) (K : Ev l X d k b S M q (a0 :: a1 :: a2 :: a3 :: a4 :: a5 :: a6 :: a7 :: a8 :: a9 :: a10 :: some (.inr r) :: tl) (.inr r :: st) Q) : Ev l X d k b S M pc (a0 :: a1 :: a2 :: a3 :: a4 :: a5 :: a6 :: a7 :: a8 :: a9 :: a10 :: some (.inr r) :: tl) st Q := ev_aload_g (Or.inr ⟨hd, hq⟩) rfl K
theorem ev_istore_11 {a0 a1 a2 a3 a4 a5 a6 a7 a8 a9 a10 z : Option ev_V} {x : Int} (hd : decode k.1 pc = .ok (.istore 11, 2)) (hq : pc + 2 = q) (hi : 11 < k.2.2.1) (K : Ev l X d k b S M q (a0 :: a1 :: a2 :: a3 :: a4 :: a5 :: a6 :: a7 :: a8 :: a9 :: a10 :: some (vi x) :: tl) st Q) : Ev l X d k b S M pc (a0 :: a1 :: a2 :: a3 :: a4 :: a5 :: a6 :: a7 :: a8 :: a9 :: a10 :: z :: tl) (vi x :: st) Q := ev_istore_g (Or.inr ⟨hd, hq⟩) hi K
theorem ev_astore_11 {a0 a1 a2 a3 a4 a5 a6 a7 a8 a9 a10 z : Option ev_V} {r : Option (Option Nat)} (hd : decode k.1 pc = .ok (.astore 11, 2)) (hq : pc + 2 = q) (hi : 11 < k.2.2.1) (K : Ev l X d k b S M q (a0 :: a1 :: a2 :: a3 :: a4 :: a5 :: a6 :: a7 :: a8 :: a9 :: a10 :: some (.inr r) :: tl) st Q) : Ev l X d k b S M pc (a0 :: a1 :: a2 :: a3 :: a4 :: a5 :: a6 :: a7 :: a8 :: a9 :: a10 :: z :: tl) (.inr r :: st) Q := ev_astore_g (Or.inr ⟨hd, hq⟩) hi K
theorem ev_iinc_11 {a0 a1 a2 a3 a4 a5 a6 a7 a8 a9 a10 : Option ev_V} {x n : Int} (hd : decode k.1 pc = .ok (.iinc 11 n, 3)) (hq : pc + 3 = q) (hi : 11 < k.2.2.1) (K : Ev l X d k b S M q (a0 :: a1 :: a2 :: a3 :: a4 :: a5 :: a6 :: a7 :: a8 :: a9 :: a10 :: some (vi (x + n)) :: tl) st Q) : Ev l X d k b S M pc (a0 :: a1 :: a2 :: a3 :: a4 :: a5 :: a6 :: a7 :: a8 :: a9 :: a10 :: some (vi x) :: tl) st Q := ev_iinc_g hd hq hi rfl K
theorem ev_iload_12 {a0 a1 a2 a3 a4 a5 a6 a7 a8 a9 a10 a11 : Option ev_V} {x : Int} (hd : decode k.1 pc = .ok (.iload 12, 2)) (hq : pc + 2 = q) (K : Ev l X d k b S M q (a0 :: a1 :: a2 :: a3 :: a4 :: a5 :: a6 :: a7 :: a8 :: a9 :: a10 :: a11 :: some (vi x) :: tl) (vi x :: st) Q) : Ev l X d k b S M pc (a0 :: a1 :: a2 :: a3 :: a4 :: a5 :: a6 :: a7 :: a8 :: a9 :: a10 :: a11 :: some (vi x) :: tl) st Q := ev_iload_g (Or.inr ⟨hd, hq⟩) rfl K
theorem ev_aload_12 {a0 a1 a2 a3 a4 a5 a6 a7 a8 a9 a10 a11 : Option ev_V} {r : Option (Option Nat)} (hd : decode k.1 pc = .ok (.aload 12, 2)) (hq : pc + 2 = q) (K : Ev l X d k b S M q (a0 :: a1 :: a2 :: a3 :: a4 :: a5 :: a6 :: a7 :: a8 :: a9 :: a10 :: a11 :: some (.inr r) :: tl) (.inr r :: st) Q) : Ev l X d k b S M pc (a0 :: a1 :: a2 :: a3 :: a4 :: a5 :: a6 :: a7 :: a8 :: a9 :: a10 :: a11 :: some (.inr r) :: tl) st Q := ev_aload_g (Or.inr ⟨hd, hq⟩) rfl K
theorem ev_istore_12 {a0 a1 a2 a3 a4 a5 a6 a7 a8 a9 a10 a11 z : Option ev_V} {x : Int} (hd : decode k.1 pc = .ok (.istore 12, 2)) (hq : pc + 2 = q) (hi : 12 < k.2.2.1) (K : Ev l X d k b S M q (a0 :: a1 :: a2 :: a3 :: a4 :: a5 :: a6 :: a7 :: a8 :: a9 :: a10 :: a11 :: some (vi x) :: tl) st Q) : Ev l X d k b S M pc (a0 :: a1 :: a2 :: a3 :: a4 :: a5 :: a6 :: a7 :: a8 :: a9 :: a10 :: a11 :: z :: tl) (vi x :: st) Q := ev_istore_g (Or.inr ⟨hd, hq⟩) hi K
theorem ev_astore_12 {a0 a1 a2 a3 a4 a5 a6 a7 a8 a9 a10 a11 z : Option ev_V} {r : Option (Option Nat)} (hd : decode k.1 pc = .ok (.astore 12, 2)) (hq : pc + 2 = q) (hi : 12 < k.2.2.1) (K : Ev l X d k b S M q (a0 :: a1 :: a2 :: a3 :: a4 :: a5 :: a6 :: a7 :: a8 :: a9 :: a10 :: a11 :: some (.inr r) :: tl) st Q) : Ev l X d k b S M pc (a0 :: a1 :: a2 :: a3 :: a4 :: a5 :: a6 :: a7 :: a8 :: a9 :: a10 :: a11 :: z :: tl) (.inr r :: st) Q := ev_astore_g (Or.inr ⟨hd, hq⟩) hi K
theorem ev_iinc_12 {a0 a1 a2 a3 a4 a5 a6 a7 a8 a9 a10 a11 : Option ev_V} {x n : Int} (hd : decode k.1 pc = .ok (.iinc 12 n, 3)) (hq : pc + 3 = q) (hi : 12 < k.2.2.1) (K : Ev l X d k b S M q (a0 :: a1 :: a2 :: a3 :: a4 :: a5 :: a6 :: a7 :: a8 :: a9 :: a10 :: a11 :: some (vi (x + n)) :: tl) st Q) : Ev l X d k b S M pc (a0 :: a1 :: a2 :: a3 :: a4 :: a5 :: a6 :: a7 :: a8 :: a9 :: a10 :: a11 :: some (vi x) :: tl) st Q := ev_iinc_g hd hq hi rfl K
theorem ev_iload_13 {a0 a1 a2 a3 a4 a5 a6 a7 a8 a9 a10 a11 a12 : Option ev_V} {x : Int} (hd : decode k.1 pc = .ok (.iload 13, 2)) (hq : pc + 2 = q) (K : Ev l X d k b S M q (a0 :: a1 :: a2 :: a3 :: a4 :: a5 :: a6 :: a7 :: a8 :: a9 :: a10 :: a11 :: a12 :: some (vi x) :: tl) (vi x :: st) Q) : Ev l X d k b S M pc (a0 :: a1 :: a2 :: a3 :: a4 :: a5 :: a6 :: a7 :: a8 :: a9 :: a10 :: a11 :: a12 :: some (vi x) :: tl) st Q := ev_iload_g (Or.inr ⟨hd, hq⟩) rfl K
theorem ev_aload_13 {a0 a1 a2 a3 a4 a5 a6 a7 a8 a9 a10 a11 a12 : Option ev_V} {r : Option (Option Nat)} (hd : decode k.1 pc = .ok (.aload 13, 2)) (hq : pc + 2 = q) (K : Ev l X d k b S M q (a0 :: a1 :: a2 :: a3 :: a4 :: a5 :: a6 :: a7 :: a8 :: a9 :: a10 :: a11 :: a12 :: some (.inr r) :: tl) (.inr r :: st) Q) : Ev l X d k b S M pc (a0 :: a1 :: a2 :: a3 :: a4 :: a5 :: a6 :: a7 :: a8 :: a9 :: a10 :: a11 :: a12 :: some (.inr r) :: tl) st Q := ev_aload_g (Or.inr ⟨hd, hq⟩) rfl K
theorem ev_istore_13 {a0 a1 a2 a3 a4 a5 a6 a7 a8 a9 a10 a11 a12 z : Option ev_V} {x : Int} (hd : decode k.1 pc = .ok (.istore 13, 2)) (hq : pc + 2 = q) (hi : 13 < k.2.2.1) (K : Ev l X d k b S M q (a0 :: a1 :: a2 :: a3 :: a4 :: a5 :: a6 :: a7 :: a8 :: a9 :: a10 :: a11 :: a12 :: some (vi x) :: tl) st Q) : Ev l X d k b S M pc (a0 :: a1 :: a2 :: a3 :: a4 :: a5 :: a6 :: a7 :: a8 :: a9 :: a10 :: a11 :: a12 :: z :: tl) (vi x :: st) Q := ev_istore_g (Or.inr ⟨hd, hq⟩) hi K
theorem ev_astore_13 {a0 a1 a2 a3 a4 a5 a6 a7 a8 a9 a10 a11 a12 z : Option ev_V} {r : Option (Option Nat)} (hd : decode k.1 pc = .ok (.astore 13, 2)) (hq : pc + 2 = q) (hi : 13 < k.2.2.1) (K : Ev l X d k b S M q (a0 :: a1 :: a2 :: a3 :: a4 :: a5 :: a6 :: a7 :: a8 :: a9 :: a10 :: a11 :: a12 :: some (.inr r) :: tl) st Q) : Ev l X d k b S M pc (a0 :: a1 :: a2 :: a3 :: a4 :: a5 :: a6 :: a7 :: a8 :: a9 :: a10 :: a11 :: a12 :: z :: tl) (.inr r :: st) Q := ev_astore_g (Or.inr ⟨hd, hq⟩) hi K
theorem ev_iinc_13 {a0 a1 a2 a3 a4 a5 a6 a7 a8 a9 a10 a11 a12 : Option ev_V} {x n : Int} (hd : decode k.1 pc = .ok (.iinc 13 n, 3)) (hq : pc + 3 = q) (hi : 13 < k.2.2.1) (K : Ev l X d k b S M q (a0 :: a1 :: a2 :: a3 :: a4 :: a5 :: a6 :: a7 :: a8 :: a9 :: a10 :: a11 :: a12 :: some (vi (x + n)) :: tl) st Q) : Ev l X d k b S M pc (a0 :: a1 :: a2 :: a3 :: a4 :: a5 :: a6 :: a7 :: a8 :: a9 :: a10 :: a11 :: a12 :: some (vi x) :: tl) st Q := ev_iinc_g hd hq hi rfl K
theorem ev_iadd {x y : Int} (hd : decode k.1 pc = .ok (.iadd, 1)) (hq : pc + 1 = q) (K : Ev l X d k b S M q ls (vi (x + y) :: st) Q) : Ev l X d k b S M pc ls (vi y :: vi x :: st) Q := by
  intro hR p e R s m args below meth c G ca sb o hC H locs cells slots lsr hW h1 h2 hL
  obtain ⟨hx, hb, hr, hlk, hml, hown, hts, hex, hin, hf, hlo, hK, hos, hX⟩ := id hC
  subst hq
  exact lv_iadd hx hb hd (by rw [oi_add]; exact K hR p e R s m args below meth c G ca sb o hC H locs cells slots lsr hW h1 h2 hL)
theorem ev_isub {x y : Int} (hd : decode k.1 pc = .ok (.isub, 1)) (hq : pc + 1 = q) (K : Ev l X d k b S M q ls (vi (x - y) :: st) Q) : Ev l X d k b S M pc ls (vi y :: vi x :: st) Q := by
  intro hR p e R s m args below meth c G ca sb o hC H locs cells slots lsr hW h1 h2 hL
  obtain ⟨hx, hb, hr, hlk, hml, hown, hts, hex, hin, hf, hlo, hK, hos, hX⟩ := id hC
  subst hq
  exact lv_isub hx hb hd (by rw [oi_sub]; exact K hR p e R s m args below meth c G ca sb o hC H locs cells slots lsr hW h1 h2 hL)
theorem ev_imul {x y : Int} (hd : decode k.1 pc = .ok (.imul, 1)) (hq : pc + 1 = q) (K : Ev l X d k b S M q ls (vi (x * y) :: st) Q) : Ev l X d k b S M pc ls (vi y :: vi x :: st) Q := by
  intro hR p e R s m args below meth c G ca sb o hC H locs cells slots lsr hW h1 h2 hL
  obtain ⟨hx, hb, hr, hlk, hml, hown, hts, hex, hin, hf, hlo, hK, hos, hX⟩ := id hC
  subst hq
  exact lv_imul hx hb hd (by rw [oi_mul]; exact K hR p e R s m args below meth c G ca sb o hC H locs cells slots lsr hW h1 h2 hL)
theorem ev_iand {x y : Int} (hd : decode k.1 pc = .ok (.iand, 1)) (hq : pc + 1 = q) (K : Ev l X d k b S M q ls (vi ((Int32.ofInt x &&& Int32.ofInt y).toInt) :: st) Q) : Ev l X d k b S M pc ls (vi y :: vi x :: st) Q := by
  intro hR p e R s m args below meth c G ca sb o hC H locs cells slots lsr hW h1 h2 hL
  obtain ⟨hx, hb, hr, hlk, hml, hown, hts, hex, hin, hf, hlo, hK, hos, hX⟩ := id hC
  subst hq
  have kk := K hR p e R s m args below meth c G ca sb o hC H locs cells slots lsr hW h1 h2 hL
  simp only [List.map_cons, tr, Int32.ofInt_toInt] at kk
  exact lv_iand hx hb hd kk
theorem ev_ixor {x y : Int} (hd : decode k.1 pc = .ok (.ixor, 1)) (hq : pc + 1 = q) (K : Ev l X d k b S M q ls (vi ((Int32.ofInt x ^^^ Int32.ofInt y).toInt) :: st) Q) : Ev l X d k b S M pc ls (vi y :: vi x :: st) Q := by
  intro hR p e R s m args below meth c G ca sb o hC H locs cells slots lsr hW h1 h2 hL
  obtain ⟨hx, hb, hr, hlk, hml, hown, hts, hex, hin, hf, hlo, hK, hos, hX⟩ := id hC
  subst hq
  have kk := K hR p e R s m args below meth c G ca sb o hC H locs cells slots lsr hW h1 h2 hL
  simp only [List.map_cons, tr, Int32.ofInt_toInt] at kk
  exact lv_ixor hx hb hd kk
theorem ev_ishr {x y : Int} (hd : decode k.1 pc = .ok (.ishr, 1)) (hq : pc + 1 = q) (K : Ev l X d k b S M q ls (vi ((Int32.ofInt x >>> (Int32.ofInt y &&& 31)).toInt) :: st) Q) : Ev l X d k b S M pc ls (vi y :: vi x :: st) Q := by
  intro hR p e R s m args below meth c G ca sb o hC H locs cells slots lsr hW h1 h2 hL
  obtain ⟨hx, hb, hr, hlk, hml, hown, hts, hex, hin, hf, hlo, hK, hos, hX⟩ := id hC
  subst hq
  have kk := K hR p e R s m args below meth c G ca sb o hC H locs cells slots lsr hW h1 h2 hL
  simp only [List.map_cons, tr, Int32.ofInt_toInt] at kk
  exact lv_ishr hx hb hd kk
theorem ev_iushr {x y : Int} (hd : decode k.1 pc = .ok (.iushr, 1)) (hq : pc + 1 = q) (K : Ev l X d k b S M q ls (vi (((Int32.ofInt x).toUInt32 >>> ((Int32.ofInt y).toUInt32 &&& Int32.toUInt32 31)).toInt32.toInt) :: st) Q) : Ev l X d k b S M pc ls (vi y :: vi x :: st) Q := by
  intro hR p e R s m args below meth c G ca sb o hC H locs cells slots lsr hW h1 h2 hL
  obtain ⟨hx, hb, hr, hlk, hml, hown, hts, hex, hin, hf, hlo, hK, hos, hX⟩ := id hC
  subst hq
  have kk := K hR p e R s m args below meth c G ca sb o hC H locs cells slots lsr hW h1 h2 hL
  simp only [List.map_cons, tr, Int32.ofInt_toInt] at kk
  exact lv_iushr hx hb hd rfl kk
theorem oi_rem {x y : Int} (hx : inR x) (hy : inR y) (h0 : 0 ≤ x) (h1 : 0 < y) : Int32.ofInt x - Int32.ofInt x / Int32.ofInt y * Int32.ofInt y = Int32.ofInt (x % y) := by
  have e1 : (Int32.ofInt x / Int32.ofInt y) = Int32.ofInt (x / y) := by
    rw [← Int32.toInt_inj, lg_idiv_nonneg (by rw [oi_toInt hx]; exact h0) (by rw [oi_toInt hy]; exact h1), oi_toInt hx, oi_toInt hy, oi_toInt]
    have q1 : 0 ≤ x / y := Int.ediv_nonneg h0 (by omega)
    have q2 : x / y ≤ x := Int.ediv_le_self _ h0
    unfold inR at *
    omega
  rw [e1, oi_mul, oi_sub]
  congr 1
  have := Int.mul_ediv_add_emod x y
  rw [Int.mul_comm] at this
  omega
theorem ev_irem {x y : Int} (hd : decode k.1 pc = .ok (.irem, 1)) (hq : pc + 1 = q) (hxy : inR x ∧ inR y ∧ 0 ≤ x ∧ 0 < y) (K : Ev l X d k b S M q ls (vi (x % y) :: st) Q) : Ev l X d k b S M pc ls (vi y :: vi x :: st) Q := by
  intro hR p e R s m args below meth c G ca sb o hC H locs cells slots lsr hW h1 h2 hL
  obtain ⟨hx, hb, hr, hlk, hml, hown, hts, hex, hin, hf, hlo, hK, hos, hX⟩ := id hC
  subst hq
  obtain ⟨i1, i2, i3, i4⟩ := hxy
  exact lv_irem hx hb hd (by rw [oi_eq0 i2]; omega) (by rw [oi_rem i1 i2 i3 i4]; exact K hR p e R s m args below meth c G ca sb o hC H locs cells slots lsr hW h1 h2 hL)
theorem oi_i2c {x : Int} (h0 : 0 ≤ x) (h1 : x < 65536) : ((Int32.ofInt x).toUInt32 % 65536).toInt32 = Int32.ofInt x := by
  have hx : inR x := by unfold inR; omega
  exact lg_i2c_word (by rw [oi_toInt hx]; exact h0) (by rw [oi_toInt hx]; exact h1)
theorem ev_i2c {x : Int} (hd : decode k.1 pc = .ok (.i2c, 1)) (hq : pc + 1 = q) (hxy : 0 ≤ x ∧ x < 65536) (K : Ev l X d k b S M q ls (vi x :: st) Q) : Ev l X d k b S M pc ls (vi x :: st) Q := by
  intro hR p e R s m args below meth c G ca sb o hC H locs cells slots lsr hW h1 h2 hL
  obtain ⟨hx, hb, hr, hlk, hml, hown, hts, hex, hin, hf, hlo, hK, hos, hX⟩ := id hC
  subst hq
  exact lv_i2c hx hb hd (oi_i2c hxy.1 hxy.2) (K hR p e R s m args below meth c G ca sb o hC H locs cells slots lsr hW h1 h2 hL)
theorem ev_dup {v : ev_V} (hd : decode k.1 pc = .ok (.dup, 1)) (hq : pc + 1 = q) (K : Ev l X d k b S M q ls (v :: v :: st) Q) : Ev l X d k b S M pc ls (v :: st) Q := by
  intro hR p e R s m args below meth c G ca sb o hC H locs cells slots lsr hW h1 h2 hL
  obtain ⟨hx, hb, hr, hlk, hml, hown, hts, hex, hin, hf, hlo, hK, hos, hX⟩ := id hC
  subst hq
  exact lv_dup hx hb hd (tr_cat sb o v) (K hR p e R s m args below meth c G ca sb o hC H locs cells slots lsr hW h1 h2 hL)
theorem ev_pop {v : ev_V} (hd : decode k.1 pc = .ok (.pop, 1)) (hq : pc + 1 = q) (K : Ev l X d k b S M q ls st Q) : Ev l X d k b S M pc ls (v :: st) Q := by
  intro hR p e R s m args below meth c G ca sb o hC H locs cells slots lsr hW h1 h2 hL
  obtain ⟨hx, hb, hr, hlk, hml, hown, hts, hex, hin, hf, hlo, hK, hos, hX⟩ := id hC
  subst hq
  exact lv_pop hx hb hd (tr_cat sb o v) (K hR p e R s m args below meth c G ca sb o hC H locs cells slots lsr hW h1 h2 hL)
theorem ev_dup2 {v w : ev_V} (hd : decode k.1 pc = .ok (.dup2, 1)) (hq : pc + 1 = q) (K : Ev l X d k b S M q ls (v :: w :: v :: w :: st) Q) : Ev l X d k b S M pc ls (v :: w :: st) Q := by
  intro hR p e R s m args below meth c G ca sb o hC H locs cells slots lsr hW h1 h2 hL
  obtain ⟨hx, hb, hr, hlk, hml, hown, hts, hex, hin, hf, hlo, hK, hos, hX⟩ := id hC
  subst hq
  exact lv_dup2_11 hx hb hd (tr_cat sb o v) (tr_cat sb o w) (K hR p e R s m args below meth c G ca sb o hC H locs cells slots lsr hW h1 h2 hL)
theorem ev_goto {off : Int} (hd : decode k.1 pc = .ok (.goto off, 3)) (hq : (pc : Int) + off = (q : Int)) (K : Ev l X d k b S M q ls st Q) : Ev l X d k b S M pc ls st Q := by
  intro hR p e R s m args below meth c G ca sb o hC H locs cells slots lsr hW h1 h2 hL
  obtain ⟨hx, hb, hr, hlk, hml, hown, hts, hex, hin, hf, hlo, hK, hos, hX⟩ := id hC
  exact lv_goto hx hb hd hq (K hR p e R s m args below meth c G ca sb o hC H locs cells slots lsr hW h1 h2 hL)

theorem ev_icmp_eq {x y off : Int} {t : Nat} (hd : decode k.1 pc = .ok (.if_icmp .eq off, 3)) (ht : (pc : Int) + off = (t : Int)) (hq : pc + 3 = q) (i1 : inR x) (i2 : inR y) (Kt : x = y → Ev l X d k b S M t ls st Q) (Kf : ¬ x = y → Ev l X d k b S M q ls st Q) : Ev l X d k b S M pc ls (vi y :: vi x :: st) Q := by
  intro hR p e R s m args below meth c G ca sb o hC H locs cells slots lsr hW h1 h2 hL
  obtain ⟨hx, hb, hr, hlk, hml, hown, hts, hex, hin, hf, hlo, hK, hos, hX⟩ := id hC
  subst hq
  exact lv_icmp_eq hx hb hd ht (fun h => Kt ((oi_eq i1 i2).mp h) hR p e R s m args below meth c G ca sb o hC H locs cells slots lsr hW h1 h2 hL) (fun h => Kf (fun z => h ((oi_eq i1 i2).mpr z)) hR p e R s m args below meth c G ca sb o hC H locs cells slots lsr hW h1 h2 hL)
theorem ev_icmp_ne {x y off : Int} {t : Nat} (hd : decode k.1 pc = .ok (.if_icmp .ne off, 3)) (ht : (pc : Int) + off = (t : Int)) (hq : pc + 3 = q) (i1 : inR x) (i2 : inR y) (Kt : ¬ x = y → Ev l X d k b S M t ls st Q) (Kf : x = y → Ev l X d k b S M q ls st Q) : Ev l X d k b S M pc ls (vi y :: vi x :: st) Q := by
  intro hR p e R s m args below meth c G ca sb o hC H locs cells slots lsr hW h1 h2 hL
  obtain ⟨hx, hb, hr, hlk, hml, hown, hts, hex, hin, hf, hlo, hK, hos, hX⟩ := id hC
  subst hq
  exact lv_icmp_ne hx hb hd ht (fun h => Kt (fun z => h (by rw [z])) hR p e R s m args below meth c G ca sb o hC H locs cells slots lsr hW h1 h2 hL) (fun h => Kf ((oi_eq i1 i2).mp h) hR p e R s m args below meth c G ca sb o hC H locs cells slots lsr hW h1 h2 hL)
theorem ev_icmp_lt {x y off : Int} {t : Nat} (hd : decode k.1 pc = .ok (.if_icmp .lt off, 3)) (ht : (pc : Int) + off = (t : Int)) (hq : pc + 3 = q) (i1 : inR x) (i2 : inR y) (Kt : x < y → Ev l X d k b S M t ls st Q) (Kf : ¬ x < y → Ev l X d k b S M q ls st Q) : Ev l X d k b S M pc ls (vi y :: vi x :: st) Q := by
  intro hR p e R s m args below meth c G ca sb o hC H locs cells slots lsr hW h1 h2 hL
  obtain ⟨hx, hb, hr, hlk, hml, hown, hts, hex, hin, hf, hlo, hK, hos, hX⟩ := id hC
  subst hq
  exact lv_icmp_lt hx hb hd ht (fun h => Kt ((oi_lt i1 i2).mp h) hR p e R s m args below meth c G ca sb o hC H locs cells slots lsr hW h1 h2 hL) (fun h => Kf (fun z => h ((oi_lt i1 i2).mpr z)) hR p e R s m args below meth c G ca sb o hC H locs cells slots lsr hW h1 h2 hL)
theorem ev_icmp_ge {x y off : Int} {t : Nat} (hd : decode k.1 pc = .ok (.if_icmp .ge off, 3)) (ht : (pc : Int) + off = (t : Int)) (hq : pc + 3 = q) (i1 : inR x) (i2 : inR y) (Kt : y ≤ x → Ev l X d k b S M t ls st Q) (Kf : ¬ y ≤ x → Ev l X d k b S M q ls st Q) : Ev l X d k b S M pc ls (vi y :: vi x :: st) Q := by
  intro hR p e R s m args below meth c G ca sb o hC H locs cells slots lsr hW h1 h2 hL
  obtain ⟨hx, hb, hr, hlk, hml, hown, hts, hex, hin, hf, hlo, hK, hos, hX⟩ := id hC
  subst hq
  exact lv_icmp_ge hx hb hd ht (fun h => Kt ((oi_le i2 i1).mp h) hR p e R s m args below meth c G ca sb o hC H locs cells slots lsr hW h1 h2 hL) (fun h => Kf (fun z => h ((oi_le i2 i1).mpr z)) hR p e R s m args below meth c G ca sb o hC H locs cells slots lsr hW h1 h2 hL)
theorem ev_icmp_gt {x y off : Int} {t : Nat} (hd : decode k.1 pc = .ok (.if_icmp .gt off, 3)) (ht : (pc : Int) + off = (t : Int)) (hq : pc + 3 = q) (i1 : inR x) (i2 : inR y) (Kt : y < x → Ev l X d k b S M t ls st Q) (Kf : ¬ y < x → Ev l X d k b S M q ls st Q) : Ev l X d k b S M pc ls (vi y :: vi x :: st) Q := by
  intro hR p e R s m args below meth c G ca sb o hC H locs cells slots lsr hW h1 h2 hL
  obtain ⟨hx, hb, hr, hlk, hml, hown, hts, hex, hin, hf, hlo, hK, hos, hX⟩ := id hC
  subst hq
  exact lv_icmp_gt hx hb hd ht (fun h => Kt ((oi_lt i2 i1).mp h) hR p e R s m args below meth c G ca sb o hC H locs cells slots lsr hW h1 h2 hL) (fun h => Kf (fun z => h ((oi_lt i2 i1).mpr z)) hR p e R s m args below meth c G ca sb o hC H locs cells slots lsr hW h1 h2 hL)
theorem ev_icmp_le {x y off : Int} {t : Nat} (hd : decode k.1 pc = .ok (.if_icmp .le off, 3)) (ht : (pc : Int) + off = (t : Int)) (hq : pc + 3 = q) (i1 : inR x) (i2 : inR y) (Kt : x ≤ y → Ev l X d k b S M t ls st Q) (Kf : ¬ x ≤ y → Ev l X d k b S M q ls st Q) : Ev l X d k b S M pc ls (vi y :: vi x :: st) Q := by
  intro hR p e R s m args below meth c G ca sb o hC H locs cells slots lsr hW h1 h2 hL
  obtain ⟨hx, hb, hr, hlk, hml, hown, hts, hex, hin, hf, hlo, hK, hos, hX⟩ := id hC
  subst hq
  exact lv_icmp_le hx hb hd ht (fun h => Kt ((oi_le i1 i2).mp h) hR p e R s m args below meth c G ca sb o hC H locs cells slots lsr hW h1 h2 hL) (fun h => Kf (fun z => h ((oi_le i1 i2).mpr z)) hR p e R s m args below meth c G ca sb o hC H locs cells slots lsr hW h1 h2 hL)
theorem ev_if_eq {x off : Int} {t : Nat} (hd : decode k.1 pc = .ok (.ifCond .eq off, 3)) (ht : (pc : Int) + off = (t : Int)) (hq : pc + 3 = q) (i1 : inR x) (Kt : x = 0 → Ev l X d k b S M t ls st Q) (Kf : ¬ x = 0 → Ev l X d k b S M q ls st Q) : Ev l X d k b S M pc ls (vi x :: st) Q := by
  intro hR p e R s m args below meth c G ca sb o hC H locs cells slots lsr hW h1 h2 hL
  obtain ⟨hx, hb, hr, hlk, hml, hown, hts, hex, hin, hf, hlo, hK, hos, hX⟩ := id hC
  subst hq
  exact lv_if_eq hx hb hd ht (fun h => Kt ((oi_eq0 i1).mp h) hR p e R s m args below meth c G ca sb o hC H locs cells slots lsr hW h1 h2 hL) (fun h => Kf (fun z => h ((oi_eq0 i1).mpr z)) hR p e R s m args below meth c G ca sb o hC H locs cells slots lsr hW h1 h2 hL)
theorem ev_if_ne {x off : Int} {t : Nat} (hd : decode k.1 pc = .ok (.ifCond .ne off, 3)) (ht : (pc : Int) + off = (t : Int)) (hq : pc + 3 = q) (i1 : inR x) (Kt : ¬ x = 0 → Ev l X d k b S M t ls st Q) (Kf : x = 0 → Ev l X d k b S M q ls st Q) : Ev l X d k b S M pc ls (vi x :: st) Q := by
  intro hR p e R s m args below meth c G ca sb o hC H locs cells slots lsr hW h1 h2 hL
  obtain ⟨hx, hb, hr, hlk, hml, hown, hts, hex, hin, hf, hlo, hK, hos, hX⟩ := id hC
  subst hq
  exact lv_if_ne hx hb hd ht (fun h => Kt (fun z => h ((oi_eq0 i1).mpr z)) hR p e R s m args below meth c G ca sb o hC H locs cells slots lsr hW h1 h2 hL) (fun h => Kf ((oi_eq0 i1).mp h) hR p e R s m args below meth c G ca sb o hC H locs cells slots lsr hW h1 h2 hL)
theorem ev_if_lt {x off : Int} {t : Nat} (hd : decode k.1 pc = .ok (.ifCond .lt off, 3)) (ht : (pc : Int) + off = (t : Int)) (hq : pc + 3 = q) (i1 : inR x) (Kt : x < 0 → Ev l X d k b S M t ls st Q) (Kf : ¬ x < 0 → Ev l X d k b S M q ls st Q) : Ev l X d k b S M pc ls (vi x :: st) Q := by
  intro hR p e R s m args below meth c G ca sb o hC H locs cells slots lsr hW h1 h2 hL
  obtain ⟨hx, hb, hr, hlk, hml, hown, hts, hex, hin, hf, hlo, hK, hos, hX⟩ := id hC
  subst hq
  exact lv_if_lt hx hb hd ht (fun h => Kt ((oi_lt0 i1).mp h) hR p e R s m args below meth c G ca sb o hC H locs cells slots lsr hW h1 h2 hL) (fun h => Kf (fun z => h ((oi_lt0 i1).mpr z)) hR p e R s m args below meth c G ca sb o hC H locs cells slots lsr hW h1 h2 hL)
theorem ev_if_ge {x off : Int} {t : Nat} (hd : decode k.1 pc = .ok (.ifCond .ge off, 3)) (ht : (pc : Int) + off = (t : Int)) (hq : pc + 3 = q) (i1 : inR x) (Kt : 0 ≤ x → Ev l X d k b S M t ls st Q) (Kf : ¬ 0 ≤ x → Ev l X d k b S M q ls st Q) : Ev l X d k b S M pc ls (vi x :: st) Q := by
  intro hR p e R s m args below meth c G ca sb o hC H locs cells slots lsr hW h1 h2 hL
  obtain ⟨hx, hb, hr, hlk, hml, hown, hts, hex, hin, hf, hlo, hK, hos, hX⟩ := id hC
  subst hq
  exact lv_if_ge hx hb hd ht (fun h => Kt ((oi_0le i1).mp h) hR p e R s m args below meth c G ca sb o hC H locs cells slots lsr hW h1 h2 hL) (fun h => Kf (fun z => h ((oi_0le i1).mpr z)) hR p e R s m args below meth c G ca sb o hC H locs cells slots lsr hW h1 h2 hL)
theorem ev_if_gt {x off : Int} {t : Nat} (hd : decode k.1 pc = .ok (.ifCond .gt off, 3)) (ht : (pc : Int) + off = (t : Int)) (hq : pc + 3 = q) (i1 : inR x) (Kt : 0 < x → Ev l X d k b S M t ls st Q) (Kf : ¬ 0 < x → Ev l X d k b S M q ls st Q) : Ev l X d k b S M pc ls (vi x :: st) Q := by
  intro hR p e R s m args below meth c G ca sb o hC H locs cells slots lsr hW h1 h2 hL
  obtain ⟨hx, hb, hr, hlk, hml, hown, hts, hex, hin, hf, hlo, hK, hos, hX⟩ := id hC
  subst hq
  exact lv_if_gt hx hb hd ht (fun h => Kt ((oi_0lt i1).mp h) hR p e R s m args below meth c G ca sb o hC H locs cells slots lsr hW h1 h2 hL) (fun h => Kf (fun z => h ((oi_0lt i1).mpr z)) hR p e R s m args below meth c G ca sb o hC H locs cells slots lsr hW h1 h2 hL)
theorem ev_if_le {x off : Int} {t : Nat} (hd : decode k.1 pc = .ok (.ifCond .le off, 3)) (ht : (pc : Int) + off = (t : Int)) (hq : pc + 3 = q) (i1 : inR x) (Kt : x ≤ 0 → Ev l X d k b S M t ls st Q) (Kf : ¬ x ≤ 0 → Ev l X d k b S M q ls st Q) : Ev l X d k b S M pc ls (vi x :: st) Q := by
  intro hR p e R s m args below meth c G ca sb o hC H locs cells slots lsr hW h1 h2 hL
  obtain ⟨hx, hb, hr, hlk, hml, hown, hts, hex, hin, hf, hlo, hK, hos, hX⟩ := id hC
  subst hq
  exact lv_if_le hx hb hd ht (fun h => Kt ((oi_le0 i1).mp h) hR p e R s m args below meth c G ca sb o hC H locs cells slots lsr hW h1 h2 hL) (fun h => Kf (fun z => h ((oi_le0 i1).mpr z)) hR p e R s m args below meth c G ca sb o hC H locs cells slots lsr hW h1 h2 hL)
theorem ev_b_eq {c : Prop} [Decidable c] {off : Int} {t : Nat} (hd : decode k.1 pc = .ok (.ifCond .eq off, 3)) (ht : (pc : Int) + off = (t : Int)) (hq : pc + 3 = q) (Kt : ¬ c → Ev l X d k b S M t ls st Q) (Kf : c → Ev l X d k b S M q ls st Q) : Ev l X d k b S M pc ls (vi (if c then 1 else 0) :: st) Q := by
  by_cases h : c
  · rw [if_pos h]
    exact ev_if_eq hd ht hq (by unfold inR; omega) (fun z => absurd z (by omega)) (fun _ => Kf h)
  · rw [if_neg h]
    exact ev_if_eq hd ht hq (by unfold inR; omega) (fun _ => Kt h) (fun z => absurd rfl z)
theorem ev_b_ne {c : Prop} [Decidable c] {off : Int} {t : Nat} (hd : decode k.1 pc = .ok (.ifCond .ne off, 3)) (ht : (pc : Int) + off = (t : Int)) (hq : pc + 3 = q) (Kt : c → Ev l X d k b S M t ls st Q) (Kf : ¬ c → Ev l X d k b S M q ls st Q) : Ev l X d k b S M pc ls (vi (if c then 1 else 0) :: st) Q := by
  by_cases h : c
  · rw [if_pos h]
    exact ev_if_ne hd ht hq (by unfold inR; omega) (fun _ => Kt h) (fun z => absurd z (by omega))
  · rw [if_neg h]
    exact ev_if_ne hd ht hq (by unfold inR; omega) (fun z => absurd rfl z) (fun _ => Kf h)
theorem ev_ifnonnull {r : Option Nat} {off : Int} {t : Nat} (hd : decode k.1 pc = .ok (.ifnonnull off, 3)) (ht : (pc : Int) + off = (t : Int)) (K : Ev l X d k b S M t ls st Q) : Ev l X d k b S M pc ls (.inr (some r) :: st) Q := by
  intro hR p e R s m args below meth c G ca sb o hC H locs cells slots lsr hW h1 h2 hL
  obtain ⟨hx, hb, hr, hlk, hml, hown, hts, hex, hin, hf, hlo, hK, hos, hX⟩ := id hC
  rcases r with _ | r
  · exact lv_ifnonnull hx hb hd ht (K hR p e R s m args below meth c G ca sb o hC H locs cells slots lsr hW h1 h2 hL)
  · exact lv_ifnonnull hx hb hd ht (K hR p e R s m args below meth c G ca sb o hC H locs cells slots lsr hW h1 h2 hL)
theorem ev_ifnull {r : Option Nat} {off : Int} (hd : decode k.1 pc = .ok (.ifnull off, 3)) (hq : pc + 3 = q) (K : Ev l X d k b S M q ls st Q) : Ev l X d k b S M pc ls (.inr (some r) :: st) Q := by
  intro hR p e R s m args below meth c G ca sb o hC H locs cells slots lsr hW h1 h2 hL
  obtain ⟨hx, hb, hr, hlk, hml, hown, hts, hex, hin, hf, hlo, hK, hos, hX⟩ := id hC
  subst hq
  rcases r with _ | r
  · exact lv_ifnull hx hb hd (K hR p e R s m args below meth c G ca sb o hC H locs cells slots lsr hW h1 h2 hL)
  · exact lv_ifnull hx hb hd (K hR p e R s m args below meth c G ca sb o hC H locs cells slots lsr hW h1 h2 hL)
theorem ev_ifnullN {off : Int} {t : Nat} (hd : decode k.1 pc = .ok (.ifnull off, 3)) (ht : (pc : Int) + off = (t : Int)) (K : Ev l X d k b S M t ls st Q) : Ev l X d k b S M pc ls (vn :: st) Q := by
  intro hR p e R s m args below meth c G ca sb o hC H locs cells slots lsr hW h1 h2 hL
  obtain ⟨hx, hb, hr, hlk, hml, hown, hts, hex, hin, hf, hlo, hK, hos, hX⟩ := id hC
  exact lv_ifnullN hx hb hd ht (K hR p e R s m args below meth c G ca sb o hC H locs cells slots lsr hW h1 h2 hL)
theorem ev_ifnonnullN {off : Int} (hd : decode k.1 pc = .ok (.ifnonnull off, 3)) (hq : pc + 3 = q) (K : Ev l X d k b S M q ls st Q) : Ev l X d k b S M pc ls (vn :: st) Q := by
  intro hR p e R s m args below meth c G ca sb o hC H locs cells slots lsr hW h1 h2 hL
  obtain ⟨hx, hb, hr, hlk, hml, hown, hts, hex, hin, hf, hlo, hK, hos, hX⟩ := id hC
  subst hq
  exact lv_ifnonnullN hx hb hd (K hR p e R s m args below meth c G ca sb o hC H locs cells slots lsr hW h1 h2 hL)
theorem ev_tableOut {dflt lo hi : Int} {offs : Array Int} {len : Nat} {x : Int} {t : Nat} (hd : decode k.1 pc = .ok (.tableswitch dflt lo hi offs, len)) (i1 : inR x) (h : x < lo ∨ hi < x) (ht : (pc : Int) + dflt = (t : Int)) (K : Ev l X d k b S M t ls st Q) : Ev l X d k b S M pc ls (vi x :: st) Q := by
  intro hR p e R s m args below meth c G ca sb o hC H locs cells slots lsr hW h1 h2 hL
  obtain ⟨hx, hb, hr, hlk, hml, hown, hts, hex, hin, hf, hlo, hK, hos, hX⟩ := id hC
  exact lv_tableOut hx hb hd (by rw [oi_toInt i1]; exact h) ht (K hR p e R s m args below meth c G ca sb o hC H locs cells slots lsr hW h1 h2 hL)
theorem ev_tableIn {dflt lo hi : Int} {offs : Array Int} {len : Nat} {x : Int} {t : Nat} {off : Int} (hd : decode k.1 pc = .ok (.tableswitch dflt lo hi offs, len)) (i1 : inR x) (g1 : lo ≤ x) (g2 : x ≤ hi) (ho : offs[(x - lo).toNat]? = some off) (ht : (pc : Int) + off = (t : Int)) (K : Ev l X d k b S M t ls st Q) : Ev l X d k b S M pc ls (vi x :: st) Q := by
  intro hR p e R s m args below meth c G ca sb o hC H locs cells slots lsr hW h1 h2 hL
  obtain ⟨hx, hb, hr, hlk, hml, hown, hts, hex, hin, hf, hlo, hK, hos, hX⟩ := id hC
  exact lv_tableIn hx hb hd (by rw [oi_toInt i1]; omega) (by rw [oi_toInt i1]; omega) (by rw [oi_toInt i1]; exact ho) ht (K hR p e R s m args below meth c G ca sb o hC H locs cells slots lsr hW h1 h2 hL)
-- ends
theorem va_F_of_S {o : Nat} {s t : State} {H : Heap} {locs : List Loc} (h : va_S (ev_A o) s.heap H locs) (ht : t.heap = H) : va_F (ev_A o) s t := h.F ht
theorem ev_ireturn {x : Int} {ty : FieldType} (hd : decode k.1 pc = .ok (.ireturn, 1)) (hret : k.2.2.2.1 = some ty) (hn : narrow ty (.int (Int32.ofInt x)) = .int (Int32.ofInt x)) (i1 : inR x) (hQ : Q (some (vi x)) S M) : Ev l X d k b S M pc ls [vi x] Q := by
  intro hR p e R s m args below meth c G ca sb o hC H locs cells slots lsr hW h1 h2 hL
  obtain ⟨hx, hb, hr, hlk, hml, hown, hts, hex, hin, hf, hlo, hK, hos, hX⟩ := id hC
  refine W.widen (k := R.cells) (n := R.slots) (by omega) (by omega) ?_
  refine W.zret hx hb (hr.trans hret) hn (fun t ht _ => ⟨⟨some (vi x), S, M, hQ, hR, fun y hy => ?_, rfl, by rw [ht]; exact hW.1, by rw [ht]; exact hW.2.1⟩, hW.2.2.F ht⟩) hW.2.2.2.2 hd hlk
  cases hy; exact i1
theorem ev_return (hd : decode k.1 pc = .ok (.return_, 1)) (hret : k.2.2.2.1 = none) (hQ : Q none S M) : Ev l X d k b S M pc ls [] Q := by
  intro hR p e R s m args below meth c G ca sb o hC H locs cells slots lsr hW h1 h2 hL
  obtain ⟨hx, hb, hr, hlk, hml, hown, hts, hex, hin, hf, hlo, hK, hos, hX⟩ := id hC
  refine W.widen (k := R.cells) (n := R.slots) (by omega) (by omega) ?_
  exact W.vret hx hb (hr.trans hret) (fun t ht _ => ⟨⟨none, S, M, hQ, hR, fun y hy => (by cases hy), rfl, by rw [ht]; exact hW.1, by rw [ht]; exact hW.2.1⟩, hW.2.2.F ht⟩) hW.2.2.2.2 hd hlk
theorem ev_areturn {r : Option (Option Nat)} {C : String} (hd : decode k.1 pc = .ok (.areturn, 1)) (hret : k.2.2.2.1 = some (.object C)) (hQ : Q (some (.inr r)) S M) : Ev l X d k b S M pc ls [.inr r] Q := by
  intro hR p e R s m args below meth c G ca sb o hC H locs cells slots lsr hW h1 h2 hL
  obtain ⟨hx, hb, hr, hlk, hml, hown, hts, hex, hin, hf, hlo, hK, hos, hX⟩ := id hC
  refine W.widen (k := R.cells) (n := R.slots) (by omega) (by omega) ?_
  refine W.aret hx hb (hr.trans hret) (Or.inl ⟨_, rfl⟩) ?_ (fun t ht _ => ⟨⟨some (.inr r), S, M, hQ, hR, fun y hy => (by cases hy), rfl, by rw [ht]; exact hW.1, by rw [ht]; exact hW.2.1⟩, hW.2.2.F ht⟩) hW.2.2.2.2 hd hlk
  rcases r with _ | r
  · exact Or.inl rfl
  · rcases r with _ | r <;> exact Or.inr ⟨_, rfl⟩

end EvRules
