section Mf
variable {l : Launch} {M0 M : ev_M} {t : Nat → Int} {len el : Int} {P : PS}
def FrW (M M2 : ev_M) : Prop := (∀ i, i ≠ 100 → i ≠ 104 → i ≠ 105 → M2 i = M i) ∧ M2 100 2 = M 100 2 ∧ M2 100 4 = M 100 4
theorem FrW.tr {M1 M2 : ev_M} (h : FrW M M1) (h2 : MF M1 M2) : FrW M M2 := ⟨fun i a b c => (h2.1 i a c).trans (h.1 i a b c), h2.2.1.trans h.2.1, h2.2.2.trans h.2.2⟩
theorem MP.g {k : Nat} {x : Int} (h : MP t len M P) : MP t len (up M 104 k x) P := by
  obtain ⟨h1, h2, h3, h4, h5, h6, h7, h8, h9⟩ := h
  refine ⟨?_, ?_, ?_, ?_, h5, h6, ?_, ?_, h9⟩
  · rw [up_ne (by decide)]; exact h1
  · rw [up_ne (by decide)]; exact h2
  · rw [up_ne (by decide)]; exact h3
  · intro k hk; rw [up_ne (by decide)]; exact h4 k hk
  · rw [up_ne (by decide)]; exact h7
  · intro k hk; rw [up_ne (by decide)]; exact h8 k hk
theorem FrW.g {k : Nat} {x : Int} {M2 : ev_M} (h : FrW M M2) : FrW M (up M2 104 k x) := ⟨fun i a b c => by rw [up_ne b]; exact h.1 i a b c, by rw [up_ne (by decide)]; exact h.2.1, by rw [up_ne (by decide)]; exact h.2.2⟩
theorem MF.rf : MF M M := ⟨fun _ _ _ => rfl, rfl, rfl⟩
/-- how far the text is read before what stands behind it -/
def enP (t : Nat → Int) (len el : Int) : PS := demS t len 125 (bdy t len 81 (demS t len 123 (hdP t len el)))
def GotR (t : Nat → Int) (len el : Int) (g : Nat → Int) : Prop := g 0 = (hd1 t len).1 ∧ g 1 = (hd2 t len).1 ∧ g 2 = (hd3 t len).1 ∧ g 4 = (hd4 t len el).1 ∧ g 3 = (hd5 t len el).1 ∧ g 5 = hdI t len el
abbrev FQ (t : Nat → Int) (len el : Int) (M0 : ev_M) : Option ev_V → List ev_Sh → ev_M → Prop := QI S0 (fun x M2 => x = (if fltV t len el = -1 then -14 else fltV t len el) ∧ MP t len M2 (enP t len el) ∧ GotR t len el (M2 104) ∧ FrW M0 M2)
set_option maxHeartbeats 2000000 in
theorem t_f239 {w : Option ev_V} (h : MP t len M P) (hE : enP t len el = demS t len 125 P) (hg : GotR t len el (M 104)) (hF : FrW M0 M) : Ev l none 3 kX8_faulty (0, 0) S0 M 239 [some (vr 100), w] [] (FQ t len el M0) := by
  have hfl : fltV t len el = if pwr (trS len (demS t len 125 P)) = true then pat (trS len (demS t len 125 P)) else pbd (trS len (demS t len 125 P)) := by rw [← hE]; rfl
  refine ev_aload_0 (q := 240) dX8_faulty_239 rfl ?_
  refine ev_bipush (q := 242) dX8_faulty_240 rfl (by decide) ?_
  refine ev_callV1vR (q := 245) dX8_faulty_242 vs_RX8_155 (by first | assumption | rfl) (q_wants (M0 := M) ⟨h, MF.rf⟩ (by decide)) (by decide) (Nat.le_of_ble_eq_true rfl) rfl (fun M_242 hq_242 => ?_)
  obtain ⟨m1, m2⟩ := hq_242
  obtain ⟨h1, h2, h3, h4, h5, h6, h7, h8, h9⟩ := id m1
  have hb := b01_rng (pwr (demS t len 125 P))
  have hgot : GotR t len el (M_242 104) := by rw [m2.1 104 (by decide) (by decide)]; exact hg
  have hfr := hF.tr m2
  refine ev_aload_0 (q := 246) dX8_faulty_245 rfl ?_
  refine ev_getI (q := 249) dX8_faulty_246 fl_RX8_138 (by first | assumption | rfl) (by rfl) rfl (fun h_246 => ?_)
  rw [h2] at h_246 ⊢
  refine ev_if_ne (t := 263) (q := 252) dX8_faulty_249 (by decide) rfl (by constructor <;> omega) (fun h_249 => ?_) (fun h_249 => ?_)
  · refine ev_aload_0 (q := 264) dX8_faulty_263 rfl ?_
    refine ev_getI (q := 267) dX8_faulty_264 fl_RX8_142 (by first | assumption | rfl) (by rfl) rfl (fun h_264 => ?_)
    rw [h1] at h_264 ⊢
    refine ev_goto (q := 287) dX8_faulty_267 (by decide) ?_
    first | (rw [h3] at h_284 ⊢) | skip
    refine ev_ireturn dX8_faulty_287 rfl rfl (by constructor <;> omega) ?_
    refine ⟨_, rfl, rfl, ?_, by rw [hE]; exact m1, hgot, hfr⟩
    rw [hfl]
    unfold trS
    first
    | (have hx : ¬ b01 (pwr (demS t len 125 P)) = 0 := h_249
       have hw : pwr (demS t len 125 P) = true := Bool.of_not_eq_false (fun q => hx (b01_t.2 q))
       by_cases q : pat (demS t len 125 P) < len
       · rw [if_pos q, if_pos rfl, if_neg (show ¬ pat (demS t len 125 P) = -1 by omega)]
       · rw [if_neg q, if_pos hw, if_neg (show ¬ pat (demS t len 125 P) = -1 by omega)])
    | (have hx : ¬ len ≤ pat (demS t len 125 P) := h_260
       rw [if_pos (show pat (demS t len 125 P) < len by omega), if_pos rfl, if_neg (show ¬ pat (demS t len 125 P) = -1 by omega)])
    | (have hx : pbd (demS t len 125 P) = -1 := h_275
       have hw : ¬ pwr (demS t len 125 P) = true := fun q => by have := b01_t.1 h_249; rw [q] at this; exact absurd this (by decide)
       rw [if_neg (show ¬ pat (demS t len 125 P) < len by omega), if_neg hw, if_pos hx])
    | (have hx : ¬ pbd (demS t len 125 P) = -1 := h_275
       have hw : ¬ pwr (demS t len 125 P) = true := fun q => by have := b01_t.1 h_249; rw [q] at this; exact absurd this (by decide)
       rw [if_neg (show ¬ pat (demS t len 125 P) < len by omega), if_neg hw, if_neg hx])
  · refine ev_aload_0 (q := 253) dX8_faulty_252 rfl ?_
    refine ev_getI (q := 256) dX8_faulty_253 fl_RX8_142 (by first | assumption | rfl) (by rfl) rfl (fun h_253 => ?_)
    rw [h1] at h_253 ⊢
    refine ev_aload_0 (q := 257) dX8_faulty_256 rfl ?_
    refine ev_getI (q := 260) dX8_faulty_257 fl_RX8_85 (by first | assumption | rfl) (by rfl) rfl (fun h_257 => ?_)
    rw [h7] at h_257 ⊢
    refine ev_icmp_ge (t := 270) (q := 263) dX8_faulty_260 (by decide) rfl (by constructor <;> omega) (by constructor <;> omega) (fun h_260 => ?_) (fun h_260 => ?_)
    · refine ev_aload_0 (q := 271) dX8_faulty_270 rfl ?_
      refine ev_getI (q := 274) dX8_faulty_271 fl_RX8_149 (by first | assumption | rfl) (by rfl) rfl (fun h_271 => ?_)
      rw [h3] at h_271 ⊢
      refine ev_iconst (q := 275) dX8_faulty_274 rfl ?_
      refine ev_icmp_ne (t := 283) (q := 278) dX8_faulty_275 (by decide) rfl (by constructor <;> omega) (by constructor <;> omega) (fun h_275 => ?_) (fun h_275 => ?_)
      · refine ev_aload_0 (q := 284) dX8_faulty_283 rfl ?_
        refine ev_getI (q := 287) dX8_faulty_284 fl_RX8_149 (by first | assumption | rfl) (by rfl) rfl (fun h_284 => ?_)
        first | (rw [h3] at h_284 ⊢) | skip
        refine ev_ireturn dX8_faulty_287 rfl rfl (by constructor <;> omega) ?_
        refine ⟨_, rfl, rfl, ?_, by rw [hE]; exact m1, hgot, hfr⟩
        rw [hfl]
        unfold trS
        first
        | (have hx : ¬ b01 (pwr (demS t len 125 P)) = 0 := h_249
           have hw : pwr (demS t len 125 P) = true := Bool.of_not_eq_false (fun q => hx (b01_t.2 q))
           by_cases q : pat (demS t len 125 P) < len
           · rw [if_pos q, if_pos rfl, if_neg (show ¬ pat (demS t len 125 P) = -1 by omega)]
           · rw [if_neg q, if_pos hw, if_neg (show ¬ pat (demS t len 125 P) = -1 by omega)])
        | (have hx : ¬ len ≤ pat (demS t len 125 P) := h_260
           rw [if_pos (show pat (demS t len 125 P) < len by omega), if_pos rfl, if_neg (show ¬ pat (demS t len 125 P) = -1 by omega)])
        | (have hx : pbd (demS t len 125 P) = -1 := h_275
           have hw : ¬ pwr (demS t len 125 P) = true := fun q => by have := b01_t.1 h_249; rw [q] at this; exact absurd this (by decide)
           rw [if_neg (show ¬ pat (demS t len 125 P) < len by omega), if_neg hw, if_pos hx])
        | (have hx : ¬ pbd (demS t len 125 P) = -1 := h_275
           have hw : ¬ pwr (demS t len 125 P) = true := fun q => by have := b01_t.1 h_249; rw [q] at this; exact absurd this (by decide)
           rw [if_neg (show ¬ pat (demS t len 125 P) < len by omega), if_neg hw, if_neg hx])
      · refine ev_bipush (q := 280) dX8_faulty_278 rfl (by decide) ?_
        refine ev_goto (q := 287) dX8_faulty_280 (by decide) ?_
        first | (rw [h3] at h_284 ⊢) | skip
        refine ev_ireturn dX8_faulty_287 rfl rfl (by constructor <;> omega) ?_
        refine ⟨_, rfl, rfl, ?_, by rw [hE]; exact m1, hgot, hfr⟩
        rw [hfl]
        unfold trS
        first
        | (have hx : ¬ b01 (pwr (demS t len 125 P)) = 0 := h_249
           have hw : pwr (demS t len 125 P) = true := Bool.of_not_eq_false (fun q => hx (b01_t.2 q))
           by_cases q : pat (demS t len 125 P) < len
           · rw [if_pos q, if_pos rfl, if_neg (show ¬ pat (demS t len 125 P) = -1 by omega)]
           · rw [if_neg q, if_pos hw, if_neg (show ¬ pat (demS t len 125 P) = -1 by omega)])
        | (have hx : ¬ len ≤ pat (demS t len 125 P) := h_260
           rw [if_pos (show pat (demS t len 125 P) < len by omega), if_pos rfl, if_neg (show ¬ pat (demS t len 125 P) = -1 by omega)])
        | (have hx : pbd (demS t len 125 P) = -1 := h_275
           have hw : ¬ pwr (demS t len 125 P) = true := fun q => by have := b01_t.1 h_249; rw [q] at this; exact absurd this (by decide)
           rw [if_neg (show ¬ pat (demS t len 125 P) < len by omega), if_neg hw, if_pos hx])
        | (have hx : ¬ pbd (demS t len 125 P) = -1 := h_275
           have hw : ¬ pwr (demS t len 125 P) = true := fun q => by have := b01_t.1 h_249; rw [q] at this; exact absurd this (by decide)
           rw [if_neg (show ¬ pat (demS t len 125 P) < len by omega), if_neg hw, if_neg hx])
    · refine ev_aload_0 (q := 264) dX8_faulty_263 rfl ?_
      refine ev_getI (q := 267) dX8_faulty_264 fl_RX8_142 (by first | assumption | rfl) (by rfl) rfl (fun h_264 => ?_)
      rw [h1] at h_264 ⊢
      refine ev_goto (q := 287) dX8_faulty_267 (by decide) ?_
      first | (rw [h3] at h_284 ⊢) | skip
      refine ev_ireturn dX8_faulty_287 rfl rfl (by constructor <;> omega) ?_
      refine ⟨_, rfl, rfl, ?_, by rw [hE]; exact m1, hgot, hfr⟩
      rw [hfl]
      unfold trS
      first
      | (have hx : ¬ b01 (pwr (demS t len 125 P)) = 0 := h_249
         have hw : pwr (demS t len 125 P) = true := Bool.of_not_eq_false (fun q => hx (b01_t.2 q))
         by_cases q : pat (demS t len 125 P) < len
         · rw [if_pos q, if_pos rfl, if_neg (show ¬ pat (demS t len 125 P) = -1 by omega)]
         · rw [if_neg q, if_pos hw, if_neg (show ¬ pat (demS t len 125 P) = -1 by omega)])
      | (have hx : ¬ len ≤ pat (demS t len 125 P) := h_260
         rw [if_pos (show pat (demS t len 125 P) < len by omega), if_pos rfl, if_neg (show ¬ pat (demS t len 125 P) = -1 by omega)])
      | (have hx : pbd (demS t len 125 P) = -1 := h_275
         have hw : ¬ pwr (demS t len 125 P) = true := fun q => by have := b01_t.1 h_249; rw [q] at this; exact absurd this (by decide)
         rw [if_neg (show ¬ pat (demS t len 125 P) < len by omega), if_neg hw, if_pos hx])
      | (have hx : ¬ pbd (demS t len 125 P) = -1 := h_275
         have hw : ¬ pwr (demS t len 125 P) = true := fun q => by have := b01_t.1 h_249; rw [q] at this; exact absurd this (by decide)
         rw [if_neg (show ¬ pat (demS t len 125 P) < len by omega), if_neg hw, if_neg hx])
set_option maxHeartbeats 2000000 in
theorem lp_f200 {w : Option ev_V} : ∀ (n : Nat) (M : ev_M) (P : PS), MP t len M P → enP t len el = demS t len 125 (bdy t len n P) → (pwr P = false → 81 - (n : Int) ≤ pat P) → psd P 48 = 0 → GotR t len el (M 104) → FrW M0 M → Ev l none 3 kX8_faulty (0, 0) S0 M 200 [some (vr 100), w] [] (FQ t len el M0) := by
  intro n
  induction n with
  | zero =>
    intro M P h hE hm hz hg hF
    obtain ⟨h1, h2, h3, h4, h5, h6, h7, h8, h9⟩ := id h
    have hw : pwr P = true := Bool.of_not_eq_false (fun q => by have := hm q; omega)
    refine ev_aload_0 (q := 201) dX8_faulty_200 rfl ?_
    refine ev_getI (q := 204) dX8_faulty_201 fl_RX8_138 (by first | assumption | rfl) (by rfl) rfl (fun h_201 => ?_)
    rw [h2, hw] at h_201 ⊢
    refine ev_if_ne (t := 239) (q := 207) dX8_faulty_204 (by decide) rfl (by constructor <;> omega) (fun h_204 => ?_) (fun h_204 => ?_)
    · exact t_f239 h hE hg hF
    · exact absurd h_204 (by decide)
  | succ n ih =>
    intro M P h hE hm hz hg hF
    obtain ⟨h1, h2, h3, h4, h5, h6, h7, h8, h9⟩ := id h
    have hcu := h.ccu
    have hb := b01_rng (pwr P)
    have hno : ¬ (pwr P = true ∨ cur t len P = 125) → enP t len el = demS t len 125 (bdy t len n (decS t len P)) := fun q => by rw [hE, bdy, if_neg q]
    have hyes : (pwr P = true ∨ cur t len P = 125) → enP t len el = demS t len 125 P := fun q => by rw [hE, bdy, if_pos q]
    have hds := decS_sd (t := t) (len := len) (P := P) hz
    have hgo : pwr P = false → ¬ cur t len P = 125 → Ev l none 3 kX8_faulty (0, 0) S0 M 232 [some (vr 100), w] [] (FQ t len el M0) := by
      intro hw hc
      have hn : ¬ (pwr P = true ∨ cur t len P = 125) := fun q => q.elim (fun z => by rw [hw] at z; exact absurd z (by decide)) hc
      have hm2 := hm hw
      refine ev_aload_0 (q := 233) dX8_faulty_232 rfl ?_
      refine ev_callV0vR (q := 236) dX8_faulty_233 vs_RX8_159 (by first | assumption | rfl) (q_declares (M0 := M) ⟨h, MF.rf⟩) (by decide) (Nat.le_of_ble_eq_true rfl) rfl (fun M_233 hq_233 => ?_)
      refine ev_goto (q := 200) dX8_faulty_236 (by decide) ?_
      exact ih _ _ hq_233.1 (hno hn) (fun q => by have := hds.2 q; omega) hds.1 (by rw [hq_233.2.1 104 (by decide) (by decide)]; exact hg) (hF.tr hq_233.2)
    refine ev_aload_0 (q := 201) dX8_faulty_200 rfl ?_
    refine ev_getI (q := 204) dX8_faulty_201 fl_RX8_138 (by first | assumption | rfl) (by rfl) rfl (fun h_201 => ?_)
    rw [h2] at h_201 ⊢
    refine ev_if_ne (t := 239) (q := 207) dX8_faulty_204 (by decide) rfl (by constructor <;> omega) (fun h_204 => ?_) (fun h_204 => ?_)
    · first
      | (have hx : ¬ b01 (pwr P) = 0 := h_204
         exact t_f239 h (hyes (Or.inl (Bool.of_not_eq_false (fun q => hx (b01_t.2 q))))) hg hF)
      | (have hx : M 103 (pat P).toNat = 125 := h_229
         exact t_f239 h (hyes (Or.inr (by rw [hcu, if_pos ⟨b01_t.1 h_204, by omega⟩]; exact hx))) hg hF)
    · refine ev_aload_0 (q := 208) dX8_faulty_207 rfl ?_
      refine ev_getI (q := 211) dX8_faulty_208 fl_RX8_142 (by first | assumption | rfl) (by rfl) rfl (fun h_208 => ?_)
      rw [h1] at h_208 ⊢
      refine ev_aload_0 (q := 212) dX8_faulty_211 rfl ?_
      refine ev_getI (q := 215) dX8_faulty_212 fl_RX8_85 (by first | assumption | rfl) (by rfl) rfl (fun h_212 => ?_)
      rw [h7] at h_212 ⊢
      refine ev_icmp_ge (t := 232) (q := 218) dX8_faulty_215 (by decide) rfl (by constructor <;> omega) (by constructor <;> omega) (fun h_215 => ?_) (fun h_215 => ?_)
      · first
        | (have hx : len ≤ pat P := h_215
           exact hgo (b01_t.1 h_204) (by rw [hcu, if_neg (fun q => absurd q.2 (by omega))]; decide))
        | (have hx : ¬ M 103 (pat P).toNat = 125 := h_229
           exact hgo (b01_t.1 h_204) (by rw [hcu, if_pos ⟨b01_t.1 h_204, by omega⟩]; exact hx))
      · refine ev_aload_0 (q := 219) dX8_faulty_218 rfl ?_
        refine ev_getR (q := 222) dX8_faulty_219 fl_RX8_16 (by first | assumption | rfl) (by rfl) rfl ?_
        refine ev_aload_0 (q := 223) dX8_faulty_222 rfl ?_
        refine ev_getI (q := 226) dX8_faulty_223 fl_RX8_142 (by first | assumption | rfl) (by rfl) rfl (fun h_223 => ?_)
        rw [h1] at h_223 ⊢
        refine ev_caload (q := 227) dX8_faulty_226 (by first | assumption | rfl) (by omega) (by first | decide | omega) rfl (fun h_226 => ?_)
        refine ev_bipush (q := 229) dX8_faulty_227 rfl (by decide) ?_
        refine ev_icmp_eq (t := 239) (q := 232) dX8_faulty_229 (by decide) rfl (by constructor <;> omega) (by constructor <;> omega) (fun h_229 => ?_) (fun h_229 => ?_)
        · first
          | (have hx : ¬ b01 (pwr P) = 0 := h_204
             exact t_f239 h (hyes (Or.inl (Bool.of_not_eq_false (fun q => hx (b01_t.2 q))))) hg hF)
          | (have hx : M 103 (pat P).toNat = 125 := h_229
             exact t_f239 h (hyes (Or.inr (by rw [hcu, if_pos ⟨b01_t.1 h_204, by omega⟩]; exact hx))) hg hF)
        · first
          | (have hx : len ≤ pat P := h_215
             exact hgo (b01_t.1 h_204) (by rw [hcu, if_neg (fun q => absurd q.2 (by omega))]; decide))
          | (have hx : ¬ M 103 (pat P).toNat = 125 := h_229
             exact hgo (b01_t.1 h_204) (by rw [hcu, if_pos ⟨b01_t.1 h_204, by omega⟩]; exact hx))
end Mf

