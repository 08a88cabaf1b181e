section Cg
/-- alike below 100 -/
def L1 (X Y : ev_M) : Prop := ∀ j, j < 100 → X j = Y j
theorem L1.cp {X Y : ev_M} {a b n : Nat} (h : L1 X Y) (hb : b < 100) : L1 (cp X a b n) (cp Y a b n) := fun j hj => by
  funext c
  rw [cp_at, cp_at, h b hb, h j hj]
theorem L1.up {X Y : ev_M} {a k : Nat} {x y : Int} (h : L1 X Y) (hx : x = y) : L1 (up X a k x) (up Y a k y) := fun j hj => by
  funext c
  rw [up_at, up_at, h j hj, hx]
theorem L1.sc {X Y : ev_M} {s s2 : Nat} (h : L1 X Y) (h2 : s2 + 12 < 100) : L1 (scM X s s2) (scM Y s s2) := by
  unfold scM rcM tcM
  have k1 : L1 (tcM X s s2) (tcM Y s s2) := by
    unfold tcM
    exact (((h.up (by rw [h (s2 + 1) (by omega)])).cp (by omega)).cp (by omega)).cp (by omega)
  exact ((k1.up (congrFun (k1 (s2 + 8) (by omega)) 0)).cp (by omega)).cp (by omega)
theorem L1.beg {X Y : ev_M} (h : L1 X Y) : L1 (begM X) (begM Y) := by
  have e14 := h 14 (by decide)
  have es : ∀ k, slo X k = slo Y k := fun k => by unfold slo; rw [e14]
  unfold begM recM
  rw [es, e14]
  refine L1.up ?_ rfl
  by_cases q : Y 14 2 < 5
  · rw [if_pos q, if_pos q]
    exact (h.sc (by decide)).up rfl
  · rw [if_neg q, if_neg q]
    exact (h.sc (by decide)).up rfl
end Cg

