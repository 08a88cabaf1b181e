/-! THE HEAP behind the constructors: every object and array, by its number -/
abbrev oRow (a : Nat) : ev_Sh := .inr (.inl (2, [some (some a)]))
abbrev oTree (p k c : Nat) : ev_Sh := .inr (.inl (6, [none, some (some p), some (some k), some (some c)]))
abbrev oRules (p e : Nat) : ev_Sh := .inr (.inl (3, [none, some (some p), some (some e)]))
abbrev oState (t r : Nat) : ev_Sh := .inr (.inl (4, [some (some t), some (some r)]))
abbrev ia (n : Nat) : ev_Sh := .inl (0, n)
abbrev QX (v : Option ev_V) (S : List ev_Sh) (M1 : ev_M) : Option ev_V → List ev_Sh → ev_M → Prop := fun v' S' M2 => v' = v ∧ S' = S ∧ M2 = M1
