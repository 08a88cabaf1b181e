/-! THE HEAP behind the constructors: every object and array, by its number -/
abbrev oRow (a : Nat) : ev_Sh := .inr (.inl (2, [some (some a)]))
abbrev oTree (p k c : Nat) : ev_Sh := .inr (.inl (6, [none, some (some p), some (some k), some (some c)]))
abbrev oRules (p e : Nat) : ev_Sh := .inr (.inl (3, [none, some (some p), some (some e)]))
abbrev oState (t r : Nat) : ev_Sh := .inr (.inl (4, [some (some t), some (some r)]))
abbrev ia (n : Nat) : ev_Sh := .inl (0, n)
abbrev QX (v : Option ev_V) (S : List ev_Sh) (M1 : ev_M) : Option ev_V → List ev_Sh → ev_M → Prop := fun v' S' M2 => v' = v ∧ S' = S ∧ M2 = M1
def ringG : Nat → Option Nat := va_up (va_up (va_up (va_up (va_up (fun _ => none) 0 (some 16)) 1 (some 29)) 2 (some 42)) 3 (some 55)) 4 (some 68)
def S0 : List ev_Sh := [.inr (.inl (7, [some (some 1), some (some 14), some (some 81), some (some 92)])), oState 2 9, oTree 3 5 7, oRow 4, ia 16, oRow 6, ia 16, oRow 8, ia 16, oRules 10 12, oRow 11, ia 96, oRow 13, ia 768, .inr (.inl (0, [some (some 15), none, none])), .inr (.inr (3, 5, ringG)), oState 17 24, oTree 18 20 22, oRow 19, ia 16, oRow 21, ia 16, oRow 23, ia 16, oRules 25 27, oRow 26, ia 96, oRow 28, ia 768, oState 30 37, oTree 31 33 35, oRow 32, ia 16, oRow 34, ia 16, oRow 36, ia 16, oRules 38 40, oRow 39, ia 96, oRow 41, ia 768, oState 43 50, oTree 44 46 48, oRow 45, ia 16, oRow 47, ia 16, oRow 49, ia 16, oRules 51 53, oRow 52, ia 96, oRow 54, ia 768, oState 56 63, oTree 57 59 61, oRow 58, ia 16, oRow 60, ia 16, oRow 62, ia 16, oRules 64 66, oRow 65, ia 96, oRow 67, ia 768, oState 69 76, oTree 70 72 74, oRow 71, ia 16, oRow 73, ia 16, oRow 75, ia 16, oRules 77 79, oRow 78, ia 96, oRow 80, ia 768, .inr (.inl (1, [none, none, none, some (some 82), some (some 84), some (some 86), some (some 88), some (some 90)])), oRow 83, ia 256, oRow 85, ia 256, oRow 87, ia 256, oRow 89, ia 256, oRow 91, ia 256, .inr (.inl (5, [some (some 93), none, some (some 95), none, none, none])), oRow 94, ia 80, oRules 96 98, oRow 97, ia 6, oRow 99, ia 48]
theorem ringG_0 : ringG 0 = some 16 := rfl
theorem ringG_1 : ringG 1 = some 29 := rfl
theorem ringG_2 : ringG 2 = some 42 := rfl
theorem ringG_3 : ringG 3 = some 55 := rfl
theorem ringG_4 : ringG 4 = some 68 := rfl
