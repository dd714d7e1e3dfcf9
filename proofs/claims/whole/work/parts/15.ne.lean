/-! cells of different kinds lie apart -/
theorem pm_neOA {G : pm_G} {a b : Nat} {o : Nat × List Value} {x : ClassId × vp_A} (h1 : G a = some (.inr o)) (h2 : G b = some (.inl x)) : a ≠ b := by
  intro h
  rw [h, h2] at h1
  cases h1
theorem pm_neC {G : pm_G} {a b i j : Nat} {f g : List Value} (h1 : G a = some (.inr (i, f))) (h2 : G b = some (.inr (j, g))) (hij : i ≠ j) : a ≠ b := by
  intro h
  rw [h, h2] at h1
  cases h1
  exact hij rfl
theorem pm_neT {G : pm_G} {a b i j : Nat} {f g : vp_A} (h1 : G a = some (.inl (i, f))) (h2 : G b = some (.inl (j, g))) (hij : i ≠ j) : a ≠ b := by
  intro h
  rw [h, h2] at h1
  cases h1
  exact hij rfl
theorem pm_neN {G : pm_G} {a q : Nat} {e : va_E} (h1 : G a = some e) (h2 : G q = none) : a ≠ q := by
  intro h
  rw [h, h2] at h1
  cases h1
theorem pm_off {G : pm_G} {a b : Nat} {e : va_E} (h : b ≠ a) : pm_up G a e b = G b := if_neg h
