/-! cells of different colours, of different kinds lie apart; what a call leaves alone -/
theorem pm_neK {G : pm_G} {a b κ κ' : Nat} {x y : va_E} (h1 : G a = some (κ, x)) (h2 : G b = some (κ', y)) (h : κ ≠ κ') : a ≠ b := by
  intro e
  rw [e, h2] at h1
  cases h1
  exact h rfl
theorem pm_neOA {G : pm_G} {a b κ κ' : Nat} {o : Nat × List Value} {x : ClassId × vp_A} (h1 : G a = some (κ, .inr o)) (h2 : G b = some (κ', .inl x)) : a ≠ b := by
  intro h
  rw [h, h2] at h1
  cases h1
theorem pm_neC {G : pm_G} {a b i j κ κ' : Nat} {f g : List Value} (h1 : G a = some (κ, .inr (i, f))) (h2 : G b = some (κ', .inr (j, g))) (hij : i ≠ j) : a ≠ b := by
  intro h
  rw [h, h2] at h1
  cases h1
  exact hij rfl
theorem pm_neN {G : pm_G} {a q : Nat} {e : pm_E} (h1 : G a = some e) (h2 : G q = none) : a ≠ q := by
  intro h
  rw [h, h2] at h1
  cases h1
theorem pm_off {G : pm_G} {a b : Nat} {e : pm_E} (h : b ≠ a) : pm_up G a e b = G b := if_neg h
/-- cells of a colour that S has not stay -/
def pm_fr (S : Nat → Prop) (G G' : pm_G) : Prop := ∀ (b κ : Nat) (x : va_E), G b = some (κ, x) → ¬ S κ → G' b = some (κ, x)
theorem pm_fr.rf {S : Nat → Prop} {G : pm_G} : pm_fr S G G := fun _ _ _ h _ => h
theorem pm_fr.tr {S : Nat → Prop} {G G1 G2 : pm_G} (h1 : pm_fr S G G1) (h2 : pm_fr S G1 G2) : pm_fr S G G2 := fun b κ x h hS => h2 b κ x (h1 b κ x h hS) hS
theorem pm_fr.mono {S T : Nat → Prop} {G G1 : pm_G} (h : pm_fr S G G1) (hST : ∀ κ, S κ → T κ) : pm_fr T G G1 := fun b κ x h1 hT => h b κ x h1 (fun z => hT (hST κ z))
theorem pm_fr.put {S : Nat → Prop} {G : pm_G} {a κ : Nat} {x y : va_E} (h : G a = some (κ, x)) (hS : S κ) : pm_fr S G (pm_up G a (κ, y)) := by
  intro b κ' z hb hn
  refine pm_up_ne (fun e => ?_) hb
  rw [e, h] at hb
  cases hb
  exact hn hS
theorem pm_fr.new {S : Nat → Prop} {G : pm_G} {q : Nat} {e : pm_E} (h : G q = none) : pm_fr S G (pm_up G q e) := fun b κ' z hb _ => pm_up_ne (pm_neN hb h) hb
theorem pm_com {G : pm_G} {a q : Nat} {e c : pm_E} (h : a ≠ q) : pm_up (pm_up G a e) q c = pm_up (pm_up G q c) a e := by
  funext b
  unfold pm_up
  by_cases h1 : b = q
  · rw [if_pos h1, if_neg (fun z => h (z.symm.trans h1)), if_pos h1]
  · rw [if_neg h1, if_neg h1]
theorem pm_upN {G : pm_G} {a q : Nat} {e : pm_E} (h : pm_up G a e q = none) : a ≠ q ∧ G q = none := by
  unfold pm_up at h
  by_cases h1 : q = a
  · rw [if_pos h1] at h; cases h
  · rw [if_neg h1] at h; exact ⟨fun z => h1 z.symm, h⟩
