/-! WHAT HOLDS OF ALL THAT IS READ -/
theorem zIf_el {α : Type} {p : Prop} {a b c : α} (h : zIf p a b = c) : (p ∧ a = c) ∨ (¬ p ∧ b = c) := by
  by_cases q : p
  · rw [zIf_t q] at h; exact Or.inl ⟨q, h⟩
  · rw [zIf_f q] at h; exact Or.inr ⟨q, h⟩
theorem zIf_sn {α : Type} {p : Prop} {a b : α} (h : zIf p (some a) none = some b) : p ∧ a = b := by
  rcases zIf_el h with ⟨q, e⟩ | ⟨q, e⟩
  · exact ⟨q, Option.some.inj e⟩
  · cases e
/-- a step as the reader makes it -/
def sk_ok (g : Nat → Int32) (nl : Nat) (nf : Nat → Int32) : Prop := sw_ok g ∧ (g 0 = 6 → ∃ t, 1 ≤ t ∧ t ≤ 20 ∧ g 4 = nI t) ∧ (g 0 = 7 → 1 ≤ nl ∧ nl ≤ 10 ∧ ∀ i, i < nl → nf i ≠ -1000000) ∧ (g 0 = 1 → g 4 ≠ -1000000) ∧ (g 0 = 2 → -999999 ≤ g 4 ∧ g 4 ≤ g 5 ∧ g 5 ≤ 999999) ∧ (g 0 = 5 → (∃ t, 1 ≤ t ∧ t ≤ 8 ∧ g 4 = nI t) ∧ (g 5 = 0 ∨ g 5 = 1)) ∧ (∃ k, 1 ≤ k ∧ k ≤ 8 ∧ g 0 = nI k) ∧ (∃ v, v ≤ 20 ∧ g 2 = nI v) ∧ g 8 = 0
def bk_g (g : Nat → Int32) : Prop := g 0 = 6 ∨ g 0 = 7 ∨ g 0 = 8
def pz_n (z : pz) (lv : Nat → Nat) : Prop :=
  (∀ i, i < zSn z → sk_ok (zSd z i) (zNl z i) (zNf z i)) ∧ (∀ i, i < zSn z → i < zBh z i ∧ zBh z i ≤ zSn z) ∧ (∀ i, i < zSn z → bk_g (zSd z i) → ∀ k, i < k → k < zBh z i → zBh z k ≤ zBh z i ∧ lv i + 1 ≤ lv k) ∧ (∀ i, i < zSn z → lv i ≤ 7 ∨ ¬ bk_g (zSd z i)) ∧ (∀ i, i < zSn z → ¬ bk_g (zSd z i) → zBh z i = i + 1) ∧
  (∀ i j, i < zSn z → j < zDp z → i < zOp z j → zBh z i ≤ zOp z j) ∧ (∀ j k, j < k → k < zDp z → zOp z j < zOp z k) ∧ (∀ j, j < zDp z → lv (zOp z j) = j ∧ bk_g (zSd z (zOp z j)) ∧ zFi z (zTn z - 1) ≤ zOp z j ∧ ∀ k, zOp z j < k → k < zSn z → j + 1 ≤ lv k) ∧
  (∀ i, i + 1 < zTn z → ∀ j, j < zFi z (i + 1) → zBh z j ≤ zFi z (i + 1)) ∧ (∀ i a, i < zTn z → zAl z i = some a → zFi z i ≤ a ∧ a < zBe z i ∧ zSd z a 0 = 8)
def pz_ok (z : pz) : Prop := pz_b z ∧ ∃ lv, pz_n z lv
section PO
variable {sg : Nat → Nat} {s e n : Nat} {z z' : pz} {f : pf_T}
theorem nu_k_b {b q : Nat} : nu_k sg b q = -1000000 ∨ (-999999 ≤ nu_k sg b q ∧ nu_k sg b q ≤ 999999) := by
  unfold nu_k
  split
  · rename_i h
    cases hz : nd_k sg (q - w_st sg b) (w_st sg b) 0 with
    | none => exact Or.inl rfl
    | some v =>
      right
      have h1 := nd_k_lt _ _ _ _ hz
      have h2 : 10 ^ (q - w_st sg b) ≤ 10 ^ 6 := Nat.pow_le_pow_right (by decide) h.2
      have hv : v ≤ 999999 := by omega
      have h3 := nI_toInt (n := v) (by omega)
      have e1 : (-999999 : Int32).toInt = -999999 := by decide
      have e2 : (999999 : Int32).toInt = 999999 := by decide
      by_cases q5 : sg b = 45
      · rw [show nu_I sg b (some v) = - nI v from if_pos q5]
        have e3 : (- nI v).toInt = - (v : Int) := by
          rw [Int32.toInt_neg, h3]
          exact Int.bmod_eq_of_le (by omega) (by omega)
        rw [Int32.le_iff_toInt_le, Int32.le_iff_toInt_le, e1, e2, e3]
        omega
      · rw [show nu_I sg b (some v) = nI v from if_neg q5]
        rw [Int32.le_iff_toInt_le, Int32.le_iff_toInt_le, e1, e2, h3]
        omega
  · exact Or.inl rfl
theorem w_num_b {k : Nat} (h : w_num sg s e k ≠ -1000000) : -999999 ≤ w_num sg s e k ∧ w_num sg s e k ≤ 999999 := nu_k_b.resolve_left h
theorem i32_of {x : Int32} {a b : Nat} (h1 : nI a ≤ x) (h2 : x ≤ nI b) (hb : b < 2 ^ 31) (hab : a < 2 ^ 31) : ∃ t, a ≤ t ∧ t ≤ b ∧ x = nI t := by
  have h0 : ¬ x < 0 := fun q => by
    have := Int32.lt_of_le_of_lt h1 q
    exact absurd this (nI_pos hab)
  obtain ⟨j, hj, rfl⟩ := nI_of h0
  exact ⟨j, (nI_leI hab hj).mp h1, (nI_leI hj hb).mp h2, rfl⟩
theorem w_v_le (hz : pz_b z) : w_v sg s e z ≤ 20 := by have := (zvo_le (vk := zVk z) (key := w_key sg s e 1) (zVn z) 0).1; have := hz.1; unfold w_v; omega
/-- the roads of a line's step -/
theorem pz_fill_inv (hz : pz_b z) (h : pz_fill sg s e n z = some f) : sk_ok f.1 f.2.1 f.2.2.1 ∧ ((f.2.2.2 = z ∧ ¬ bk_g f.1) ∨ (f.2.2.2 = pz_open z ∧ zDp z < 8 ∧ (f.1 0 = 6 ∨ f.1 0 = 7)) ∨ (f.2.2.2 = pz_open (pz_always z) ∧ zDp z = 0 ∧ zAl z (zTn z - 1) = none ∧ f.1 0 = 8)) := by
  have hv := w_v_le (sg := sg) (s := s) (e := e) hz
  unfold pz_fill at h
  have vv : 0 < w_v sg s e z → ∃ v, 0 < v ∧ v ≤ 20 ∧ nI (w_v sg s e z) = nI v := fun q => ⟨_, q, hv, rfl⟩
  rcases zIf_el h with ⟨-, h⟩ | ⟨-, h⟩
  · obtain ⟨⟨c1, c2, c3⟩, rfl⟩ := zIf_sn h
    exact ⟨⟨⟨fun _ => vv c2, fun q => absurd (show (1 : Int32) = 3 from q) (by decide)⟩, fun q => absurd (show (1 : Int32) = 6 from q) (by decide), fun q => absurd (show (1 : Int32) = 7 from q) (by decide), fun _ => c3, fun q => absurd (show (1 : Int32) = 2 from q) (by decide), fun q => absurd (show (1 : Int32) = 5 from q) (by decide), ⟨1, by omega, by omega, rfl⟩, ⟨_, hv, rfl⟩, rfl⟩, Or.inl ⟨rfl, fun q => absurd (show (1 : Int32) = 6 ∨ (1 : Int32) = 7 ∨ (1 : Int32) = 8 from q) (by decide)⟩⟩
  rcases zIf_el h with ⟨-, h⟩ | ⟨-, h⟩
  · obtain ⟨⟨c1, c2, c3, c4, c5⟩, rfl⟩ := zIf_sn h
    exact ⟨⟨⟨fun _ => vv c2, fun q => absurd (show (2 : Int32) = 3 from q) (by decide)⟩, fun q => absurd (show (2 : Int32) = 6 from q) (by decide), fun q => absurd (show (2 : Int32) = 7 from q) (by decide), fun q => absurd (show (2 : Int32) = 1 from q) (by decide), fun _ => ⟨(w_num_b c3).1, c4, c5⟩, fun q => absurd (show (2 : Int32) = 5 from q) (by decide), ⟨2, by omega, by omega, rfl⟩, ⟨_, hv, rfl⟩, rfl⟩, Or.inl ⟨rfl, fun q => absurd (show (2 : Int32) = 6 ∨ (2 : Int32) = 7 ∨ (2 : Int32) = 8 from q) (by decide)⟩⟩
  rcases zIf_el h with ⟨-, h⟩ | ⟨-, h⟩
  · obtain ⟨⟨c1, c2, c3, c4, c5, c6⟩, rfl⟩ := zIf_sn h
    obtain ⟨t, -, t2, t3⟩ := i32_of (a := 0) (b := 1000) c5 c6 (by omega) (by omega)
    exact ⟨⟨⟨fun _ => vv c3, fun _ => ⟨t, t2, t3⟩⟩, fun q => absurd (show (3 : Int32) = 6 from q) (by decide), fun q => absurd (show (3 : Int32) = 7 from q) (by decide), fun q => absurd (show (3 : Int32) = 1 from q) (by decide), fun q => absurd (show (3 : Int32) = 2 from q) (by decide), fun q => absurd (show (3 : Int32) = 5 from q) (by decide), ⟨3, by omega, by omega, rfl⟩, ⟨_, hv, rfl⟩, rfl⟩, Or.inl ⟨rfl, fun q => absurd (show (3 : Int32) = 6 ∨ (3 : Int32) = 7 ∨ (3 : Int32) = 8 from q) (by decide)⟩⟩
  rcases zIf_el h with ⟨-, h⟩ | ⟨-, h⟩
  · obtain ⟨⟨c1, c2, c3, c4⟩, rfl⟩ := zIf_sn h
    exact ⟨⟨⟨fun _ => vv c3, fun q => absurd (show (4 : Int32) = 3 from q) (by decide)⟩, fun q => absurd (show (4 : Int32) = 6 from q) (by decide), fun q => absurd (show (4 : Int32) = 7 from q) (by decide), fun q => absurd (show (4 : Int32) = 1 from q) (by decide), fun q => absurd (show (4 : Int32) = 2 from q) (by decide), fun q => absurd (show (4 : Int32) = 5 from q) (by decide), ⟨4, by omega, by omega, rfl⟩, ⟨_, hv, rfl⟩, rfl⟩, Or.inl ⟨rfl, fun q => absurd (show (4 : Int32) = 6 ∨ (4 : Int32) = 7 ∨ (4 : Int32) = 8 from q) (by decide)⟩⟩
  rcases zIf_el h with ⟨-, h⟩ | ⟨-, h⟩
  · obtain ⟨⟨c1, c2, c3, c4⟩, rfl⟩ := zIf_sn h
    have t5 : (zIf (w_is sg s e 2 15) 1 0 : Int32) = 0 ∨ (zIf (w_is sg s e 2 15) 1 0 : Int32) = 1 := by
      by_cases q : w_is sg s e 2 15
      · exact Or.inr (zIf_t q)
      · exact Or.inl (zIf_f q)
    exact ⟨⟨⟨fun q => absurd (show (5 : Int32) = 1 ∨ (5 : Int32) = 2 ∨ (5 : Int32) = 3 ∨ (5 : Int32) = 4 ∨ (5 : Int32) = 7 from q) (by decide), fun q => absurd (show (5 : Int32) = 3 from q) (by decide)⟩, fun q => absurd (show (5 : Int32) = 6 from q) (by decide), fun q => absurd (show (5 : Int32) = 7 from q) (by decide), fun q => absurd (show (5 : Int32) = 1 from q) (by decide), fun q => absurd (show (5 : Int32) = 2 from q) (by decide), fun _ => ⟨i32_of (a := 1) (b := 8) c2 c3 (by omega) (by omega), t5⟩, ⟨5, by omega, by omega, rfl⟩, ⟨0, by omega, rfl⟩, rfl⟩, Or.inl ⟨rfl, fun q => absurd (show (5 : Int32) = 6 ∨ (5 : Int32) = 7 ∨ (5 : Int32) = 8 from q) (by decide)⟩⟩
  rcases zIf_el h with ⟨-, h⟩ | ⟨-, h⟩
  · obtain ⟨⟨c1, c2, c3, c4⟩, rfl⟩ := zIf_sn h
    exact ⟨⟨⟨fun q => absurd (show (6 : Int32) = 1 ∨ (6 : Int32) = 2 ∨ (6 : Int32) = 3 ∨ (6 : Int32) = 4 ∨ (6 : Int32) = 7 from q) (by decide), fun q => absurd (show (6 : Int32) = 3 from q) (by decide)⟩, fun _ => i32_of (a := 1) (b := 20) c2 c3 (by omega) (by omega), fun q => absurd (show (6 : Int32) = 7 from q) (by decide), fun q => absurd (show (6 : Int32) = 1 from q) (by decide), fun q => absurd (show (6 : Int32) = 2 from q) (by decide), fun q => absurd (show (6 : Int32) = 5 from q) (by decide), ⟨6, by omega, by omega, rfl⟩, ⟨0, by omega, rfl⟩, rfl⟩, Or.inr (Or.inl ⟨rfl, c4, Or.inl rfl⟩)⟩
  rcases zIf_el h with ⟨-, h⟩ | ⟨-, h⟩
  · obtain ⟨⟨c1, c2, c3, c4, c5⟩, rfl⟩ := zIf_sn h
    exact ⟨⟨⟨fun _ => vv c1, fun q => absurd (show (7 : Int32) = 3 from q) (by decide)⟩, fun q => absurd (show (7 : Int32) = 6 from q) (by decide), fun _ => ⟨by show 1 ≤ w_c sg s e - 2; omega, by show w_c sg s e - 2 ≤ 10; omega, fun i hi => by show (if i < w_c sg s e - 2 then _ else _) ≠ _; rw [if_pos hi]; exact c4 i hi⟩, fun q => absurd (show (7 : Int32) = 1 from q) (by decide), fun q => absurd (show (7 : Int32) = 2 from q) (by decide), fun q => absurd (show (7 : Int32) = 5 from q) (by decide), ⟨7, by omega, by omega, rfl⟩, ⟨_, hv, rfl⟩, rfl⟩, Or.inr (Or.inl ⟨rfl, c5, Or.inr rfl⟩)⟩
  rcases zIf_el h with ⟨-, h⟩ | ⟨-, h⟩
  · obtain ⟨⟨c1, c2, c3⟩, rfl⟩ := zIf_sn h
    exact ⟨⟨⟨fun q => absurd (show (8 : Int32) = 1 ∨ (8 : Int32) = 2 ∨ (8 : Int32) = 3 ∨ (8 : Int32) = 4 ∨ (8 : Int32) = 7 from q) (by decide), fun q => absurd (show (8 : Int32) = 3 from q) (by decide)⟩, fun q => absurd (show (8 : Int32) = 6 from q) (by decide), fun q => absurd (show (8 : Int32) = 7 from q) (by decide), fun q => absurd (show (8 : Int32) = 1 from q) (by decide), fun q => absurd (show (8 : Int32) = 2 from q) (by decide), fun q => absurd (show (8 : Int32) = 5 from q) (by decide), ⟨8, by omega, by omega, rfl⟩, ⟨0, by omega, rfl⟩, rfl⟩, Or.inr (Or.inr ⟨rfl, c2, c3, rfl⟩)⟩
  · cases h
theorem fi_le (hz : pz_b z) {i : Nat} (hi : i + 1 < zTn z) : zFi z (i + 1) ≤ zFi z (zTn z - 1) := by
  obtain ⟨b1, b2, b3, b4, b5, b6, b7, b8, b9, b10⟩ := hz
  have : ∀ d, i + 1 + d < zTn z → zFi z (i + 1) ≤ zFi z (i + 1 + d) := by
    intro d
    induction d with
    | zero => intro _; exact Nat.le_refl _
    | succ d ih => intro q; have := ih (by omega); have := b7 (i + 1 + d) (by omega); show zFi z (i + 1) ≤ zFi z (i + 1 + d + 1); omega
  have := this (zTn z - 1 - (i + 1)) (by omega)
  rw [show i + 1 + (zTn z - 1 - (i + 1)) = zTn z - 1 by omega] at this
  exact this
theorem va_up_s {α : Type} {f : Nat → α} {k : Nat} {v : α} : va_up f k v k = v := if_pos rfl
theorem va_up_n {α : Type} {f : Nat → α} {k j : Nat} {v : α} (h : j ≠ k) : va_up f k v j = f j := if_neg h
theorem bk_8 {g : Nat → Int32} (h : g 0 = 8) : bk_g g := Or.inr (Or.inr h)
set_option maxHeartbeats 1000000 in
theorem pz_push_ok {g : Nat → Int32} {nl : Nat} {nf : Nat → Int32} (hz : pz_ok z) (ht : ¬ (zTn z = 0 ∨ 100 ≤ zSn z - zFi z (zTn z - 1))) (hk : sk_ok g nl nf) (h1 : (z' = z ∧ ¬ bk_g g) ∨ (z' = pz_open z ∧ zDp z < 8 ∧ (g 0 = 6 ∨ g 0 = 7)) ∨ (z' = pz_open (pz_always z) ∧ zDp z = 0 ∧ zAl z (zTn z - 1) = none ∧ g 0 = 8)) : pz_ok (pz_push g nl nf z') := by
  have hb0 := hz.1
  obtain ⟨⟨b1, b2, b3, b4, b5, b6, b7, b8, b9, b10⟩, lv, n1, n2, n3, n4, n5, n6, n7, n8, n9, n10⟩ := hz
  have t0 : 0 < zTn z := by omega
  have t1 : zSn z - zFi z (zTn z - 1) < 100 := by omega
  have hb := b8 t0
  -- what the three roads share
  have s1 : z'.1 = z.1 ∧ zTn z' = zTn z ∧ zTk z' = zTk z ∧ zFi z' = zFi z ∧ zNm z' = zNm z ∧ z'.2.2.1 = z.2.2.1 := by
    rcases h1 with ⟨rfl, -⟩ | ⟨rfl, -⟩ | ⟨rfl, -⟩ <;> exact ⟨rfl, rfl, rfl, rfl, rfl, rfl⟩
  obtain ⟨s1, s2, s3, s4, s5, s6⟩ := s1
  have s7 : zSn z' = zSn z := congrArg (·.1) s6
  have s8 : zSd z' = zSd z := congrArg (·.2.1) s6
  have s9 : zBh z' = zBh z := congrArg (·.2.2.1) s6
  have s10 : zNl z' = zNl z := congrArg (·.2.2.2.1) s6
  have s11 : zNf z' = zNf z := congrArg (·.2.2.2.2) s6
  have so : (zDp z' = zDp z ∧ zOp z' = zOp z ∧ ¬ bk_g g) ∨ (zDp z' = zDp z + 1 ∧ zOp z' = va_up (zOp z) (zDp z) (zSn z) ∧ zDp z < 8 ∧ bk_g g) := by
    rcases h1 with ⟨rfl, q⟩ | ⟨rfl, q1, q2⟩ | ⟨rfl, q1, q2, q3⟩
    · exact Or.inl ⟨rfl, rfl, q⟩
    · exact Or.inr ⟨rfl, rfl, q1, q2.elim Or.inl (fun x => Or.inr (Or.inl x))⟩
    · exact Or.inr ⟨rfl, rfl, by omega, bk_8 q3⟩
  have sa : zAl z' = zAl z ∨ (zAl z' = va_up (zAl z) (zTn z - 1) (some (zSn z)) ∧ g 0 = 8) := by
    rcases h1 with ⟨rfl, q⟩ | ⟨rfl, q1, q2⟩ | ⟨rfl, q1, q2, q3⟩
    · exact Or.inl rfl
    · exact Or.inl rfl
    · exact Or.inr ⟨rfl, q3⟩
  have p1 : zVn (pz_push g nl nf z') = zVn z := congrArg (·.1) s1
  have p2 : zVk (pz_push g nl nf z') = zVk z := congrArg (·.2) s1
  have p3 : zTn (pz_push g nl nf z') = zTn z := s2
  have p4 : zTk (pz_push g nl nf z') = zTk z := s3
  have p5 : zFi (pz_push g nl nf z') = zFi z := s4
  have p6 : zSn (pz_push g nl nf z') = zSn z + 1 := by show zSn z' + 1 = _; rw [s7]
  have p7 : zSd (pz_push g nl nf z') = va_up (zSd z) (zSn z) g := by show va_up (zSd z') (zSn z') g = _; rw [s7, s8]
  have p8 : zBh (pz_push g nl nf z') = va_up (zBh z) (zSn z) (zSn z + 1) := by show va_up (zBh z') (zSn z') (zSn z' + 1) = _; rw [s7, s9]
  have p9 : zNl (pz_push g nl nf z') = va_up (zNl z) (zSn z) nl := by show va_up (zNl z') (zSn z') nl = _; rw [s7, s10]
  have p10 : zNf (pz_push g nl nf z') = va_up (zNf z) (zSn z) nf := by show va_up (zNf z') (zSn z') nf = _; rw [s7, s11]
  have p11 : zDp (pz_push g nl nf z') = zDp z' := rfl
  have p12 : zOp (pz_push g nl nf z') = zOp z' := rfl
  have p13 : zAl (pz_push g nl nf z') = zAl z' := rfl
  have p14 : ∀ i, zBe z i ≤ zBe (pz_push g nl nf z') i ∧ (i = zTn z - 1 → zBe (pz_push g nl nf z') i = zSn z + 1) := by
    intro i
    unfold zBe
    rw [p3, p5, p6]
    constructor
    · split <;> omega
    · intro q; rw [if_neg (by omega)]
  have ho : ∀ j, j < zDp z' → (j < zDp z ∧ zOp z' j = zOp z j) ∨ (j = zDp z ∧ zOp z' j = zSn z ∧ zDp z < 8 ∧ bk_g g) := by
    intro j hj
    rcases so with ⟨q1, q2, q3⟩ | ⟨q1, q2, q3, q4⟩
    · exact Or.inl ⟨by omega, by rw [q2]⟩
    · rcases Nat.lt_or_ge j (zDp z) with x | x
      · exact Or.inl ⟨x, by rw [q2, va_up_n (by omega)]⟩
      · exact Or.inr ⟨by omega, by rw [q2, show j = zDp z by omega, va_up_s], q3, q4⟩
  have hd8 : zDp z' ≤ 8 := by rcases so with ⟨q1, -⟩ | ⟨q1, -, q3, -⟩ <;> omega
  refine ⟨⟨by rw [p1]; exact b1, by rw [p1, p2]; exact b2, by rw [p3]; exact b3, by rw [p3, p4]; exact b4, by rw [p3]; intro q; omega, by rw [p3, p5]; exact b6, by rw [p3, p5]; exact b7, by rw [p3, p5, p6]; intro _; omega, by rw [p11]; exact hd8, ?_⟩, va_up lv (zSn z) (zDp z), ?_⟩
  · rw [p11, p12, p6]
    intro j hj
    rcases ho j hj with ⟨q1, q2⟩ | ⟨q1, q2, -⟩
    · rw [q2]; have := b10 j q1; omega
    · rw [q2]; omega
  unfold pz_n
  rw [p3, p5, p6, p7, p8, p9, p10, p11, p12, p13]
  have old : ∀ {α : Type} (x : Nat → α) (v : α) (i : Nat), i < zSn z → va_up x (zSn z) v i = x i := fun x v i hi => va_up_n (by omega)
  refine ⟨fun i hi => ?_, fun i hi => ?_, fun i hi hg k k1 k2 => ?_, fun i hi => ?_, fun i hi hg => ?_, fun i j hi hj hij => ?_, fun j k hjk hk => ?_, fun j hj => ?_, fun i hi j hj => ?_, fun i a hi ha => ?_⟩
  · rcases Nat.lt_or_ge i (zSn z) with x | x
    · rw [old _ _ i x, old _ _ i x, old _ _ i x]; exact n1 i x
    · rw [show i = zSn z by omega, va_up_s, va_up_s, va_up_s]; exact hk
  · rcases Nat.lt_or_ge i (zSn z) with x | x
    · rw [old _ _ i x]; have := n2 i x; omega
    · rw [show i = zSn z by omega, va_up_s]; omega
  · rcases Nat.lt_or_ge i (zSn z) with x | x
    · rw [old _ _ i x] at hg k2 ⊢
      rw [old _ _ i x]
      have := n2 i x
      rw [old _ _ k (by omega), old _ _ k (by omega)]
      exact n3 i x hg k k1 k2
    · rw [show i = zSn z by omega, va_up_s] at k2; omega
  · rcases Nat.lt_or_ge i (zSn z) with x | x
    · rw [old _ _ i x, old _ _ i x]; exact n4 i x
    · rw [show i = zSn z by omega, va_up_s, va_up_s]
      rcases so with ⟨-, -, q⟩ | ⟨-, -, q, -⟩
      · exact Or.inr q
      · exact Or.inl (by omega)
  · rcases Nat.lt_or_ge i (zSn z) with x | x
    · rw [old _ _ i x] at hg ⊢; exact n5 i x hg
    · rw [show i = zSn z by omega, va_up_s]
  · rcases ho j hj with ⟨q1, q2⟩ | ⟨q1, q2, -⟩
    · rw [q2] at hij ⊢
      have := b10 j q1
      rw [old _ _ i (by omega)]
      exact n6 i j (by omega) q1 hij
    · rw [q2] at hij ⊢
      rw [old _ _ i hij]
      exact (n2 i hij).2
  · rcases ho k hk with ⟨q1, q2⟩ | ⟨q1, q2, -⟩
    · rcases ho j (by omega) with ⟨q3, q4⟩ | ⟨q3, q4, -⟩
      · rw [q2, q4]; exact n7 j k hjk q1
      · omega
    · rcases ho j (by omega) with ⟨q3, q4⟩ | ⟨q3, q4, -⟩
      · rw [q2, q4]; exact b10 j q3
      · omega
  · rcases ho j hj with ⟨q1, q2⟩ | ⟨q1, q2, q3, q4⟩
    · rw [q2]
      have hx := b10 j q1
      obtain ⟨a1, a2, a3, a4⟩ := n8 j q1
      rw [old _ _ _ hx, old _ _ _ hx]
      refine ⟨a1, a2, a3, fun k k1 k2 => ?_⟩
      rcases Nat.lt_or_ge k (zSn z) with x | x
      · rw [old _ _ k x]; exact a4 k k1 x
      · rw [show k = zSn z by omega, va_up_s]; omega
    · rw [q2, va_up_s, va_up_s]
      exact ⟨q1.symm, q4, by omega, fun k k1 k2 => by omega⟩
  · have hle : zFi z (i + 1) ≤ zSn z := by
      have := fi_le hb0 (i := i) (by omega)
      omega
    rw [old _ _ j (by omega)]
    exact n9 i hi j hj
  · rcases sa with q | ⟨q, q8⟩
    · rw [q] at ha
      obtain ⟨a1, a2, a3⟩ := n10 i a hi ha
      have hbe : zBe z i ≤ zSn z := by
        unfold zBe
        split
        · rename_i q2
          have := fi_le hb0 (i := i) (by omega)
          omega
        · exact Nat.le_refl _
      rw [old _ _ a (by omega)]
      exact ⟨a1, by have := (p14 i).1; omega, a3⟩
    · rw [q] at ha
      by_cases q2 : i = zTn z - 1
      · rw [q2, va_up_s] at ha
        cases ha
        rw [va_up_s]
        refine ⟨by rw [q2]; omega, ?_, q8⟩
        rw [(p14 i).2 q2]; omega
      · rw [va_up_n q2] at ha
        obtain ⟨a1, a2, a3⟩ := n10 i a hi ha
        have hbe : zBe z i ≤ zSn z := by
          unfold zBe
          rw [if_pos (by omega)]
          have := fi_le hb0 (i := i) (by omega)
          omega
        rw [old _ _ a (by omega)]
        exact ⟨a1, by have := (p14 i).1; omega, a3⟩
theorem pz_end_ok (hz : pz_ok z) (hd : 1 ≤ zDp z) : pz_ok (pz_end z) := by
  have hb0 := hz.1
  obtain ⟨⟨b1, b2, b3, b4, b5, b6, b7, b8, b9, b10⟩, lv, n1, n2, n3, n4, n5, n6, n7, n8, n9, n10⟩ := hz
  obtain ⟨o, ho⟩ : ∃ o, zOp z (zDp z - 1) = o := ⟨_, rfl⟩
  have o1 := b10 (zDp z - 1) (by omega)
  obtain ⟨o2, o3, o4, o5⟩ := n8 (zDp z - 1) (by omega)
  have t0 : 0 < zTn z := by
    rcases Nat.eq_zero_or_pos (zTn z) with q | q
    · have := (b5 q).2; omega
    · exact q
  have fle : ∀ i, i + 1 < zTn z → zFi z (i + 1) ≤ zFi z (zTn z - 1) := fun i hi => fi_le hb0 hi
  rw [ho] at o1 o2 o3 o4 o5
  have eb : zBh (pz_end z) = va_up (zBh z) o (zSn z) := by show va_up (zBh z) (zOp z (zDp z - 1)) (zSn z) = _; rw [ho]
  refine ⟨⟨b1, b2, b3, b4, fun q => ⟨(b5 q).1, by show zDp z - 1 = 0; have := (b5 q).2; omega⟩, b6, b7, b8, by show zDp z - 1 ≤ 8; omega, fun j hj => b10 j (by have : j < zDp z - 1 := hj; omega)⟩, lv, ?_⟩
  unfold pz_n
  rw [eb]
  refine ⟨n1, fun i hi => ?_, fun i hi hg k k1 k2 => ?_, n4, fun i hi hg => ?_, fun i j hi hj hij => ?_, fun j k hjk hk => n7 j k hjk (by have : k < zDp z - 1 := hk; omega), fun j hj => n8 j (by have : j < zDp z - 1 := hj; omega), fun i hi j hj => ?_, n10⟩
  · by_cases q : i = o
    · rw [q, va_up_s]; exact ⟨o1, Nat.le_refl _⟩
    · rw [va_up_n q]; exact n2 i hi
  · by_cases q : i = o
    · rw [q, va_up_s] at k2 ⊢
      rw [q] at k1
      rw [va_up_n (by omega)]
      exact ⟨(n2 k k2).2, by rw [o2]; exact o5 k k1 k2⟩
    · rw [va_up_n q] at k2 ⊢
      have hk := n3 i hi hg k k1 k2
      by_cases q2 : k = o
      · exfalso
        have := n6 i (zDp z - 1) hi (by omega) (by rw [ho]; omega)
        rw [ho] at this
        omega
      · rw [va_up_n q2]; exact hk
  · rw [va_up_n (fun q => hg (by rw [q]; exact o3))]; exact n5 i hi hg
  · have hj2 : j < zDp z - 1 := hj
    have lt := n7 j (zDp z - 1) hj2 (by omega)
    rw [ho] at lt
    have hij2 : i < zOp z j := hij
    rw [va_up_n (by omega)]
    exact n6 i j hi (by omega) hij
  · have := fle i hi
    have hj2 : j < zFi z (i + 1) := hj
    rw [va_up_n (by omega)]
    exact n9 i hi j hj
theorem pz_test_ok {key : Nat} (hz : pz_ok z) (h0 : key ≠ 0) (hk : key < 27 ^ 8) (hd : zDp z = 0) (ht : zTn z < 12) : pz_ok (pz_test key z) := by
  have hsn : zSn z ≤ 100 * zTn z := by
    obtain ⟨b1, b2, b3, b4, b5, b6, b7, b8, b9, b10⟩ := hz.1
    rcases Nat.eq_zero_or_pos (zTn z) with q | q
    · have := (b5 q).1; omega
    · have := (b8 q).2; have := b6 (zTn z - 1) (by omega); omega
  have hb0 := hz.1
  obtain ⟨⟨b1, b2, b3, b4, b5, b6, b7, b8, b9, b10⟩, lv, n1, n2, n3, n4, n5, n6, n7, n8, n9, n10⟩ := hz
  have fi_old : ∀ i, i < zTn z → zFi (pz_test key z) i = zFi z i := fun i hi => va_up_n (by omega)
  have fi_new : zFi (pz_test key z) (zTn z) = zSn z := va_up_s
  have en : zTn (pz_test key z) = zTn z + 1 := rfl
  refine ⟨⟨b1, b2, by rw [en]; omega, fun i hi => ?_, fun q => absurd (show zTn z + 1 = 0 from q) (by omega), fun i hi => ?_, fun i hi => ?_, fun _ => ?_, b9, b10⟩, lv, n1, n2, n3, n4, n5, n6, n7, fun j hj => absurd (show j < zDp z from hj) (by omega), fun i hi j hj => ?_, fun i a hi ha => ?_⟩
  · rw [en] at hi
    show 0 < va_up (zTk z) (zTn z) key i ∧ va_up (zTk z) (zTn z) key i < 27 ^ 8
    by_cases q : i = zTn z
    · rw [q, va_up_s]; exact ⟨by omega, hk⟩
    · rw [va_up_n q]; exact b4 i (by omega)
  · rw [en] at hi
    by_cases q : i = zTn z
    · rw [q, fi_new]; exact hsn
    · rw [fi_old i (by omega)]; exact b6 i (by omega)
  · rw [en] at hi
    rw [fi_old i (by omega)]
    by_cases q : i + 1 = zTn z
    · rw [q, fi_new]
      have := (b8 (by omega)).1
      rw [show zTn z - 1 = i by omega] at this
      exact this
    · rw [fi_old (i + 1) (by omega)]; exact b7 i (by omega)
  · rw [en, show zTn z + 1 - 1 = zTn z by omega, fi_new]
    exact ⟨Nat.le_refl _, by show zSn z ≤ _; omega⟩
  · rw [en] at hi
    by_cases q : i + 1 = zTn z
    · rw [q, fi_new] at hj ⊢
      exact (n2 j hj).2
    · rw [fi_old (i + 1) (by omega)] at hj ⊢
      exact n9 i (by omega) j hj
  · rw [en] at hi
    by_cases q : i = zTn z
    · rw [q, show zAl (pz_test key z) (zTn z) = none from va_up_s] at ha; cases ha
    · rw [show zAl (pz_test key z) i = zAl z i from va_up_n q] at ha
      obtain ⟨a1, a2, a3⟩ := n10 i a (by omega) ha
      rw [fi_old i (by omega)]
      refine ⟨a1, ?_, a3⟩
      have : zBe (pz_test key z) i = zBe z i := by
        show (if i + 1 < zTn z + 1 then va_up (zFi z) (zTn z) (zSn z) (i + 1) else zSn z) = if i + 1 < zTn z then zFi z (i + 1) else zSn z
        rw [if_pos (by omega)]
        unfold va_up
        by_cases q2 : i + 1 = zTn z
        · rw [if_pos q2, if_neg (by omega)]
        · rw [if_neg q2, if_pos (by omega)]
      rw [this]; exact a2
theorem pz_name_ok {key : Nat} (hz : pz_ok z) (h0 : key ≠ 0) (hk : key < 27 ^ 8) (hv : zVn z < 20) : pz_ok (pz_name key z) := by
  obtain ⟨⟨b1, b2, b3, b4, b5, b6, b7, b8, b9, b10⟩, lv, hn⟩ := hz
  refine ⟨⟨by show zVn z + 1 ≤ 20; omega, fun i hi => ?_, b3, b4, b5, b6, b7, b8, b9, b10⟩, lv, hn⟩
  have hi2 : i < zVn z + 1 := hi
  show 0 < va_up (zVk z) (zVn z) key i ∧ va_up (zVk z) (zVn z) key i < 27 ^ 8
  by_cases q : i = zVn z
  · rw [q, va_up_s]; exact ⟨by omega, hk⟩
  · rw [va_up_n q]; exact b2 i (by omega)
theorem pz_line_ok (hz : pz_ok z) (h : pz_line sg s e n z = some z') : pz_ok z' := by
  unfold pz_line at h
  rcases zIf_el h with ⟨-, h⟩ | ⟨-, h⟩
  · obtain ⟨⟨c1, c2, c3, c4⟩, rfl⟩ := zIf_sn h
    exact pz_name_ok hz c2 w_key_lt c4
  rcases zIf_el h with ⟨-, h⟩ | ⟨-, h⟩
  · obtain ⟨⟨c1, c2, c3, c4, c5⟩, rfl⟩ := zIf_sn h
    exact pz_test_ok hz c2 w_key_lt c4 c5
  rcases zIf_el h with ⟨-, h⟩ | ⟨-, h⟩
  · obtain ⟨⟨c1, c2⟩, rfl⟩ := zIf_sn h
    exact pz_end_ok hz c2
  rcases zIf_el h with ⟨-, h⟩ | ⟨c, h⟩
  · cases h
  · cases hf : pz_fill sg s e n z with
    | none => rw [hf] at h; cases h
    | some f =>
      rw [hf] at h
      cases h
      obtain ⟨k1, k2⟩ := pz_fill_inv hz.1 hf
      exact pz_push_ok hz c k1 k2
end PO
