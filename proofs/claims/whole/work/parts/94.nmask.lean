/-! THE NAMES THAT A TEST NAMES: the class's mask, the model's -/
theorem or_and2 (x y : Int32) : (x ||| y) &&& (-2) = (x &&& (-2)) ||| (y &&& (-2)) := by
  apply Int32.toBitVec_inj.mp
  rw [Int32.toBitVec_and, Int32.toBitVec_or, Int32.toBitVec_or, Int32.toBitVec_and, Int32.toBitVec_and]
  apply BitVec.eq_of_getLsbD_eq
  intro i hi
  rw [BitVec.getLsbD_and, BitVec.getLsbD_or, BitVec.getLsbD_or, BitVec.getLsbD_and, BitVec.getLsbD_and]
  cases x.toBitVec.getLsbD i <;> cases y.toBitVec.getLsbD i <;> cases (-2 : Int32).toBitVec.getLsbD i <;> rfl
theorem sh_2 : ∀ v, v < 21 → ((1 : Int32) <<< (nI v &&& 31)) &&& (-2) = if v = 0 then 0 else (1 : Int32) <<< (nI v &&& 31) := by decide +kernel
theorem or_0 (x : Int32) : x ||| 0 = x := by
  apply Int32.toBitVec_inj.mp
  rw [Int32.toBitVec_or]
  show x.toBitVec ||| 0#32 = x.toBitVec
  rw [BitVec.or_zero]
/-- bit v, asked in two ways -/
theorem sh_b31 : ∀ v, v < 31 → ((1 : Int32) <<< (nI v &&& 31)).toBitVec = BitVec.twoPow 32 v ∧ ((nI v &&& 31).toBitVec.smod 32).toNat = v := by decide +kernel
theorem bit_shr {x : Int32} {v : Nat} (hv : v < 31) : (x >>> (nI v &&& 31)) &&& 1 = if x &&& (1 : Int32) <<< (nI v &&& 31) = 0 then 0 else 1 := by
  obtain ⟨s1, s2⟩ := sh_b31 v hv
  have e1 : (x &&& (1 : Int32) <<< (nI v &&& 31) = 0) ↔ x.toBitVec.getLsbD v = false := by
    rw [← Int32.toBitVec_inj, Int32.toBitVec_and, s1, BitVec.and_twoPow]
    constructor
    · intro h
      cases hq : x.toBitVec.getLsbD v with
      | false => rfl
      | true =>
        rw [hq, if_pos rfl] at h
        have := congrArg (fun y : BitVec 32 => y.getLsbD v) h
        simp only [BitVec.getLsbD_twoPow] at this
        rw [show (0 : Int32).toBitVec = 0#32 from rfl, BitVec.getLsbD_zero] at this
        simp at this
        omega
    · intro h
      rw [h]
      rfl
  have e2 : (x >>> (nI v &&& 31)).toBitVec = x.toBitVec.sshiftRight v := by
    show (x.toBitVec.sshiftRight' ((nI v &&& 31).toBitVec.smod 32)) = _
    rw [BitVec.sshiftRight', s2]
  have e3 : (x >>> (nI v &&& 31)) &&& 1 = if x.toBitVec.getLsbD v = true then 1 else 0 := by
    apply Int32.toBitVec_inj.mp
    rw [Int32.toBitVec_and, e2]
    apply BitVec.eq_of_getLsbD_eq
    intro i hi
    rw [BitVec.getLsbD_and, BitVec.getLsbD_sshiftRight]
    by_cases q : i = 0
    · subst q
      rw [Nat.add_zero, if_pos (show v < 32 by omega)]
      cases x.toBitVec.getLsbD v <;> rfl
    · have h1 : ∀ i, i < 32 → i ≠ 0 → (1 : Int32).toBitVec.getLsbD i = false := by decide
      have h0 : ∀ i, i < 32 → (0 : Int32).toBitVec.getLsbD i = false := by decide
      rw [h1 i hi q, Bool.and_false]
      split
      · exact (h1 i hi q).symm
      · exact (h0 i hi).symm
  rw [e3]
  cases hq : x.toBitVec.getLsbD v with
  | false => rw [if_neg (by decide), if_pos (e1.mpr hq)]
  | true => rw [if_pos rfl, if_neg (fun h => by rw [e1.mp h] at hq; cases hq)]
/-- the class's mask of m steps from s on -/
def nm_f (sd : Nat → Nat → Int32) : Nat → Nat → Int32
  | 0, _ => 0
  | m + 1, s => nm_or (nm_f sd m s) (sd (s + m) 2)
/-- the model's, bit 0 among it -/
def nm_m (sd : Nat → Nat → Int32) : Nat → Nat → Int32
  | 0, _ => 0
  | m + 1, s => nm_m sd m s ||| (1 : Int32) <<< (sd (s + m) 2 &&& 31)
theorem nm_mf {sd : Nat → Nat → Int32} {s : Nat} : ∀ m, (∀ j, s ≤ j → j < s + m → ∃ v, v ≤ 20 ∧ sd j 2 = nI v) → nm_m sd m s &&& (-2) = nm_f sd m s := by
  intro m
  induction m with
  | zero => intro _; show (0 : Int32) &&& (-2) = 0; decide
  | succ m ih =>
    intro h
    obtain ⟨v, v1, v2⟩ := h (s + m) (by omega) (by omega)
    rw [nm_m, nm_f, or_and2, ih (fun j j1 j2 => h j j1 (by omega)), v2, sh_2 v (by omega)]
    unfold nm_or
    rcases Nat.eq_zero_or_pos v with q | q
    · rw [q, if_pos rfl, if_pos (by decide), or_0]
    · rw [if_neg (by omega), if_neg (nI_nle q (by omega))]
theorem nm_f_cg {sd sd' : Nat → Nat → Int32} {s : Nat} : ∀ m, (∀ j, s ≤ j → j < s + m → sd j 2 = sd' j 2) → nm_f sd m s = nm_f sd' m s := by
  intro m
  induction m with
  | zero => intro _; rfl
  | succ m ih => intro h; rw [nm_f, nm_f, ih (fun j j1 j2 => h j j1 (by omega)), h (s + m) (by omega) (by omega)]
/-- each test's mask is that of its steps -/
def pz_m (z : pz) : Prop := ∀ i, i < zTn z → zNm z i = nm_f (zSd z) (zBe z i - zFi z i) (zFi z i)
theorem pz_m_0 : pz_m pz_0 := fun i hi => absurd hi (Nat.not_lt_zero _)
theorem pz_m_push {z z' : pz} {g nf : Nat → Int32} {nl : Nat} (hz : pz_b z) (ht : 0 < zTn z) (h : pz_m z) (h1 : z' = z ∨ z' = pz_open z ∨ z' = pz_open (pz_always z)) : pz_m (pz_push g nl nf z') := by
  have e1 : zTn z' = zTn z ∧ zNm z' = zNm z ∧ zSd z' = zSd z ∧ zFi z' = zFi z ∧ zSn z' = zSn z := by
    rcases h1 with rfl | rfl | rfl <;> exact ⟨rfl, rfl, rfl, rfl, rfl⟩
  obtain ⟨e1, e2, e3, e4, e5⟩ := e1
  obtain ⟨z1, z2, z3, z4, z5, z6, z7, z8, z9, z10⟩ := id hz
  have hf := z8 ht
  intro i hi
  replace hi : i < zTn z' := hi
  have nmE : zNm (pz_push g nl nf z') i = va_up (zNm z') (zTn z' - 1) (nm_or (zNm z' (zTn z' - 1)) (g 2)) i := rfl
  have sdE : zSd (pz_push g nl nf z') = va_up (zSd z') (zSn z') g := rfl
  have fiE : zFi (pz_push g nl nf z') = zFi z' := rfl
  have beE : zBe (pz_push g nl nf z') i = if i + 1 < zTn z' then zFi z' (i + 1) else zSn z' + 1 := rfl
  rw [nmE, sdE, fiE, beE, e1, e2, e3, e4, e5]
  rw [e1] at hi
  have hi2 := h i hi
  by_cases q : i = zTn z - 1
  · have bo : zBe z i = zSn z := if_neg (by omega)
    rw [q, va_up_s, if_neg (by omega)]
    rw [q] at hi2 bo
    rw [bo] at hi2
    rw [show zSn z + 1 - zFi z (zTn z - 1) = (zSn z - zFi z (zTn z - 1)) + 1 by omega, nm_f, show zFi z (zTn z - 1) + (zSn z - zFi z (zTn z - 1)) = zSn z by omega, va_up_s, hi2]
    congr 1
    exact nm_f_cg _ (fun j j1 j2 => by rw [va_up_n (by omega)])
  · have bo : zBe z i = zFi z (i + 1) := if_pos (by omega)
    rw [va_up_n q, if_pos (by omega), hi2, bo]
    have := fi_le hz (i := i) (by omega)
    exact nm_f_cg _ (fun j j1 j2 => by rw [va_up_n (by omega)])
theorem pz_line_m {sg : Nat → Nat} {s e n : Nat} {z z' : pz} (hz : pz_b z) (h : pz_m z) (hl : pz_line sg s e n z = some z') : pz_m z' := by
  unfold pz_line at hl
  rcases zIf_el hl with ⟨-, hl⟩ | ⟨-, hl⟩
  · obtain ⟨-, rfl⟩ := zIf_sn hl
    exact h
  · rcases zIf_el hl with ⟨-, hl⟩ | ⟨-, hl⟩
    · obtain ⟨-, rfl⟩ := zIf_sn hl
      intro i hi
      replace hi : i < zTn z + 1 := hi
      have nmE : zNm (pz_test (w_key sg s e 1) z) i = va_up (zNm z) (zTn z) 0 i := rfl
      have fiE : zFi (pz_test (w_key sg s e 1) z) = va_up (zFi z) (zTn z) (zSn z) := rfl
      have sdE : zSd (pz_test (w_key sg s e 1) z) = zSd z := rfl
      have beE : zBe (pz_test (w_key sg s e 1) z) i = if i + 1 < zTn z + 1 then va_up (zFi z) (zTn z) (zSn z) (i + 1) else zSn z := rfl
      rw [nmE, fiE, sdE, beE]
      by_cases q : i = zTn z
      · rw [q, va_up_s, va_up_s, if_neg (by omega), Nat.sub_self]; rfl
      · rw [va_up_n q, va_up_n q, if_pos (by omega), h i (by omega)]
        by_cases w : i + 1 = zTn z
        · rw [w, va_up_s, show zBe z i = zSn z from if_neg (by omega)]
        · rw [va_up_n w, show zBe z i = zFi z (i + 1) from if_pos (by omega)]
    · rcases zIf_el hl with ⟨-, hl⟩ | ⟨-, hl⟩
      · obtain ⟨-, rfl⟩ := zIf_sn hl
        exact h
      · rcases zIf_el hl with ⟨-, hl⟩ | ⟨ht, hl⟩
        · cases hl
        · cases hf : pz_fill sg s e n z with
          | none => rw [hf] at hl; cases hl
          | some f =>
            rw [hf] at hl
            cases hl
            refine pz_m_push hz (by omega) h ?_
            rcases (pz_fill_inv hz hf).2 with w | w | w
            · exact Or.inl w.1
            · exact Or.inr (Or.inl w.1)
            · exact Or.inr (Or.inr w.1)
theorem pz_rd_m {sg : Nat → Nat} {n : Nat} : ∀ (fu k b : Nat) (z z' : pz), pz_ok z → pz_m z → (pz_rd sg n fu k b z).2 = some z' → pz_m z' := by
  intro fu
  induction fu with
  | zero => intro k b z z' _ h hr; cases hr; exact h
  | succ fu ih =>
    intro k b z z' hz h hr
    rw [pz_rd] at hr
    by_cases q : b < n
    · rw [if_pos q] at hr
      by_cases w : 0 < w_c sg b (l_en sg (n - b) b)
      · rw [if_pos w] at hr
        cases hl : pz_line sg b (l_en sg (n - b) b) (k + 1) z with
        | none => rw [hl] at hr; cases hr
        | some z2 =>
          rw [hl] at hr
          exact ih _ _ z2 z' (pz_line_ok hz hl) (pz_line_m hz.1 h hl) hr
      · rw [if_neg w] at hr
        exact ih _ _ z z' hz h hr
    · rw [if_neg q] at hr
      by_cases w : 0 < zDp z
      · rw [if_pos w] at hr; cases hr
      · rw [if_neg w] at hr; cases hr; exact h
