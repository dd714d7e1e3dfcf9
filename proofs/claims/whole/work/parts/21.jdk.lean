/-! THE JDK's MEMBERS: numbers, checkIndex, ArrayList, texts -/
section JD
variable {l : Launch} {X : pm_X} {G : pm_G} {κ : Nat}
theorem c_Math_max {x y : Int32} : cn_M l X m_Math_max 0 0 0 [.int x, .int y] G (fun r G' => r = some (.int (if x < y then y else x)) ∧ G = G') := by
  refine cn_inF (by decide +kernel) (Nat.le_of_ble_eq_true rfl) ?_
  refine ev_iload_n d_Math_max_0 rfl rfl ?_
  refine ev_iload_n d_Math_max_1 rfl rfl ?_
  refine ev_icmp_lt 9 d_Math_max_2 (by decide) (fun h => ?_) (fun h => ?_)
  · refine ev_iload_n d_Math_max_9 rfl rfl ?_
    exact ev_iret d_Math_max_10 rfl (⟨by rw [if_pos h], rfl⟩)
  · refine ev_iload_n d_Math_max_5 rfl rfl ?_
    refine ev_goto 10 d_Math_max_6 (by decide) ?_
    exact ev_iret d_Math_max_10 rfl (⟨by rw [if_neg h], rfl⟩)
theorem c_Math_min {x y : Int32} : cn_M l X m_Math_min 0 0 0 [.int x, .int y] G (fun r G' => r = some (.int (if y < x then y else x)) ∧ G = G') := by
  refine cn_inF (by decide +kernel) (Nat.le_of_ble_eq_true rfl) ?_
  refine ev_iload_n d_Math_min_0 rfl rfl ?_
  refine ev_iload_n d_Math_min_1 rfl rfl ?_
  refine ev_icmp_gt 9 d_Math_min_2 (by decide) (fun h => ?_) (fun h => ?_)
  · refine ev_iload_n d_Math_min_9 rfl rfl ?_
    exact ev_iret d_Math_min_10 rfl (⟨by rw [if_pos h], rfl⟩)
  · refine ev_iload_n d_Math_min_5 rfl rfl ?_
    refine ev_goto 10 d_Math_min_6 (by decide) ?_
    exact ev_iret d_Math_min_10 rfl (⟨by rw [if_neg h], rfl⟩)
theorem c_Prec_checkIndex {i n : Nat} {r0 : Option Nat} (hi : i < n) (hn : n < 2 ^ 31) : cn_M l X m_Prec_checkIndex 0 0 0 [.int (nI i), .int (nI n), va_rf r0] G (fun r G' => r = some (.int (nI i)) ∧ G = G') := by
  cases r0 with
  | none =>
    refine cn_in rfl (Nat.le_of_ble_eq_true rfl) ?_
    refine ev_iload_n d_Prec_checkIndex_0 rfl rfl ?_
    refine ev_if_lt 9 d_Prec_checkIndex_1 (by decide) (fun h => ?_) (fun h => ?_)
    · exact absurd h (nI_pos (by omega))
    · refine ev_iload_n d_Prec_checkIndex_4 rfl rfl ?_
      refine ev_iload_n d_Prec_checkIndex_5 rfl rfl ?_
      refine ev_icmp_lt 16 d_Prec_checkIndex_6 (by decide) (fun h2 => ?_) (fun h2 => ?_)
      · refine ev_iload_n d_Prec_checkIndex_16 rfl rfl ?_
        exact ev_iret d_Prec_checkIndex_17 rfl (⟨rfl, rfl⟩)
      · exact absurd (nI_lt hi hn) h2
  | some a =>
    refine cn_in rfl (Nat.le_of_ble_eq_true rfl) ?_
    refine ev_iload_n d_Prec_checkIndex_0 rfl rfl ?_
    refine ev_if_lt 9 d_Prec_checkIndex_1 (by decide) (fun h => ?_) (fun h => ?_)
    · exact absurd h (nI_pos (by omega))
    · refine ev_iload_n d_Prec_checkIndex_4 rfl rfl ?_
      refine ev_iload_n d_Prec_checkIndex_5 rfl rfl ?_
      refine ev_icmp_lt 16 d_Prec_checkIndex_6 (by decide) (fun h2 => ?_) (fun h2 => ?_)
      · refine ev_iload_n d_Prec_checkIndex_16 rfl rfl ?_
        exact ev_iret d_Prec_checkIndex_17 rfl (⟨rfl, rfl⟩)
      · exact absurd (nI_lt hi hn) h2
theorem c_Objs_checkIndex {i n : Nat} (hi : i < n) (hn : n < 2 ^ 31) : cn_M l X m_Objs_checkIndex 1 0 0 [.int (nI i), .int (nI n)] G (fun r G' => r = some (.int (nI i)) ∧ G = G') := by
  refine cn_in rfl (Nat.le_of_ble_eq_true rfl) ?_
  refine ev_iload_n d_Objs_checkIndex_0 rfl rfl ?_
  refine ev_iload_n d_Objs_checkIndex_1 rfl rfl ?_
  refine ev_null d_Objs_checkIndex_2 ?_
  refine ev_callS3 d_Objs_checkIndex_3 ck_Prec_checkIndex ml_Objs_105 sm_Prec_checkIndex (c_Prec_checkIndex (r0 := none) hi hn) (by omega) (Nat.le_of_ble_eq_true rfl) (by omega) (by omega) ?_
  rintro _ _ ⟨rfl, rfl⟩
  exact ev_iret d_Objs_checkIndex_6 rfl (⟨rfl, rfl⟩)
/-- an ArrayList of n elements: their addresses -/
def al_at (κ : Nat) (X : pm_X) (G : pm_G) (a n : Nat) (es : Nat → Nat) : Prop := ∃ (b cap : Nat) (m : Int32) (f : Nat → Option Nat), G a = some (κ, .inr (10, [.ref b, .int (nI n), .int m])) ∧ n ≤ cap ∧ cap < 2 ^ 30 ∧ (∀ i, i < n → f i = some (es i)) ∧ ((G b = some (κ + 1, .inl (5, cap, .inr (.inr (.inr (.inr f))))) ∧ 10 ≤ cap) ∨ (b = X.2.2.2.1 0 ∧ cap = 0))
theorem al_at.fr {κ : Nat} {X : pm_X} {G G' : pm_G} {a n : Nat} {es : Nat → Nat} {S : Nat → Prop} (h : al_at κ X G a n es) (hf : pm_fr S G G') (h1 : ¬ S κ) (h2 : ¬ S (κ + 1)) : al_at κ X G' a n es := by
  obtain ⟨b, cap, m, f, hG, q1, q2, q3, q4⟩ := h
  refine ⟨b, cap, m, f, hf _ _ _ hG h1, q1, q2, q3, ?_⟩
  rcases q4 with ⟨q4, q5⟩ | q4
  · exact Or.inl ⟨hf _ _ _ q4 h2, q5⟩
  · exact Or.inr q4
theorem al_at.eq {κ : Nat} {X : pm_X} {G : pm_G} {a n : Nat} {es es' : Nat → Nat} (h : al_at κ X G a n es) (he : ∀ i, i < n → es' i = es i) : al_at κ X G a n es' := by
  obtain ⟨b, cap, m, f, hG, q1, q2, q3, q4⟩ := h
  exact ⟨b, cap, m, f, hG, q1, q2, fun i hi => by rw [he i hi]; exact q3 i hi, q4⟩
theorem c_AL_size {a n : Nat} {es : Nat → Nat} (h : al_at κ X G a n es) : cn_M l X m_AL_size 0 0 0 [.ref a] G (fun r G' => r = some (.int (nI n)) ∧ G = G') := by
  obtain ⟨b, cap, m, f, hG, -⟩ := h
  refine cn_in rfl (Nat.le_of_ble_eq_true rfl) ?_
  refine ev_aload_n d_AL_size_0 rfl rfl ?_
  refine ev_get d_AL_size_1 fo_AL_48 (by first | assumption | exact pm_up_eq | (refine pm_up_ne (by first | assumption | (apply Ne.symm; assumption) | exact pm_neK (G := G) (by assumption) (by assumption) (by omega) | exact pm_neOA (G := G) (by assumption) (by assumption) | exact (pm_neOA (G := G) (by assumption) (by assumption)).symm | exact pm_neN (G := G) (by assumption) (by assumption) | exact (pm_neN (G := G) (by assumption) (by assumption)).symm) ?_; first | assumption | exact pm_up_eq | (refine pm_up_ne (by first | assumption | (apply Ne.symm; assumption) | exact pm_neK (G := G) (by assumption) (by assumption) (by omega) | exact pm_neOA (G := G) (by assumption) (by assumption) | exact (pm_neOA (G := G) (by assumption) (by assumption)).symm | exact pm_neN (G := G) (by assumption) (by assumption) | exact (pm_neN (G := G) (by assumption) (by assumption)).symm) ?_; first | assumption | exact pm_up_eq | (refine pm_up_ne (by first | assumption | (apply Ne.symm; assumption) | exact pm_neK (G := G) (by assumption) (by assumption) (by omega) | exact pm_neOA (G := G) (by assumption) (by assumption) | exact (pm_neOA (G := G) (by assumption) (by assumption)).symm | exact pm_neN (G := G) (by assumption) (by assumption) | exact (pm_neN (G := G) (by assumption) (by assumption)).symm) ?_; first | assumption | exact pm_up_eq | (refine pm_up_ne (by first | assumption | (apply Ne.symm; assumption) | exact pm_neK (G := G) (by assumption) (by assumption) (by omega) | exact pm_neOA (G := G) (by assumption) (by assumption) | exact (pm_neOA (G := G) (by assumption) (by assumption)).symm | exact pm_neN (G := G) (by assumption) (by assumption) | exact (pm_neN (G := G) (by assumption) (by assumption)).symm) ?_; first | assumption | exact pm_up_eq | (refine pm_up_ne (by first | assumption | (apply Ne.symm; assumption) | exact pm_neK (G := G) (by assumption) (by assumption) (by omega) | exact pm_neOA (G := G) (by assumption) (by assumption) | exact (pm_neOA (G := G) (by assumption) (by assumption)).symm | exact pm_neN (G := G) (by assumption) (by assumption) | exact (pm_neN (G := G) (by assumption) (by assumption)).symm) ?_; first | assumption | exact pm_up_eq)))))) rfl ?_
  exact ev_iret d_AL_size_4 rfl (⟨rfl, rfl⟩)
theorem c_AL_isEmpty {a n : Nat} {es : Nat → Nat} (h : al_at κ X G a n es) : cn_M l X m_AL_isEmpty 0 0 0 [.ref a] G (fun r G' => r = some (.int (if n = 0 then 1 else 0)) ∧ G = G') := by
  obtain ⟨b, cap, m, f, hG, h1, h2, -⟩ := h
  refine cn_in rfl (Nat.le_of_ble_eq_true rfl) ?_
  refine ev_aload_n d_AL_isEmpty_0 rfl rfl ?_
  refine ev_get d_AL_isEmpty_1 fo_AL_48 (by first | assumption | exact pm_up_eq | (refine pm_up_ne (by first | assumption | (apply Ne.symm; assumption) | exact pm_neK (G := G) (by assumption) (by assumption) (by omega) | exact pm_neOA (G := G) (by assumption) (by assumption) | exact (pm_neOA (G := G) (by assumption) (by assumption)).symm | exact pm_neN (G := G) (by assumption) (by assumption) | exact (pm_neN (G := G) (by assumption) (by assumption)).symm) ?_; first | assumption | exact pm_up_eq | (refine pm_up_ne (by first | assumption | (apply Ne.symm; assumption) | exact pm_neK (G := G) (by assumption) (by assumption) (by omega) | exact pm_neOA (G := G) (by assumption) (by assumption) | exact (pm_neOA (G := G) (by assumption) (by assumption)).symm | exact pm_neN (G := G) (by assumption) (by assumption) | exact (pm_neN (G := G) (by assumption) (by assumption)).symm) ?_; first | assumption | exact pm_up_eq | (refine pm_up_ne (by first | assumption | (apply Ne.symm; assumption) | exact pm_neK (G := G) (by assumption) (by assumption) (by omega) | exact pm_neOA (G := G) (by assumption) (by assumption) | exact (pm_neOA (G := G) (by assumption) (by assumption)).symm | exact pm_neN (G := G) (by assumption) (by assumption) | exact (pm_neN (G := G) (by assumption) (by assumption)).symm) ?_; first | assumption | exact pm_up_eq | (refine pm_up_ne (by first | assumption | (apply Ne.symm; assumption) | exact pm_neK (G := G) (by assumption) (by assumption) (by omega) | exact pm_neOA (G := G) (by assumption) (by assumption) | exact (pm_neOA (G := G) (by assumption) (by assumption)).symm | exact pm_neN (G := G) (by assumption) (by assumption) | exact (pm_neN (G := G) (by assumption) (by assumption)).symm) ?_; first | assumption | exact pm_up_eq | (refine pm_up_ne (by first | assumption | (apply Ne.symm; assumption) | exact pm_neK (G := G) (by assumption) (by assumption) (by omega) | exact pm_neOA (G := G) (by assumption) (by assumption) | exact (pm_neOA (G := G) (by assumption) (by assumption)).symm | exact pm_neN (G := G) (by assumption) (by assumption) | exact (pm_neN (G := G) (by assumption) (by assumption)).symm) ?_; first | assumption | exact pm_up_eq)))))) rfl ?_
  refine ev_if_ne 11 d_AL_isEmpty_4 (by decide) (fun h => ?_) (fun h => ?_)
  · refine ev_iconst (v := 0) d_AL_isEmpty_11 (by decide) ?_
    exact ev_zret d_AL_isEmpty_12 rfl rfl (⟨by rw [if_neg (fun z => h (by rw [z]; rfl))], rfl⟩)
  · refine ev_iconst (v := 1) d_AL_isEmpty_7 (by decide) ?_
    refine ev_goto 12 d_AL_isEmpty_8 (by decide) ?_
    exact ev_zret d_AL_isEmpty_12 rfl rfl (⟨by rw [if_pos ((nI_eq (by omega) (by omega)).mp (h.trans nI_0.symm))], rfl⟩)
theorem c_AL_elementData {a n i : Nat} {es : Nat → Nat} (h : al_at κ X G a n es) (hi : i < n) : cn_M l X m_AL_elementData 0 0 0 [.ref a, .int (nI i)] G (fun r G' => r = some (.ref (es i)) ∧ G = G') := by
  obtain ⟨b, cap, m, f, hG, h1, h2, h3, h4⟩ := h
  rcases h4 with ⟨hb, -⟩ | ⟨-, h4⟩
  · refine cn_in rfl (Nat.le_of_ble_eq_true rfl) ?_
    refine ev_aload_n d_AL_elementData_0 rfl rfl ?_
    refine ev_get d_AL_elementData_1 fo_AL_9 (by first | assumption | exact pm_up_eq | (refine pm_up_ne (by first | assumption | (apply Ne.symm; assumption) | exact pm_neK (G := G) (by assumption) (by assumption) (by omega) | exact pm_neOA (G := G) (by assumption) (by assumption) | exact (pm_neOA (G := G) (by assumption) (by assumption)).symm | exact pm_neN (G := G) (by assumption) (by assumption) | exact (pm_neN (G := G) (by assumption) (by assumption)).symm) ?_; first | assumption | exact pm_up_eq | (refine pm_up_ne (by first | assumption | (apply Ne.symm; assumption) | exact pm_neK (G := G) (by assumption) (by assumption) (by omega) | exact pm_neOA (G := G) (by assumption) (by assumption) | exact (pm_neOA (G := G) (by assumption) (by assumption)).symm | exact pm_neN (G := G) (by assumption) (by assumption) | exact (pm_neN (G := G) (by assumption) (by assumption)).symm) ?_; first | assumption | exact pm_up_eq | (refine pm_up_ne (by first | assumption | (apply Ne.symm; assumption) | exact pm_neK (G := G) (by assumption) (by assumption) (by omega) | exact pm_neOA (G := G) (by assumption) (by assumption) | exact (pm_neOA (G := G) (by assumption) (by assumption)).symm | exact pm_neN (G := G) (by assumption) (by assumption) | exact (pm_neN (G := G) (by assumption) (by assumption)).symm) ?_; first | assumption | exact pm_up_eq | (refine pm_up_ne (by first | assumption | (apply Ne.symm; assumption) | exact pm_neK (G := G) (by assumption) (by assumption) (by omega) | exact pm_neOA (G := G) (by assumption) (by assumption) | exact (pm_neOA (G := G) (by assumption) (by assumption)).symm | exact pm_neN (G := G) (by assumption) (by assumption) | exact (pm_neN (G := G) (by assumption) (by assumption)).symm) ?_; first | assumption | exact pm_up_eq | (refine pm_up_ne (by first | assumption | (apply Ne.symm; assumption) | exact pm_neK (G := G) (by assumption) (by assumption) (by omega) | exact pm_neOA (G := G) (by assumption) (by assumption) | exact (pm_neOA (G := G) (by assumption) (by assumption)).symm | exact pm_neN (G := G) (by assumption) (by assumption) | exact (pm_neN (G := G) (by assumption) (by assumption)).symm) ?_; first | assumption | exact pm_up_eq)))))) rfl ?_
    refine ev_iload_n d_AL_elementData_4 rfl rfl ?_
    refine ev_aald d_AL_elementData_5 rfl (by first | assumption | exact pm_up_eq | (refine pm_up_ne (by first | assumption | (apply Ne.symm; assumption) | exact pm_neK (G := G) (by assumption) (by assumption) (by omega) | exact pm_neOA (G := G) (by assumption) (by assumption) | exact (pm_neOA (G := G) (by assumption) (by assumption)).symm | exact pm_neN (G := G) (by assumption) (by assumption) | exact (pm_neN (G := G) (by assumption) (by assumption)).symm) ?_; first | assumption | exact pm_up_eq | (refine pm_up_ne (by first | assumption | (apply Ne.symm; assumption) | exact pm_neK (G := G) (by assumption) (by assumption) (by omega) | exact pm_neOA (G := G) (by assumption) (by assumption) | exact (pm_neOA (G := G) (by assumption) (by assumption)).symm | exact pm_neN (G := G) (by assumption) (by assumption) | exact (pm_neN (G := G) (by assumption) (by assumption)).symm) ?_; first | assumption | exact pm_up_eq | (refine pm_up_ne (by first | assumption | (apply Ne.symm; assumption) | exact pm_neK (G := G) (by assumption) (by assumption) (by omega) | exact pm_neOA (G := G) (by assumption) (by assumption) | exact (pm_neOA (G := G) (by assumption) (by assumption)).symm | exact pm_neN (G := G) (by assumption) (by assumption) | exact (pm_neN (G := G) (by assumption) (by assumption)).symm) ?_; first | assumption | exact pm_up_eq | (refine pm_up_ne (by first | assumption | (apply Ne.symm; assumption) | exact pm_neK (G := G) (by assumption) (by assumption) (by omega) | exact pm_neOA (G := G) (by assumption) (by assumption) | exact (pm_neOA (G := G) (by assumption) (by assumption)).symm | exact pm_neN (G := G) (by assumption) (by assumption) | exact (pm_neN (G := G) (by assumption) (by assumption)).symm) ?_; first | assumption | exact pm_up_eq | (refine pm_up_ne (by first | assumption | (apply Ne.symm; assumption) | exact pm_neK (G := G) (by assumption) (by assumption) (by omega) | exact pm_neOA (G := G) (by assumption) (by assumption) | exact (pm_neOA (G := G) (by assumption) (by assumption)).symm | exact pm_neN (G := G) (by assumption) (by assumption) | exact (pm_neN (G := G) (by assumption) (by assumption)).symm) ?_; first | assumption | exact pm_up_eq)))))) (by first | assumption | exact vp_in_nI (by omega) (by omega)) ?_
    have e1 : f (nI i).toNatClampNeg = some (es i) := by rw [nI_clamp (by omega), h3 i hi]
    rw [e1]
    exact ev_aret d_AL_elementData_6 rfl (by first | exact Or.inl ⟨_, rfl⟩ | exact Or.inr ⟨_, rfl⟩) (by first | exact Or.inl rfl | exact Or.inr ⟨_, rfl⟩) (⟨rfl, rfl⟩)
  · omega
theorem c_AL_get {a n i : Nat} {es : Nat → Nat} (h : al_at κ X G a n es) (hi : i < n) : cn_M l X m_AL_get 2 0 0 [.ref a, .int (nI i)] G (fun r G' => r = some (.ref (es i)) ∧ G = G') := by
  have h0 := h
  obtain ⟨b, cap, m, f, hG, h1, h2, -⟩ := h
  refine cn_in rfl (Nat.le_of_ble_eq_true rfl) ?_
  refine ev_iload_n d_AL_get_0 rfl rfl ?_
  refine ev_aload_n d_AL_get_1 rfl rfl ?_
  refine ev_get d_AL_get_2 fo_AL_48 (by first | assumption | exact pm_up_eq | (refine pm_up_ne (by first | assumption | (apply Ne.symm; assumption) | exact pm_neK (G := G) (by assumption) (by assumption) (by omega) | exact pm_neOA (G := G) (by assumption) (by assumption) | exact (pm_neOA (G := G) (by assumption) (by assumption)).symm | exact pm_neN (G := G) (by assumption) (by assumption) | exact (pm_neN (G := G) (by assumption) (by assumption)).symm) ?_; first | assumption | exact pm_up_eq | (refine pm_up_ne (by first | assumption | (apply Ne.symm; assumption) | exact pm_neK (G := G) (by assumption) (by assumption) (by omega) | exact pm_neOA (G := G) (by assumption) (by assumption) | exact (pm_neOA (G := G) (by assumption) (by assumption)).symm | exact pm_neN (G := G) (by assumption) (by assumption) | exact (pm_neN (G := G) (by assumption) (by assumption)).symm) ?_; first | assumption | exact pm_up_eq | (refine pm_up_ne (by first | assumption | (apply Ne.symm; assumption) | exact pm_neK (G := G) (by assumption) (by assumption) (by omega) | exact pm_neOA (G := G) (by assumption) (by assumption) | exact (pm_neOA (G := G) (by assumption) (by assumption)).symm | exact pm_neN (G := G) (by assumption) (by assumption) | exact (pm_neN (G := G) (by assumption) (by assumption)).symm) ?_; first | assumption | exact pm_up_eq | (refine pm_up_ne (by first | assumption | (apply Ne.symm; assumption) | exact pm_neK (G := G) (by assumption) (by assumption) (by omega) | exact pm_neOA (G := G) (by assumption) (by assumption) | exact (pm_neOA (G := G) (by assumption) (by assumption)).symm | exact pm_neN (G := G) (by assumption) (by assumption) | exact (pm_neN (G := G) (by assumption) (by assumption)).symm) ?_; first | assumption | exact pm_up_eq | (refine pm_up_ne (by first | assumption | (apply Ne.symm; assumption) | exact pm_neK (G := G) (by assumption) (by assumption) (by omega) | exact pm_neOA (G := G) (by assumption) (by assumption) | exact (pm_neOA (G := G) (by assumption) (by assumption)).symm | exact pm_neN (G := G) (by assumption) (by assumption) | exact (pm_neN (G := G) (by assumption) (by assumption)).symm) ?_; first | assumption | exact pm_up_eq)))))) rfl ?_
  refine ev_callS2 d_AL_get_5 ck_Objs_checkIndex ml_AL_118 sm_Objs_checkIndex (c_Objs_checkIndex hi (by omega)) (by omega) (Nat.le_of_ble_eq_true rfl) (by omega) (by omega) ?_
  rintro _ _ ⟨rfl, rfl⟩
  refine ev_pop d_AL_get_8 rfl ?_
  refine ev_aload_n d_AL_get_9 rfl rfl ?_
  refine ev_iload_n d_AL_get_10 rfl rfl ?_
  refine ev_callV1 d_AL_get_11 ck_AL_elementData ml_AL_123 im_AL_elementData se_AL_elementData rfl (by first | assumption | exact pm_up_eq | (refine pm_up_ne (by first | assumption | (apply Ne.symm; assumption) | exact pm_neK (G := G) (by assumption) (by assumption) (by omega) | exact pm_neOA (G := G) (by assumption) (by assumption) | exact (pm_neOA (G := G) (by assumption) (by assumption)).symm | exact pm_neN (G := G) (by assumption) (by assumption) | exact (pm_neN (G := G) (by assumption) (by assumption)).symm) ?_; first | assumption | exact pm_up_eq | (refine pm_up_ne (by first | assumption | (apply Ne.symm; assumption) | exact pm_neK (G := G) (by assumption) (by assumption) (by omega) | exact pm_neOA (G := G) (by assumption) (by assumption) | exact (pm_neOA (G := G) (by assumption) (by assumption)).symm | exact pm_neN (G := G) (by assumption) (by assumption) | exact (pm_neN (G := G) (by assumption) (by assumption)).symm) ?_; first | assumption | exact pm_up_eq | (refine pm_up_ne (by first | assumption | (apply Ne.symm; assumption) | exact pm_neK (G := G) (by assumption) (by assumption) (by omega) | exact pm_neOA (G := G) (by assumption) (by assumption) | exact (pm_neOA (G := G) (by assumption) (by assumption)).symm | exact pm_neN (G := G) (by assumption) (by assumption) | exact (pm_neN (G := G) (by assumption) (by assumption)).symm) ?_; first | assumption | exact pm_up_eq | (refine pm_up_ne (by first | assumption | (apply Ne.symm; assumption) | exact pm_neK (G := G) (by assumption) (by assumption) (by omega) | exact pm_neOA (G := G) (by assumption) (by assumption) | exact (pm_neOA (G := G) (by assumption) (by assumption)).symm | exact pm_neN (G := G) (by assumption) (by assumption) | exact (pm_neN (G := G) (by assumption) (by assumption)).symm) ?_; first | assumption | exact pm_up_eq | (refine pm_up_ne (by first | assumption | (apply Ne.symm; assumption) | exact pm_neK (G := G) (by assumption) (by assumption) (by omega) | exact pm_neOA (G := G) (by assumption) (by assumption) | exact (pm_neOA (G := G) (by assumption) (by assumption)).symm | exact pm_neN (G := G) (by assumption) (by assumption) | exact (pm_neN (G := G) (by assumption) (by assumption)).symm) ?_; first | assumption | exact pm_up_eq)))))) (c_AL_elementData h0 hi) (by omega) (Nat.le_of_ble_eq_true rfl) (by omega) (by omega) ?_
  rintro _ _ ⟨rfl, rfl⟩
  exact ev_aret d_AL_get_14 rfl (by first | exact Or.inl ⟨_, rfl⟩ | exact Or.inr ⟨_, rfl⟩) (by first | exact Or.inl rfl | exact Or.inr ⟨_, rfl⟩) (⟨rfl, rfl⟩)
theorem c_AbC_init {a : Nat} : cn_M l X m_AbC_init 1 0 0 [.ref a] G (fun r G' => r = none ∧ G = G') := by
  refine cn_in rfl (Nat.le_of_ble_eq_true rfl) ?_
  refine ev_aload_n d_AbC_init_0 rfl rfl ?_
  refine ev_objInit d_AbC_init_1 hw_53 hw_34 hw_35 (Nat.le_of_ble_eq_true rfl) (by omega) ?_
  exact ev_vret d_AbC_init_4 rfl (⟨rfl, rfl⟩)
theorem c_AbL_init {a : Nat} {f0 f1 : Value} (hG : G a = some (κ, .inr (10, [f0, f1, .int 0]))) : cn_M l X m_AbL_init 2 0 0 [.ref a] G (fun r G' => r = none ∧ G' = pm_up G a (κ, .inr (10, [f0, f1, .int 0]))) := by
  refine cn_in rfl (Nat.le_of_ble_eq_true rfl) ?_
  refine ev_aload_n d_AbL_init_0 rfl rfl ?_
  refine ev_callI0 d_AbL_init_1 ck_AbC_init ml_AbL_1 im_AbC_init rfl rfl (c_AbC_init) (by omega) (Nat.le_of_ble_eq_true rfl) (by omega) (by omega) ?_
  rintro _ _ ⟨rfl, rfl⟩
  refine ev_aload_n d_AbL_init_4 rfl rfl ?_
  refine ev_iconst (v := 0) d_AbL_init_5 (by decide) ?_
  refine ev_put d_AbL_init_6 fo_AbL_7 (by first | assumption | exact pm_up_eq | (refine pm_up_ne (by first | assumption | (apply Ne.symm; assumption) | exact pm_neK (G := G) (by assumption) (by assumption) (by omega) | exact pm_neOA (G := G) (by assumption) (by assumption) | exact (pm_neOA (G := G) (by assumption) (by assumption)).symm | exact pm_neN (G := G) (by assumption) (by assumption) | exact (pm_neN (G := G) (by assumption) (by assumption)).symm) ?_; first | assumption | exact pm_up_eq | (refine pm_up_ne (by first | assumption | (apply Ne.symm; assumption) | exact pm_neK (G := G) (by assumption) (by assumption) (by omega) | exact pm_neOA (G := G) (by assumption) (by assumption) | exact (pm_neOA (G := G) (by assumption) (by assumption)).symm | exact pm_neN (G := G) (by assumption) (by assumption) | exact (pm_neN (G := G) (by assumption) (by assumption)).symm) ?_; first | assumption | exact pm_up_eq | (refine pm_up_ne (by first | assumption | (apply Ne.symm; assumption) | exact pm_neK (G := G) (by assumption) (by assumption) (by omega) | exact pm_neOA (G := G) (by assumption) (by assumption) | exact (pm_neOA (G := G) (by assumption) (by assumption)).symm | exact pm_neN (G := G) (by assumption) (by assumption) | exact (pm_neN (G := G) (by assumption) (by assumption)).symm) ?_; first | assumption | exact pm_up_eq | (refine pm_up_ne (by first | assumption | (apply Ne.symm; assumption) | exact pm_neK (G := G) (by assumption) (by assumption) (by omega) | exact pm_neOA (G := G) (by assumption) (by assumption) | exact (pm_neOA (G := G) (by assumption) (by assumption)).symm | exact pm_neN (G := G) (by assumption) (by assumption) | exact (pm_neN (G := G) (by assumption) (by assumption)).symm) ?_; first | assumption | exact pm_up_eq | (refine pm_up_ne (by first | assumption | (apply Ne.symm; assumption) | exact pm_neK (G := G) (by assumption) (by assumption) (by omega) | exact pm_neOA (G := G) (by assumption) (by assumption) | exact (pm_neOA (G := G) (by assumption) (by assumption)).symm | exact pm_neN (G := G) (by assumption) (by assumption) | exact (pm_neN (G := G) (by assumption) (by assumption)).symm) ?_; first | assumption | exact pm_up_eq)))))) rfl rfl (Nat.le_of_ble_eq_true rfl) ?_
  exact ev_vret d_AbL_init_9 rfl (⟨rfl, rfl⟩)
theorem c_AL_init {a : Nat} {f0 : Value} (hG : G a = some (κ, .inr (10, [f0, .int 0, .int 0]))) : cn_M l X m_AL_init 3 0 0 [.ref a] G (fun r G' => r = none ∧ G' = pm_up G a (κ, .inr (10, [.ref (X.2.2.2.1 0), .int 0, .int 0]))) := by
  refine cn_in rfl (Nat.le_of_ble_eq_true rfl) ?_
  refine ev_aload_n d_AL_init_0 rfl rfl ?_
  refine ev_callI0 d_AL_init_1 ck_AbL_init ml_AL_1 im_AbL_init rfl rfl (c_AbL_init hG) (by omega) (Nat.le_of_ble_eq_true rfl) (by omega) (by omega) ?_
  rintro _ _ ⟨rfl, rfl⟩
  refine ev_aload_n d_AL_init_4 rfl rfl ?_
  refine ev_getsE rfl d_AL_init_5 ?_
  refine ev_put d_AL_init_8 fo_AL_9 (by first | assumption | exact pm_up_eq | (refine pm_up_ne (by first | assumption | (apply Ne.symm; assumption) | exact pm_neK (G := G) (by assumption) (by assumption) (by omega) | exact pm_neOA (G := G) (by assumption) (by assumption) | exact (pm_neOA (G := G) (by assumption) (by assumption)).symm | exact pm_neN (G := G) (by assumption) (by assumption) | exact (pm_neN (G := G) (by assumption) (by assumption)).symm) ?_; first | assumption | exact pm_up_eq | (refine pm_up_ne (by first | assumption | (apply Ne.symm; assumption) | exact pm_neK (G := G) (by assumption) (by assumption) (by omega) | exact pm_neOA (G := G) (by assumption) (by assumption) | exact (pm_neOA (G := G) (by assumption) (by assumption)).symm | exact pm_neN (G := G) (by assumption) (by assumption) | exact (pm_neN (G := G) (by assumption) (by assumption)).symm) ?_; first | assumption | exact pm_up_eq | (refine pm_up_ne (by first | assumption | (apply Ne.symm; assumption) | exact pm_neK (G := G) (by assumption) (by assumption) (by omega) | exact pm_neOA (G := G) (by assumption) (by assumption) | exact (pm_neOA (G := G) (by assumption) (by assumption)).symm | exact pm_neN (G := G) (by assumption) (by assumption) | exact (pm_neN (G := G) (by assumption) (by assumption)).symm) ?_; first | assumption | exact pm_up_eq | (refine pm_up_ne (by first | assumption | (apply Ne.symm; assumption) | exact pm_neK (G := G) (by assumption) (by assumption) (by omega) | exact pm_neOA (G := G) (by assumption) (by assumption) | exact (pm_neOA (G := G) (by assumption) (by assumption)).symm | exact pm_neN (G := G) (by assumption) (by assumption) | exact (pm_neN (G := G) (by assumption) (by assumption)).symm) ?_; first | assumption | exact pm_up_eq | (refine pm_up_ne (by first | assumption | (apply Ne.symm; assumption) | exact pm_neK (G := G) (by assumption) (by assumption) (by omega) | exact pm_neOA (G := G) (by assumption) (by assumption) | exact (pm_neOA (G := G) (by assumption) (by assumption)).symm | exact pm_neN (G := G) (by assumption) (by assumption) | exact (pm_neN (G := G) (by assumption) (by assumption)).symm) ?_; first | assumption | exact pm_up_eq)))))) rfl rfl (Nat.le_of_ble_eq_true rfl) ?_
  exact ev_vret d_AL_init_11 rfl (⟨rfl, pm_up_up⟩)
end JD
