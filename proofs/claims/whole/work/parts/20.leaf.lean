/-! LEAVES: methods that only read -/
section LF
variable {l : Launch} {X : pm_X} {G : pm_G}
set_option maxRecDepth 10000 in
theorem c_Tr_isFull {a : Nat} {f0 f1 f2 f4 f5 f6 : Value} {c : Int32} (hG : G a = some (.inr (7, [f0, f1, f2, .int c, f4, f5, f6]))) : cn_M l X m_Tr_isFull 0 0 0 [.ref a] G (fun r G' => r = some (.int (if c < 2000 then 0 else 1)) ∧ G' = G) := by
  refine cn_in rfl (Nat.le_of_ble_eq_true rfl) ?_
  refine ev_aload_n d_Tr_isFull_0 rfl rfl ?_
  refine ev_get d_Tr_isFull_1 fo_Tr_28 (by first | assumption | exact pm_up_eq | (refine pm_up_ne (by first | assumption | (apply Ne.symm; assumption)) ?_; first | assumption | exact pm_up_eq | (refine pm_up_ne (by first | assumption | (apply Ne.symm; assumption)) ?_; first | assumption | exact pm_up_eq | (refine pm_up_ne (by first | assumption | (apply Ne.symm; assumption)) ?_; first | assumption | exact pm_up_eq)))) rfl ?_
  refine ev_sipush (v := 2000) d_Tr_isFull_4 (by decide) ?_
  refine ev_icmp_lt 14 d_Tr_isFull_7 (by decide) (fun h => ?_) (fun h => ?_)
  · refine ev_iconst (v := 0) d_Tr_isFull_14 (by decide) ?_
    exact ev_zret d_Tr_isFull_15 rfl rfl (⟨by rw [if_pos h], rfl⟩)
  · refine ev_iconst (v := 1) d_Tr_isFull_10 (by decide) ?_
    refine ev_goto 15 d_Tr_isFull_11 (by decide) ?_
    exact ev_zret d_Tr_isFull_15 rfl rfl (⟨by rw [if_neg h], rfl⟩)
theorem c_Tr_hasStep {a : Nat} {f0 f1 f2 f4 f5 f6 : Value} {c i : Int32} (hG : G a = some (.inr (7, [f0, f1, f2, .int c, f4, f5, f6]))) : cn_M l X m_Tr_hasStep 0 0 0 [.ref a, .int i] G (fun r G' => r = some (.int (if i < 0 ∨ c ≤ i then 0 else 1)) ∧ G' = G) := by
  refine cn_in rfl (Nat.le_of_ble_eq_true rfl) ?_
  refine ev_iload_n d_Tr_hasStep_0 rfl rfl ?_
  refine ev_if_lt 16 d_Tr_hasStep_1 (by decide) (fun h => ?_) (fun h => ?_)
  · refine ev_iconst (v := 0) d_Tr_hasStep_16 (by decide) ?_
    exact ev_zret d_Tr_hasStep_17 rfl rfl (⟨by rw [if_pos (Or.inl h)], rfl⟩)
  · refine ev_iload_n d_Tr_hasStep_4 rfl rfl ?_
    refine ev_aload_n d_Tr_hasStep_5 rfl rfl ?_
    refine ev_get d_Tr_hasStep_6 fo_Tr_28 (by first | assumption | exact pm_up_eq | (refine pm_up_ne (by first | assumption | (apply Ne.symm; assumption)) ?_; first | assumption | exact pm_up_eq | (refine pm_up_ne (by first | assumption | (apply Ne.symm; assumption)) ?_; first | assumption | exact pm_up_eq | (refine pm_up_ne (by first | assumption | (apply Ne.symm; assumption)) ?_; first | assumption | exact pm_up_eq)))) rfl ?_
    refine ev_icmp_ge 16 d_Tr_hasStep_9 (by decide) (fun h2 => ?_) (fun h2 => ?_)
    · refine ev_iconst (v := 0) d_Tr_hasStep_16 (by decide) ?_
      exact ev_zret d_Tr_hasStep_17 rfl rfl (⟨by rw [if_pos (Or.inr h2)], rfl⟩)
    · refine ev_iconst (v := 1) d_Tr_hasStep_12 (by decide) ?_
      refine ev_goto 17 d_Tr_hasStep_13 (by decide) ?_
      exact ev_zret d_Tr_hasStep_17 rfl rfl (⟨by rw [if_neg (fun z => z.elim h h2)], rfl⟩)
theorem c_AL_size {a : Nat} {f0 f2 : Value} {c : Int32} (hG : G a = some (.inr (10, [f0, .int c, f2]))) : cn_M l X m_AL_size 0 0 0 [.ref a] G (fun r G' => r = some (.int c) ∧ G' = G) := by
  refine cn_in rfl (Nat.le_of_ble_eq_true rfl) ?_
  refine ev_aload_n d_AL_size_0 rfl rfl ?_
  refine ev_get d_AL_size_1 fo_AL_48 (by first | assumption | exact pm_up_eq | (refine pm_up_ne (by first | assumption | (apply Ne.symm; assumption)) ?_; first | assumption | exact pm_up_eq | (refine pm_up_ne (by first | assumption | (apply Ne.symm; assumption)) ?_; first | assumption | exact pm_up_eq | (refine pm_up_ne (by first | assumption | (apply Ne.symm; assumption)) ?_; first | assumption | exact pm_up_eq)))) rfl ?_
  exact ev_iret d_AL_size_4 rfl (⟨rfl, rfl⟩)
theorem c_Math_max {x y : Int32} : cn_M l X m_Math_max 0 0 0 [.int x, .int y] G (fun r G' => r = some (.int (if x < y then y else x)) ∧ G' = G) := by
  refine cn_in rfl (Nat.le_of_ble_eq_true rfl) ?_
  refine ev_iload_n d_Math_max_0 rfl rfl ?_
  refine ev_iload_n d_Math_max_1 rfl rfl ?_
  refine ev_icmp_lt 9 d_Math_max_2 (by decide) (fun h => ?_) (fun h => ?_)
  · refine ev_iload_n d_Math_max_9 rfl rfl ?_
    exact ev_iret d_Math_max_10 rfl (⟨by rw [if_pos h], rfl⟩)
  · refine ev_iload_n d_Math_max_5 rfl rfl ?_
    refine ev_goto 10 d_Math_max_6 (by decide) ?_
    exact ev_iret d_Math_max_10 rfl (⟨by rw [if_neg h], rfl⟩)
theorem c_Plan_isIn {a t : Nat} {f0 f1 f3 f4 f5 g0 g2 : Value} {c s i : Int32} (hG : G a = some (.inr (1, [f0, f1, .ref t, f3, f4, f5]))) (ht : G t = some (.inr (10, [g0, .int c, g2]))) : cn_M l X m_Plan_isIn 1 0 0 [.ref a, .int s, .int i] G (fun r G' => r = some (.int (if s &&& 1 <<< ((c - 1 - i) &&& 31) = 0 then 0 else 1)) ∧ G' = G) := by
  refine cn_in rfl (Nat.le_of_ble_eq_true rfl) ?_
  refine ev_iload_n d_Plan_isIn_0 rfl rfl ?_
  refine ev_iconst (v := 1) d_Plan_isIn_1 (by decide) ?_
  refine ev_aload_n d_Plan_isIn_2 rfl rfl ?_
  refine ev_get d_Plan_isIn_3 fo_Plan_18 (by first | assumption | exact pm_up_eq | (refine pm_up_ne (by first | assumption | (apply Ne.symm; assumption)) ?_; first | assumption | exact pm_up_eq | (refine pm_up_ne (by first | assumption | (apply Ne.symm; assumption)) ?_; first | assumption | exact pm_up_eq | (refine pm_up_ne (by first | assumption | (apply Ne.symm; assumption)) ?_; first | assumption | exact pm_up_eq)))) rfl ?_
  refine ev_callV0 d_Plan_isIn_6 ck_AL_size ml_Plan_33 im_AL_size se_AL_size rfl (by first | assumption | exact pm_up_eq | (refine pm_up_ne (by first | assumption | (apply Ne.symm; assumption)) ?_; first | assumption | exact pm_up_eq | (refine pm_up_ne (by first | assumption | (apply Ne.symm; assumption)) ?_; first | assumption | exact pm_up_eq | (refine pm_up_ne (by first | assumption | (apply Ne.symm; assumption)) ?_; first | assumption | exact pm_up_eq)))) (c_AL_size ht) (by omega) (Nat.le_of_ble_eq_true rfl) (by omega) (by omega) ?_
  rintro _ _ ⟨rfl, rfl⟩
  refine ev_iconst (v := 1) d_Plan_isIn_9 (by decide) ?_
  refine ev_isub d_Plan_isIn_10 ?_
  refine ev_iload_n d_Plan_isIn_11 rfl rfl ?_
  refine ev_isub d_Plan_isIn_12 ?_
  refine ev_ishl d_Plan_isIn_13 ?_
  refine ev_iand d_Plan_isIn_14 ?_
  refine ev_if_eq 22 d_Plan_isIn_15 (by decide) (fun h => ?_) (fun h => ?_)
  · refine ev_iconst (v := 0) d_Plan_isIn_22 (by decide) ?_
    exact ev_zret d_Plan_isIn_23 rfl rfl (⟨by rw [if_pos h], rfl⟩)
  · refine ev_iconst (v := 1) d_Plan_isIn_18 (by decide) ?_
    refine ev_goto 23 d_Plan_isIn_19 (by decide) ?_
    exact ev_zret d_Plan_isIn_23 rfl rfl (⟨by rw [if_neg h], rfl⟩)
end LF
