/-! STEP.holds, ANSWERS -/
def hs_B (op num is : Int32) : Bool := if op = 60 then decide (is < num) else if op = 61 then decide (is = num) else if op = 62 then decide (num < is) else !decide (is = num)
def bI (b : Bool) : Int32 := if b then 1 else 0
theorem bI_0 {b : Bool} (h : bI b = 0) : b = false := by
  cases b with
  | false => rfl
  | true => exact absurd h (by decide)
theorem bI_1 {b : Bool} (h : ¬ bI b = 0) : b = true := by
  cases b with
  | true => rfl
  | false => exact absurd rfl h
section AN
variable {l : Launch} {X : pm_X} {G : pm_G} {κ : Nat}
theorem c_Step_holds {a : Nat} {f0 f1 f2 f5 f6 f7 f8 : Value} {op num is : Int32} (hG : G a = some (κ, .inr (5, [f0, f1, f2, .int op, .int num, f5, f6, f7, f8]))) : cn_M l X m_Step_holds 0 0 0 [.ref a, .int is] G (fun r G' => r = some (.int (bI (hs_B op num is))) ∧ G = G') := by
  refine cn_in rfl (Nat.le_of_ble_eq_true rfl) ?_
  refine ev_aload_n d_Step_holds_0 rfl rfl ?_
  refine ev_get d_Step_holds_1 fo_Step_23 (by first | assumption | exact pm_up_eq | (refine pm_up_ne (by first | assumption | (apply Ne.symm; assumption) | exact pm_neK (G := G) (by assumption) (by assumption) (by omega) | exact pm_neOA (G := G) (by assumption) (by assumption) | exact (pm_neOA (G := G) (by assumption) (by assumption)).symm | exact pm_neN (G := G) (by assumption) (by assumption) | exact (pm_neN (G := G) (by assumption) (by assumption)).symm) ?_; first | assumption | exact pm_up_eq | (refine pm_up_ne (by first | assumption | (apply Ne.symm; assumption) | exact pm_neK (G := G) (by assumption) (by assumption) (by omega) | exact pm_neOA (G := G) (by assumption) (by assumption) | exact (pm_neOA (G := G) (by assumption) (by assumption)).symm | exact pm_neN (G := G) (by assumption) (by assumption) | exact (pm_neN (G := G) (by assumption) (by assumption)).symm) ?_; first | assumption | exact pm_up_eq | (refine pm_up_ne (by first | assumption | (apply Ne.symm; assumption) | exact pm_neK (G := G) (by assumption) (by assumption) (by omega) | exact pm_neOA (G := G) (by assumption) (by assumption) | exact (pm_neOA (G := G) (by assumption) (by assumption)).symm | exact pm_neN (G := G) (by assumption) (by assumption) | exact (pm_neN (G := G) (by assumption) (by assumption)).symm) ?_; first | assumption | exact pm_up_eq | (refine pm_up_ne (by first | assumption | (apply Ne.symm; assumption) | exact pm_neK (G := G) (by assumption) (by assumption) (by omega) | exact pm_neOA (G := G) (by assumption) (by assumption) | exact (pm_neOA (G := G) (by assumption) (by assumption)).symm | exact pm_neN (G := G) (by assumption) (by assumption) | exact (pm_neN (G := G) (by assumption) (by assumption)).symm) ?_; first | assumption | exact pm_up_eq | (refine pm_up_ne (by first | assumption | (apply Ne.symm; assumption) | exact pm_neK (G := G) (by assumption) (by assumption) (by omega) | exact pm_neOA (G := G) (by assumption) (by assumption) | exact (pm_neOA (G := G) (by assumption) (by assumption)).symm | exact pm_neN (G := G) (by assumption) (by assumption) | exact (pm_neN (G := G) (by assumption) (by assumption)).symm) ?_; first | assumption | exact pm_up_eq)))))) rfl ?_
  by_cases h60 : op = 60
  · subst h60
    refine ev_tableIn (off := 42) 46 d_Step_holds_4 (by decide) (by decide) (by decide) (by decide) ?_
    refine ev_iload_n d_Step_holds_46 rfl rfl ?_
    refine ev_aload_n d_Step_holds_47 rfl rfl ?_
    refine ev_get d_Step_holds_48 fo_Step_26 (by first | assumption | exact pm_up_eq | (refine pm_up_ne (by first | assumption | (apply Ne.symm; assumption) | exact pm_neK (G := G) (by assumption) (by assumption) (by omega) | exact pm_neOA (G := G) (by assumption) (by assumption) | exact (pm_neOA (G := G) (by assumption) (by assumption)).symm | exact pm_neN (G := G) (by assumption) (by assumption) | exact (pm_neN (G := G) (by assumption) (by assumption)).symm) ?_; first | assumption | exact pm_up_eq | (refine pm_up_ne (by first | assumption | (apply Ne.symm; assumption) | exact pm_neK (G := G) (by assumption) (by assumption) (by omega) | exact pm_neOA (G := G) (by assumption) (by assumption) | exact (pm_neOA (G := G) (by assumption) (by assumption)).symm | exact pm_neN (G := G) (by assumption) (by assumption) | exact (pm_neN (G := G) (by assumption) (by assumption)).symm) ?_; first | assumption | exact pm_up_eq | (refine pm_up_ne (by first | assumption | (apply Ne.symm; assumption) | exact pm_neK (G := G) (by assumption) (by assumption) (by omega) | exact pm_neOA (G := G) (by assumption) (by assumption) | exact (pm_neOA (G := G) (by assumption) (by assumption)).symm | exact pm_neN (G := G) (by assumption) (by assumption) | exact (pm_neN (G := G) (by assumption) (by assumption)).symm) ?_; first | assumption | exact pm_up_eq | (refine pm_up_ne (by first | assumption | (apply Ne.symm; assumption) | exact pm_neK (G := G) (by assumption) (by assumption) (by omega) | exact pm_neOA (G := G) (by assumption) (by assumption) | exact (pm_neOA (G := G) (by assumption) (by assumption)).symm | exact pm_neN (G := G) (by assumption) (by assumption) | exact (pm_neN (G := G) (by assumption) (by assumption)).symm) ?_; first | assumption | exact pm_up_eq | (refine pm_up_ne (by first | assumption | (apply Ne.symm; assumption) | exact pm_neK (G := G) (by assumption) (by assumption) (by omega) | exact pm_neOA (G := G) (by assumption) (by assumption) | exact (pm_neOA (G := G) (by assumption) (by assumption)).symm | exact pm_neN (G := G) (by assumption) (by assumption) | exact (pm_neN (G := G) (by assumption) (by assumption)).symm) ?_; first | assumption | exact pm_up_eq)))))) rfl ?_
    refine ev_icmp_ge 58 d_Step_holds_51 (by decide) (fun h => ?_) (fun h => ?_)
    · refine ev_iconst (v := 0) d_Step_holds_58 (by decide) ?_
      exact ev_zret d_Step_holds_59 rfl rfl (⟨by rw [show hs_B 60 num is = false from decide_eq_false (fun z => absurd h (Int32.not_le.mpr z))]; rfl, rfl⟩)
    · refine ev_iconst (v := 1) d_Step_holds_54 (by decide) ?_
      refine ev_goto 59 d_Step_holds_55 (by decide) ?_
      exact ev_zret d_Step_holds_59 rfl rfl (⟨by rw [show hs_B 60 num is = true from decide_eq_true (Int32.not_le.mp h)]; rfl, rfl⟩)
  by_cases h61 : op = 61
  · subst h61
    refine ev_tableIn (off := 28) 32 d_Step_holds_4 (by decide) (by decide) (by decide) (by decide) ?_
    refine ev_iload_n d_Step_holds_32 rfl rfl ?_
    refine ev_aload_n d_Step_holds_33 rfl rfl ?_
    refine ev_get d_Step_holds_34 fo_Step_26 (by first | assumption | exact pm_up_eq | (refine pm_up_ne (by first | assumption | (apply Ne.symm; assumption) | exact pm_neK (G := G) (by assumption) (by assumption) (by omega) | exact pm_neOA (G := G) (by assumption) (by assumption) | exact (pm_neOA (G := G) (by assumption) (by assumption)).symm | exact pm_neN (G := G) (by assumption) (by assumption) | exact (pm_neN (G := G) (by assumption) (by assumption)).symm) ?_; first | assumption | exact pm_up_eq | (refine pm_up_ne (by first | assumption | (apply Ne.symm; assumption) | exact pm_neK (G := G) (by assumption) (by assumption) (by omega) | exact pm_neOA (G := G) (by assumption) (by assumption) | exact (pm_neOA (G := G) (by assumption) (by assumption)).symm | exact pm_neN (G := G) (by assumption) (by assumption) | exact (pm_neN (G := G) (by assumption) (by assumption)).symm) ?_; first | assumption | exact pm_up_eq | (refine pm_up_ne (by first | assumption | (apply Ne.symm; assumption) | exact pm_neK (G := G) (by assumption) (by assumption) (by omega) | exact pm_neOA (G := G) (by assumption) (by assumption) | exact (pm_neOA (G := G) (by assumption) (by assumption)).symm | exact pm_neN (G := G) (by assumption) (by assumption) | exact (pm_neN (G := G) (by assumption) (by assumption)).symm) ?_; first | assumption | exact pm_up_eq | (refine pm_up_ne (by first | assumption | (apply Ne.symm; assumption) | exact pm_neK (G := G) (by assumption) (by assumption) (by omega) | exact pm_neOA (G := G) (by assumption) (by assumption) | exact (pm_neOA (G := G) (by assumption) (by assumption)).symm | exact pm_neN (G := G) (by assumption) (by assumption) | exact (pm_neN (G := G) (by assumption) (by assumption)).symm) ?_; first | assumption | exact pm_up_eq | (refine pm_up_ne (by first | assumption | (apply Ne.symm; assumption) | exact pm_neK (G := G) (by assumption) (by assumption) (by omega) | exact pm_neOA (G := G) (by assumption) (by assumption) | exact (pm_neOA (G := G) (by assumption) (by assumption)).symm | exact pm_neN (G := G) (by assumption) (by assumption) | exact (pm_neN (G := G) (by assumption) (by assumption)).symm) ?_; first | assumption | exact pm_up_eq)))))) rfl ?_
    refine ev_icmp_ne 44 d_Step_holds_37 (by decide) (fun h => ?_) (fun h => ?_)
    · refine ev_iconst (v := 0) d_Step_holds_44 (by decide) ?_
      exact ev_zret d_Step_holds_45 rfl rfl (⟨by rw [show hs_B 61 num is = false from decide_eq_false h]; rfl, rfl⟩)
    · refine ev_iconst (v := 1) d_Step_holds_40 (by decide) ?_
      refine ev_goto 45 d_Step_holds_41 (by decide) ?_
      exact ev_zret d_Step_holds_45 rfl rfl (⟨by rw [show hs_B 61 num is = true from decide_eq_true h]; rfl, rfl⟩)
  by_cases h62 : op = 62
  · subst h62
    refine ev_tableIn (off := 56) 60 d_Step_holds_4 (by decide) (by decide) (by decide) (by decide) ?_
    refine ev_iload_n d_Step_holds_60 rfl rfl ?_
    refine ev_aload_n d_Step_holds_61 rfl rfl ?_
    refine ev_get d_Step_holds_62 fo_Step_26 (by first | assumption | exact pm_up_eq | (refine pm_up_ne (by first | assumption | (apply Ne.symm; assumption) | exact pm_neK (G := G) (by assumption) (by assumption) (by omega) | exact pm_neOA (G := G) (by assumption) (by assumption) | exact (pm_neOA (G := G) (by assumption) (by assumption)).symm | exact pm_neN (G := G) (by assumption) (by assumption) | exact (pm_neN (G := G) (by assumption) (by assumption)).symm) ?_; first | assumption | exact pm_up_eq | (refine pm_up_ne (by first | assumption | (apply Ne.symm; assumption) | exact pm_neK (G := G) (by assumption) (by assumption) (by omega) | exact pm_neOA (G := G) (by assumption) (by assumption) | exact (pm_neOA (G := G) (by assumption) (by assumption)).symm | exact pm_neN (G := G) (by assumption) (by assumption) | exact (pm_neN (G := G) (by assumption) (by assumption)).symm) ?_; first | assumption | exact pm_up_eq | (refine pm_up_ne (by first | assumption | (apply Ne.symm; assumption) | exact pm_neK (G := G) (by assumption) (by assumption) (by omega) | exact pm_neOA (G := G) (by assumption) (by assumption) | exact (pm_neOA (G := G) (by assumption) (by assumption)).symm | exact pm_neN (G := G) (by assumption) (by assumption) | exact (pm_neN (G := G) (by assumption) (by assumption)).symm) ?_; first | assumption | exact pm_up_eq | (refine pm_up_ne (by first | assumption | (apply Ne.symm; assumption) | exact pm_neK (G := G) (by assumption) (by assumption) (by omega) | exact pm_neOA (G := G) (by assumption) (by assumption) | exact (pm_neOA (G := G) (by assumption) (by assumption)).symm | exact pm_neN (G := G) (by assumption) (by assumption) | exact (pm_neN (G := G) (by assumption) (by assumption)).symm) ?_; first | assumption | exact pm_up_eq | (refine pm_up_ne (by first | assumption | (apply Ne.symm; assumption) | exact pm_neK (G := G) (by assumption) (by assumption) (by omega) | exact pm_neOA (G := G) (by assumption) (by assumption) | exact (pm_neOA (G := G) (by assumption) (by assumption)).symm | exact pm_neN (G := G) (by assumption) (by assumption) | exact (pm_neN (G := G) (by assumption) (by assumption)).symm) ?_; first | assumption | exact pm_up_eq)))))) rfl ?_
    refine ev_icmp_le 72 d_Step_holds_65 (by decide) (fun h => ?_) (fun h => ?_)
    · refine ev_iconst (v := 0) d_Step_holds_72 (by decide) ?_
      exact ev_zret d_Step_holds_73 rfl rfl (⟨by rw [show hs_B 62 num is = false from decide_eq_false (fun z => absurd h (Int32.not_le.mpr z))]; rfl, rfl⟩)
    · refine ev_iconst (v := 1) d_Step_holds_68 (by decide) ?_
      refine ev_goto 73 d_Step_holds_69 (by decide) ?_
      exact ev_zret d_Step_holds_73 rfl rfl (⟨by rw [show hs_B 62 num is = true from decide_eq_true (Int32.not_le.mp h)]; rfl, rfl⟩)
  · have hb : hs_B op num is = !decide (is = num) := by unfold hs_B; rw [if_neg h60, if_neg h61, if_neg h62]
    have e0 := lv_neT (a := 60) h60 (by decide)
    have e1 := lv_neT (a := 61) h61 (by decide)
    have e2 := lv_neT (a := 62) h62 (by decide)
    refine ev_tableOut 74 d_Step_holds_4 (by omega) (by decide) ?_
    refine ev_iload_n d_Step_holds_74 rfl rfl ?_
    refine ev_aload_n d_Step_holds_75 rfl rfl ?_
    refine ev_get d_Step_holds_76 fo_Step_26 (by first | assumption | exact pm_up_eq | (refine pm_up_ne (by first | assumption | (apply Ne.symm; assumption) | exact pm_neK (G := G) (by assumption) (by assumption) (by omega) | exact pm_neOA (G := G) (by assumption) (by assumption) | exact (pm_neOA (G := G) (by assumption) (by assumption)).symm | exact pm_neN (G := G) (by assumption) (by assumption) | exact (pm_neN (G := G) (by assumption) (by assumption)).symm) ?_; first | assumption | exact pm_up_eq | (refine pm_up_ne (by first | assumption | (apply Ne.symm; assumption) | exact pm_neK (G := G) (by assumption) (by assumption) (by omega) | exact pm_neOA (G := G) (by assumption) (by assumption) | exact (pm_neOA (G := G) (by assumption) (by assumption)).symm | exact pm_neN (G := G) (by assumption) (by assumption) | exact (pm_neN (G := G) (by assumption) (by assumption)).symm) ?_; first | assumption | exact pm_up_eq | (refine pm_up_ne (by first | assumption | (apply Ne.symm; assumption) | exact pm_neK (G := G) (by assumption) (by assumption) (by omega) | exact pm_neOA (G := G) (by assumption) (by assumption) | exact (pm_neOA (G := G) (by assumption) (by assumption)).symm | exact pm_neN (G := G) (by assumption) (by assumption) | exact (pm_neN (G := G) (by assumption) (by assumption)).symm) ?_; first | assumption | exact pm_up_eq | (refine pm_up_ne (by first | assumption | (apply Ne.symm; assumption) | exact pm_neK (G := G) (by assumption) (by assumption) (by omega) | exact pm_neOA (G := G) (by assumption) (by assumption) | exact (pm_neOA (G := G) (by assumption) (by assumption)).symm | exact pm_neN (G := G) (by assumption) (by assumption) | exact (pm_neN (G := G) (by assumption) (by assumption)).symm) ?_; first | assumption | exact pm_up_eq | (refine pm_up_ne (by first | assumption | (apply Ne.symm; assumption) | exact pm_neK (G := G) (by assumption) (by assumption) (by omega) | exact pm_neOA (G := G) (by assumption) (by assumption) | exact (pm_neOA (G := G) (by assumption) (by assumption)).symm | exact pm_neN (G := G) (by assumption) (by assumption) | exact (pm_neN (G := G) (by assumption) (by assumption)).symm) ?_; first | assumption | exact pm_up_eq)))))) rfl ?_
    refine ev_icmp_eq 86 d_Step_holds_79 (by decide) (fun h => ?_) (fun h => ?_)
    · refine ev_iconst (v := 0) d_Step_holds_86 (by decide) ?_
      exact ev_zret d_Step_holds_87 rfl rfl (⟨by rw [hb, decide_eq_true h]; rfl, rfl⟩)
    · refine ev_iconst (v := 1) d_Step_holds_82 (by decide) ?_
      refine ev_goto 87 d_Step_holds_83 (by decide) ?_
      exact ev_zret d_Step_holds_87 rfl rfl (⟨by rw [hb, decide_eq_false h]; rfl, rfl⟩)
/-- the key of a value and a time -/
def an_key (v t : Nat) : Nat := v * 100001 + (if t < 100000 then t else 100000)
theorem c_Ans_keyOf {v t : Nat} (hv : v ≤ 20) (ht : t < 2 ^ 31) : cn_M l X m_Ans_keyOf 0 0 0 [.int (nI v), .int (nI t)] G (fun r G' => r = some (.int (nI (an_key v t))) ∧ G = G') := by
  refine cn_in rfl (Nat.le_of_ble_eq_true rfl) ?_
  refine ev_iload_n d_Ans_keyOf_0 rfl rfl ?_
  refine ev_ldc d_Ans_keyOf_1 hw_177 ?_
  refine ev_imul d_Ans_keyOf_3 ?_
  refine ev_iload_n d_Ans_keyOf_4 rfl rfl ?_
  refine ev_ldc d_Ans_keyOf_5 hw_178 ?_
  refine ev_icmp_ge 14 d_Ans_keyOf_7 (by decide) (fun h => ?_) (fun h => ?_)
  · refine ev_ldc d_Ans_keyOf_14 hw_178 ?_
    refine ev_iadd d_Ans_keyOf_16 ?_
    refine ev_iret d_Ans_keyOf_17 rfl ⟨?_, rfl⟩
    have h2 : ¬ t < 100000 := fun z => absurd h (nI_ge (b := 100000) z (by decide))
    unfold an_key
    rw [if_neg h2, show (100001 : Int32) = nI 100001 from rfl, show (100000 : Int32) = nI 100000 from rfl, pk_mul, nI_add]
  · refine ev_iload_n d_Ans_keyOf_10 rfl rfl ?_
    refine ev_goto 16 d_Ans_keyOf_11 (by decide) ?_
    refine ev_iadd d_Ans_keyOf_16 ?_
    refine ev_iret d_Ans_keyOf_17 rfl ⟨?_, rfl⟩
    have h2 : t < 100000 := by
      rcases Nat.lt_or_ge t 100000 with q | q
      · exact q
      · exact absurd (nI_le (a := 100000) q (by omega)) h
    unfold an_key
    rw [if_pos h2, show (100001 : Int32) = nI 100001 from rfl, pk_mul, nI_add]
theorem c_Ans_keyOfM {v : Nat} (h0 : 0 < v) (hv : v ≤ 20) : cn_M l X m_Ans_keyOf 0 0 0 [.int (nI v), .int (-1)] G (fun r G' => r = some (.int (nI (v * 100001 - 1))) ∧ G = G') := by
  refine cn_in rfl (Nat.le_of_ble_eq_true rfl) ?_
  refine ev_iload_n d_Ans_keyOf_0 rfl rfl ?_
  refine ev_ldc d_Ans_keyOf_1 hw_177 ?_
  refine ev_imul d_Ans_keyOf_3 ?_
  refine ev_iload_n d_Ans_keyOf_4 rfl rfl ?_
  refine ev_ldc d_Ans_keyOf_5 hw_178 ?_
  refine ev_icmp_ge 14 d_Ans_keyOf_7 (by decide) (fun h => ?_) (fun h => ?_)
  · exact absurd h (by decide)
  · refine ev_iload_n d_Ans_keyOf_10 rfl rfl ?_
    refine ev_goto 16 d_Ans_keyOf_11 (by decide) ?_
    refine ev_iadd d_Ans_keyOf_16 ?_
    refine ev_iret d_Ans_keyOf_17 rfl ⟨?_, rfl⟩
    rw [show (100001 : Int32) = nI 100001 from rfl, pk_mul, show v * 100001 = (v * 100001 - 1) + 1 by omega, pk_m1]
    congr 1
/-- the kept answers: keys rising, what each says; how many were told -/
def an_at (κ : Nat) (G : pm_G) (a ka va : Nat) (n told : Nat) (kf : Nat → Nat) (vf : Nat → Int32) : Prop :=
  G a = some (κ, .inr (2, [.ref ka, .ref va, .int (nI n), .int (nI told)])) ∧ n ≤ told ∧ told ≤ 200 ∧ (∃ f, G ka = some (κ + 1, .inl (0, 200, .inl f)) ∧ ∀ i, i < n → f i = nI (kf i)) ∧ (∃ g, G va = some (κ + 2, .inl (0, 200, .inl g)) ∧ ∀ i, i < n → g i = vf i) ∧ (∀ i, i < n → kf i < 2 ^ 30) ∧ ∀ i j, i < j → j < n → kf i < kf j
theorem c_Ans_countUpTo {a ka va n told K : Nat} {kf : Nat → Nat} {vf : Nat → Int32} (h : an_at κ G a ka va n told kf vf) (hK : K < 2 ^ 31) : cn_M l X m_Ans_countUpTo 0 0 0 [.ref a, .int (nI K)] G (fun r G' => ∃ c, c ≤ n ∧ (∀ i, i < c → kf i ≤ K) ∧ (∀ i, c ≤ i → i < n → K < kf i) ∧ r = some (.int (nI c)) ∧ G = G') := by
  obtain ⟨hG, hn, ht, ⟨f, hf, hfe⟩, -, hkb, hs⟩ := h
  refine cn_in rfl (Nat.le_of_ble_eq_true rfl) ?_
  have loop : ∀ (m lo hi : Nat) (w : Value), lo ≤ hi → hi ≤ n → hi - lo < m → (∀ i, i < lo → kf i ≤ K) → (∀ i, hi ≤ i → i < n → K < kf i) → ev_W l X m_Ans_countUpTo 0 0 0 (fun r G' => ∃ c, c ≤ n ∧ (∀ i, i < c → kf i ≤ K) ∧ (∀ i, c ≤ i → i < n → K < kf i) ∧ r = some (.int (nI c)) ∧ G = G') 0 0 7 [(0, .ref a), (1, .int (nI K)), (2, .int (nI lo)), (3, .int (nI hi))] [] G := by
    intro m
    induction m with
    | zero => intro lo hi w h1 h2 h3; omega
    | succ m ih =>
      intro lo hi w h1 h2 h3 h4 h5
      refine ev_iload_n d_Ans_countUpTo_7 rfl rfl ?_
      refine ev_iload_n d_Ans_countUpTo_8 rfl rfl ?_
      refine ev_icmp_ge 44 d_Ans_countUpTo_9 (by decide) (fun hc => ?_) (fun hc => ?_)
      · have e : lo = hi := by
          rcases Nat.lt_or_ge lo hi with q | q
          · exact absurd hc (nI_ge q (by omega))
          · omega
        subst e
        refine ev_iload_n d_Ans_countUpTo_44 rfl rfl ?_
        exact ev_iret d_Ans_countUpTo_45 rfl (⟨lo, h2, h4, h5, rfl, rfl⟩)
      · have hlt : lo < hi := by
          rcases Nat.lt_or_ge lo hi with q | q
          · exact q
          · exact absurd (nI_le q (by omega)) hc
        have emid : (nI lo + nI hi) / 2 = nI ((lo + hi) / 2) := by
          rw [nI_add]
          exact pk_div (by omega) (by decide) (by decide)
        have hm1 : (lo + hi) / 2 < hi := by omega
        have hm2 : lo ≤ (lo + hi) / 2 := by omega
        refine ev_iload_n d_Ans_countUpTo_12 rfl rfl ?_
        refine ev_iload_n d_Ans_countUpTo_13 rfl rfl ?_
        refine ev_iadd d_Ans_countUpTo_14 ?_
        refine ev_iconst (v := 2) d_Ans_countUpTo_15 (by decide) ?_
        refine ev_idiv d_Ans_countUpTo_16 (by decide) ?_
        rw [emid]
        refine ev_istore d_Ans_countUpTo_17 (by decide) ?_
        refine ev_aload_n d_Ans_countUpTo_19 rfl rfl ?_
        refine ev_get d_Ans_countUpTo_20 fo_Ans_9 (by first | assumption | exact pm_up_eq | (refine pm_up_ne (by first | assumption | (apply Ne.symm; assumption) | exact pm_neK (G := G) (by assumption) (by assumption) (by omega) | exact pm_neOA (G := G) (by assumption) (by assumption) | exact (pm_neOA (G := G) (by assumption) (by assumption)).symm | exact pm_neN (G := G) (by assumption) (by assumption) | exact (pm_neN (G := G) (by assumption) (by assumption)).symm) ?_; first | assumption | exact pm_up_eq | (refine pm_up_ne (by first | assumption | (apply Ne.symm; assumption) | exact pm_neK (G := G) (by assumption) (by assumption) (by omega) | exact pm_neOA (G := G) (by assumption) (by assumption) | exact (pm_neOA (G := G) (by assumption) (by assumption)).symm | exact pm_neN (G := G) (by assumption) (by assumption) | exact (pm_neN (G := G) (by assumption) (by assumption)).symm) ?_; first | assumption | exact pm_up_eq | (refine pm_up_ne (by first | assumption | (apply Ne.symm; assumption) | exact pm_neK (G := G) (by assumption) (by assumption) (by omega) | exact pm_neOA (G := G) (by assumption) (by assumption) | exact (pm_neOA (G := G) (by assumption) (by assumption)).symm | exact pm_neN (G := G) (by assumption) (by assumption) | exact (pm_neN (G := G) (by assumption) (by assumption)).symm) ?_; first | assumption | exact pm_up_eq | (refine pm_up_ne (by first | assumption | (apply Ne.symm; assumption) | exact pm_neK (G := G) (by assumption) (by assumption) (by omega) | exact pm_neOA (G := G) (by assumption) (by assumption) | exact (pm_neOA (G := G) (by assumption) (by assumption)).symm | exact pm_neN (G := G) (by assumption) (by assumption) | exact (pm_neN (G := G) (by assumption) (by assumption)).symm) ?_; first | assumption | exact pm_up_eq | (refine pm_up_ne (by first | assumption | (apply Ne.symm; assumption) | exact pm_neK (G := G) (by assumption) (by assumption) (by omega) | exact pm_neOA (G := G) (by assumption) (by assumption) | exact (pm_neOA (G := G) (by assumption) (by assumption)).symm | exact pm_neN (G := G) (by assumption) (by assumption) | exact (pm_neN (G := G) (by assumption) (by assumption)).symm) ?_; first | assumption | exact pm_up_eq)))))) rfl ?_
        refine ev_iload d_Ans_countUpTo_23 rfl ?_
        refine ev_iald d_Ans_countUpTo_25 rfl (by first | assumption | exact pm_up_eq | (refine pm_up_ne (by first | assumption | (apply Ne.symm; assumption) | exact pm_neK (G := G) (by assumption) (by assumption) (by omega) | exact pm_neOA (G := G) (by assumption) (by assumption) | exact (pm_neOA (G := G) (by assumption) (by assumption)).symm | exact pm_neN (G := G) (by assumption) (by assumption) | exact (pm_neN (G := G) (by assumption) (by assumption)).symm) ?_; first | assumption | exact pm_up_eq | (refine pm_up_ne (by first | assumption | (apply Ne.symm; assumption) | exact pm_neK (G := G) (by assumption) (by assumption) (by omega) | exact pm_neOA (G := G) (by assumption) (by assumption) | exact (pm_neOA (G := G) (by assumption) (by assumption)).symm | exact pm_neN (G := G) (by assumption) (by assumption) | exact (pm_neN (G := G) (by assumption) (by assumption)).symm) ?_; first | assumption | exact pm_up_eq | (refine pm_up_ne (by first | assumption | (apply Ne.symm; assumption) | exact pm_neK (G := G) (by assumption) (by assumption) (by omega) | exact pm_neOA (G := G) (by assumption) (by assumption) | exact (pm_neOA (G := G) (by assumption) (by assumption)).symm | exact pm_neN (G := G) (by assumption) (by assumption) | exact (pm_neN (G := G) (by assumption) (by assumption)).symm) ?_; first | assumption | exact pm_up_eq | (refine pm_up_ne (by first | assumption | (apply Ne.symm; assumption) | exact pm_neK (G := G) (by assumption) (by assumption) (by omega) | exact pm_neOA (G := G) (by assumption) (by assumption) | exact (pm_neOA (G := G) (by assumption) (by assumption)).symm | exact pm_neN (G := G) (by assumption) (by assumption) | exact (pm_neN (G := G) (by assumption) (by assumption)).symm) ?_; first | assumption | exact pm_up_eq | (refine pm_up_ne (by first | assumption | (apply Ne.symm; assumption) | exact pm_neK (G := G) (by assumption) (by assumption) (by omega) | exact pm_neOA (G := G) (by assumption) (by assumption) | exact (pm_neOA (G := G) (by assumption) (by assumption)).symm | exact pm_neN (G := G) (by assumption) (by assumption) | exact (pm_neN (G := G) (by assumption) (by assumption)).symm) ?_; first | assumption | exact pm_up_eq)))))) (by first | assumption | exact vp_in_nI (by omega) (by omega)) ?_
        refine ev_iload_n d_Ans_countUpTo_26 rfl rfl ?_
        rw [nI_clamp (by omega), hfe _ (by omega)]
        refine ev_icmp_gt 38 d_Ans_countUpTo_27 (by decide) (fun hd => ?_) (fun hd => ?_)
        · have hKl : K < kf ((lo + hi) / 2) := (nI_ltI (by omega) (by have := hkb ((lo + hi) / 2) (by omega); omega)).mp hd
          refine ev_iload d_Ans_countUpTo_38 rfl ?_
          refine ev_istore_n d_Ans_countUpTo_40 rfl (by decide) ?_
          refine ev_goto 7 d_Ans_countUpTo_41 (by decide) ?_
          refine ev_keep [0, 1, 2, 3] ?_
          refine ih lo ((lo + hi) / 2) w hm2 (by omega) (by omega) h4 ?_
          intro i q1 q2
          rcases Nat.lt_or_ge ((lo + hi) / 2) i with q | q
          · have := hs ((lo + hi) / 2) i q q2
            omega
          · rw [show i = (lo + hi) / 2 by omega]
            exact hKl
        · have hKl : kf ((lo + hi) / 2) ≤ K := by
            rcases Nat.lt_or_ge K (kf ((lo + hi) / 2)) with q | q
            · exact absurd (nI_lt q (by have := hkb ((lo + hi) / 2) (by omega); omega)) hd
            · exact q
          refine ev_iload d_Ans_countUpTo_30 rfl ?_
          refine ev_iconst (v := 1) d_Ans_countUpTo_32 (by decide) ?_
          refine ev_iadd d_Ans_countUpTo_33 ?_
          rw [nI_1]
          refine ev_istore_n d_Ans_countUpTo_34 rfl (by decide) ?_
          refine ev_goto 41 d_Ans_countUpTo_35 (by decide) ?_
          refine ev_goto 7 d_Ans_countUpTo_41 (by decide) ?_
          refine ev_keep [0, 1, 2, 3] ?_
          refine ih ((lo + hi) / 2 + 1) hi w (by omega) h2 (by omega) ?_ h5
          intro i q1
          rcases Nat.lt_or_ge i ((lo + hi) / 2) with q | q
          · have := hs i ((lo + hi) / 2) q (by omega)
            omega
          · rw [show i = (lo + hi) / 2 by omega]
            exact hKl
  refine ev_iconst (v := 0) d_Ans_countUpTo_0 (by decide) ?_
  refine ev_istore_n d_Ans_countUpTo_1 rfl (by decide) ?_
  refine ev_aload_n d_Ans_countUpTo_2 rfl rfl ?_
  refine ev_get d_Ans_countUpTo_3 fo_Ans_18 (by first | assumption | exact pm_up_eq | (refine pm_up_ne (by first | assumption | (apply Ne.symm; assumption) | exact pm_neK (G := G) (by assumption) (by assumption) (by omega) | exact pm_neOA (G := G) (by assumption) (by assumption) | exact (pm_neOA (G := G) (by assumption) (by assumption)).symm | exact pm_neN (G := G) (by assumption) (by assumption) | exact (pm_neN (G := G) (by assumption) (by assumption)).symm) ?_; first | assumption | exact pm_up_eq | (refine pm_up_ne (by first | assumption | (apply Ne.symm; assumption) | exact pm_neK (G := G) (by assumption) (by assumption) (by omega) | exact pm_neOA (G := G) (by assumption) (by assumption) | exact (pm_neOA (G := G) (by assumption) (by assumption)).symm | exact pm_neN (G := G) (by assumption) (by assumption) | exact (pm_neN (G := G) (by assumption) (by assumption)).symm) ?_; first | assumption | exact pm_up_eq | (refine pm_up_ne (by first | assumption | (apply Ne.symm; assumption) | exact pm_neK (G := G) (by assumption) (by assumption) (by omega) | exact pm_neOA (G := G) (by assumption) (by assumption) | exact (pm_neOA (G := G) (by assumption) (by assumption)).symm | exact pm_neN (G := G) (by assumption) (by assumption) | exact (pm_neN (G := G) (by assumption) (by assumption)).symm) ?_; first | assumption | exact pm_up_eq | (refine pm_up_ne (by first | assumption | (apply Ne.symm; assumption) | exact pm_neK (G := G) (by assumption) (by assumption) (by omega) | exact pm_neOA (G := G) (by assumption) (by assumption) | exact (pm_neOA (G := G) (by assumption) (by assumption)).symm | exact pm_neN (G := G) (by assumption) (by assumption) | exact (pm_neN (G := G) (by assumption) (by assumption)).symm) ?_; first | assumption | exact pm_up_eq | (refine pm_up_ne (by first | assumption | (apply Ne.symm; assumption) | exact pm_neK (G := G) (by assumption) (by assumption) (by omega) | exact pm_neOA (G := G) (by assumption) (by assumption) | exact (pm_neOA (G := G) (by assumption) (by assumption)).symm | exact pm_neN (G := G) (by assumption) (by assumption) | exact (pm_neN (G := G) (by assumption) (by assumption)).symm) ?_; first | assumption | exact pm_up_eq)))))) rfl ?_
  refine ev_istore_n d_Ans_countUpTo_6 rfl (by decide) ?_
  exact loop (n + 1) 0 n .null (Nat.zero_le _) (Nat.le_refl _) (by omega) (fun i hi => absurd hi (by omega)) (fun i h1 h2 => absurd h2 (by omega))
end AN
